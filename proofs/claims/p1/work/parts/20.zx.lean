def z0 : Nat → Int32 := fun _ => 0
def zz : Nat → Nat → Int32 := fun _ _ => 0
def zL : Nat → Int64 := fun _ => 0
theorem no_site (x : Int32) : ¬ (0 ≤ x ∧ x ≤ (-1)) := by
  intro ⟨h1, h2⟩
  rw [Int32.le_iff_toInt_le] at h1 h2
  have e0 : (0 : Int32).toInt = 0 := by decide
  have e1 : (-1 : Int32).toInt = -1 := by decide
  omega
theorem sw_in9 {x : Int32} (h : 0 ≤ x ∧ x ≤ 9) : x = 0 ∨ x = 1 ∨ x = 2 ∨ x = 3 ∨ x = 4 ∨ x = 5 ∨ x = 6 ∨ x = 7 ∨ x = 8 ∨ x = 9 := by
  obtain ⟨j, hj, rfl⟩ := nI_of2 (x := x) (M := 9) (n := 9) (by decide) (Int32.not_lt.mpr h.1) h.2
  rcases (show j = 0 ∨ j = 1 ∨ j = 2 ∨ j = 3 ∨ j = 4 ∨ j = 5 ∨ j = 6 ∨ j = 7 ∨ j = 8 ∨ j = 9 by omega) with rfl | rfl | rfl | rfl | rfl | rfl | rfl | rfl | rfl | rfl <;> decide
theorem sw_out9 {x : Int32} (h : ¬ (0 ≤ x ∧ x ≤ 9)) : x.toInt < 0 ∨ 9 < x.toInt := by
  rw [Int32.le_iff_toInt_le, Int32.le_iff_toInt_le] at h
  have e0 : (0 : Int32).toInt = 0 := by decide
  have e1 : (9 : Int32).toInt = 9 := by decide
  omega
set_option maxHeartbeats 4000000 in
set_option maxRecDepth 100000 in
/-- is it within -/
theorem c_isWithin (l : Launch) (D : va_G) (cI cB : ClassId)  (p0 : Int32) (p1 : Int32) (p2 : Int32) : Met l yX2_isWithin wsX2_isWithin ({ frames := 0, cells := 0, slots := 0, locals := 0 }) (GPc D cI cB ([]) [.int p0, .int p1, .int p2]) (QcRead (if p1 ≤ p0 ∧ p0 ≤ p2 then 1 else 0)) 0 0 (fun _ => False) := by
  refine Met.ofW (cc := cX2_isWithin) (maxL := 3) (ret := (some .boolean)) (by decide) rfl ?_
  intro p e s m args below meth c s₁ B hml hv
  obtain ⟨rfl, hP, hK⟩ := hv
  have hts := atoms_spec (ws := wsX2_isWithin) B.pre
  have E : CallFix p m c cX2_isWithin 3 s _ wsX2_isWithin RX2 := ⟨B.exec, B.bytes, hml, findClass_of_methodNamed B.named, hts⟩
  have hr := B.returns
  have hlocks := B.notSynchronized
  have hl := lv_entry ([.int p0, .int p1, .int p2]) (n := 3) (Nat.le_of_ble_eq_true rfl)
  rw [lg_entry_eq]
  generalize (lg_sl ([.int p0, .int p1, .int p2]) ++ List.replicate (3 - (lg_sl ([.int p0, .int p1, .int p2])).length) Slot.unset).toArray = ls at hl ⊢
  have hl : lv_has ls 3 [(0, .int p0), (1, .int p1), (2, .int p2)] := hl
  refine lv_iload_n E.1 E.2.1 dX2_isWithin_0 rfl (lv_at hl 0 rfl) ?_
  refine lv_iload_n E.1 E.2.1 dX2_isWithin_1 rfl (lv_at hl 1 rfl) ?_
  refine lv_icmp_lt (x := p0) (y := p1) (tgt := 14) E.1 E.2.1 dX2_isWithin_2 (by decide) (fun h2 => ?_) (fun h2 => ?_)
  · 
    refine lv_iconst (v := 0) E.1 E.2.1 dX2_isWithin_14 (by decide) ?_
    exact W.zret (v := 0) E.1 E.2.1 hr rfl (fun t ht _ => ⟨(congrArg (fun z : Int32 => Outcome.returned (some (Value.int z))) ((if_neg (fun h9 => absurd h9.1 (Int32.not_le.mpr h2))).symm)), ht⟩) (fun q hq => by cases hq) dX2_isWithin_15
  · 
    refine lv_iload_n E.1 E.2.1 dX2_isWithin_5 rfl (lv_at hl 0 rfl) ?_
    refine lv_iload_n E.1 E.2.1 dX2_isWithin_6 rfl (lv_at hl 2 rfl) ?_
    refine lv_icmp_gt (x := p0) (y := p2) (tgt := 14) E.1 E.2.1 dX2_isWithin_7 (by decide) (fun h7 => ?_) (fun h7 => ?_)
    · 
      refine lv_iconst (v := 0) E.1 E.2.1 dX2_isWithin_14 (by decide) ?_
      exact W.zret (v := 0) E.1 E.2.1 hr rfl (fun t ht _ => ⟨(congrArg (fun z : Int32 => Outcome.returned (some (Value.int z))) ((if_neg (fun h9 => absurd h9.2 (Int32.not_le.mpr h7))).symm)), ht⟩) (fun q hq => by cases hq) dX2_isWithin_15
    · 
      refine lv_iconst (v := 1) E.1 E.2.1 dX2_isWithin_10 (by decide) ?_
      refine lv_goto (tgt := 15) E.1 E.2.1 dX2_isWithin_11 (by decide) ?_
      exact W.zret (v := 1) E.1 E.2.1 hr rfl (fun t ht _ => ⟨(congrArg (fun z : Int32 => Outcome.returned (some (Value.int z))) ((if_pos ⟨Int32.not_lt.mp h2, Int32.not_lt.mp h7⟩).symm)), ht⟩) (fun q hq => by cases hq) dX2_isWithin_15
set_option maxHeartbeats 4000000 in
set_option maxRecDepth 100000 in
/-- is it within -/
theorem m_within (l : Launch) (D : va_G) (cI cB : ClassId)  (p0 : Int32) (p1 : Int32) (p2 : Int32) : Met l yX3_within wsX3_within ({ frames := 0, cells := 0, slots := 0, locals := 0 }) (GPc D cI cB ([]) [.int p0, .int p1, .int p2]) (QcRead (if p1 ≤ p0 ∧ p0 ≤ p2 then 1 else 0)) 0 0 (fun _ => False) := by
  refine Met.ofW (cc := cX3_within) (maxL := 3) (ret := (some .boolean)) (by decide) rfl ?_
  intro p e s m args below meth c s₁ B hml hv
  obtain ⟨rfl, hP, hK⟩ := hv
  have hts := atoms_spec (ws := wsX3_within) B.pre
  have E : CallFix p m c cX3_within 3 s _ wsX3_within RX3 := ⟨B.exec, B.bytes, hml, findClass_of_methodNamed B.named, hts⟩
  have hr := B.returns
  have hlocks := B.notSynchronized
  have hl := lv_entry ([.int p0, .int p1, .int p2]) (n := 3) (Nat.le_of_ble_eq_true rfl)
  rw [lg_entry_eq]
  generalize (lg_sl ([.int p0, .int p1, .int p2]) ++ List.replicate (3 - (lg_sl ([.int p0, .int p1, .int p2])).length) Slot.unset).toArray = ls at hl ⊢
  have hl : lv_has ls 3 [(0, .int p0), (1, .int p1), (2, .int p2)] := hl
  refine lv_iload_n E.1 E.2.1 dX3_within_0 rfl (lv_at hl 0 rfl) ?_
  refine lv_iload_n E.1 E.2.1 dX3_within_1 rfl (lv_at hl 1 rfl) ?_
  refine lv_icmp_lt (x := p0) (y := p1) (tgt := 14) E.1 E.2.1 dX3_within_2 (by decide) (fun h2 => ?_) (fun h2 => ?_)
  · 
    refine lv_iconst (v := 0) E.1 E.2.1 dX3_within_14 (by decide) ?_
    exact W.zret (v := 0) E.1 E.2.1 hr rfl (fun t ht _ => ⟨(congrArg (fun z : Int32 => Outcome.returned (some (Value.int z))) ((if_neg (fun h9 => absurd h9.1 (Int32.not_le.mpr h2))).symm)), ht⟩) (fun q hq => by cases hq) dX3_within_15
  · 
    refine lv_iload_n E.1 E.2.1 dX3_within_5 rfl (lv_at hl 0 rfl) ?_
    refine lv_iload_n E.1 E.2.1 dX3_within_6 rfl (lv_at hl 2 rfl) ?_
    refine lv_icmp_gt (x := p0) (y := p2) (tgt := 14) E.1 E.2.1 dX3_within_7 (by decide) (fun h7 => ?_) (fun h7 => ?_)
    · 
      refine lv_iconst (v := 0) E.1 E.2.1 dX3_within_14 (by decide) ?_
      exact W.zret (v := 0) E.1 E.2.1 hr rfl (fun t ht _ => ⟨(congrArg (fun z : Int32 => Outcome.returned (some (Value.int z))) ((if_neg (fun h9 => absurd h9.2 (Int32.not_le.mpr h7))).symm)), ht⟩) (fun q hq => by cases hq) dX3_within_15
    · 
      refine lv_iconst (v := 1) E.1 E.2.1 dX3_within_10 (by decide) ?_
      refine lv_goto (tgt := 15) E.1 E.2.1 dX3_within_11 (by decide) ?_
      exact W.zret (v := 1) E.1 E.2.1 hr rfl (fun t ht _ => ⟨(congrArg (fun z : Int32 => Outcome.returned (some (Value.int z))) ((if_pos ⟨Int32.not_lt.mp h2, Int32.not_lt.mp h7⟩).symm)), ht⟩) (fun q hq => by cases hq) dX3_within_15
set_option maxHeartbeats 4000000 in
set_option maxRecDepth 100000 in
/-- 31 h + n -/
theorem c_mixed (l : Launch) (D : va_G) (cI cB : ClassId)  (p0 : Int64) (p1 : Int32) : Met l yX2_mixed wsX2_mixed ({ frames := 0, cells := 0, slots := 0, locals := 0 }) (GPc D cI cB ([]) [.long p0, .int p1]) (QcL (31 * p0 + p1.toInt64)) 0 0 (fun _ => False) := by
  refine Met.ofW (cc := cX2_mixed) (maxL := 3) (ret := (some .long)) (by decide) rfl ?_
  intro p e s m args below meth c s₁ B hml hv
  obtain ⟨rfl, hP, hK⟩ := hv
  have hts := atoms_spec (ws := wsX2_mixed) B.pre
  have E : CallFix p m c cX2_mixed 3 s _ wsX2_mixed RX2 := ⟨B.exec, B.bytes, hml, findClass_of_methodNamed B.named, hts⟩
  have hr := B.returns
  have hlocks := B.notSynchronized
  have w_0 : (Cond.constantLong RX2 234 31).before _ s = true := hts _ (by decide +kernel)
  have hl := lv_entry ([.long p0, .int p1]) (n := 3) (Nat.le_of_ble_eq_true rfl)
  rw [lg_entry_eq]
  generalize (lg_sl ([.long p0, .int p1]) ++ List.replicate (3 - (lg_sl ([.long p0, .int p1])).length) Slot.unset).toArray = ls at hl ⊢
  have hl : lv_has ls 3 [(0, .long p0), (2, .int p1)] := hl
  refine lv_ldc2 (v := 31) E.1 E.2.1 E.2.2.2.1 w_0 dX2_mixed_0 ?_
  refine lv_lload_n E.1 E.2.1 dX2_mixed_3 rfl (lv_at hl 0 rfl) ?_
  refine lv_lmul E.1 E.2.1 dX2_mixed_4 ?_
  refine lv_iload_n E.1 E.2.1 dX2_mixed_5 rfl (lv_at hl 1 rfl) ?_
  refine lv_i2l E.1 E.2.1 dX2_mixed_6 rfl ?_
  refine lv_ladd E.1 E.2.1 dX2_mixed_7 ?_
  exact W.lret (v := (31 * p0) + p1.toInt64) E.1 E.2.1 hr (fun t ht _ => ⟨(31 * p0) + p1.toInt64, rfl, rfl, ht⟩) (fun q hq => by cases hq) dX2_mixed_8
set_option maxHeartbeats 4000000 in
set_option maxRecDepth 100000 in
/-- isSite of a fresh object -/
theorem z_X2_isSite (l : Launch) (D : va_G) (cI cB : ClassId) (ad : Nat → Nat) (p0 : Int32) : Met l yX2_isSite wsX2_isSite ({ frames := 0, cells := 0, slots := 0, locals := 0 }) (GPc D cI cB (wX cI ad z0 zz) [.ref (ad 0), .int p0]) (QcRead (0)) 0 0 (fun _ => False) := by
  refine Met.ofW (cc := cX2_isSite) (maxL := 2) (ret := (some .boolean)) (by decide) rfl ?_
  intro p e s m args below meth c s₁ B hml hv
  obtain ⟨rfl, hP, hK⟩ := hv
  have hts := atoms_spec (ws := wsX2_isSite) B.pre
  have E : CallFix p m c cX2_isSite 2 s _ wsX2_isSite RX2 := ⟨B.exec, B.bytes, hml, findClass_of_methodNamed B.named, hts⟩
  have hr := B.returns
  have hlocks := B.notSynchronized
  have in_2 : ∀ w ∈ wsX20, w ∈ wsX2_isSite := fun _ h => List.mem_cons_of_mem _ (List.mem_append_right _ h)
  have w_0 : (Cond.fieldLink RX2 39 "SnowTerm" "sites" "I").before _ s = true := hts _ (by decide +kernel)
  have hl := lv_entry ([.ref (ad 0), .int p0]) (n := 2) (Nat.le_of_ble_eq_true rfl)
  rw [lg_entry_eq]
  generalize (lg_sl ([.ref (ad 0), .int p0]) ++ List.replicate (2 - (lg_sl ([.ref (ad 0), .int p0])).length) Slot.unset).toArray = ls at hl ⊢
  have hl : lv_has ls 2 [(0, .ref (ad 0)), (1, .int p0)] := hl
  refine lv_iload_n E.1 E.2.1 dX2_isSite_0 rfl (lv_at hl 1 rfl) ?_
  refine lv_if_lt (x := p0) (tgt := 16) E.1 E.2.1 dX2_isSite_1 (by decide) (fun h1 => ?_) (fun h1 => ?_)
  · 
    refine lv_iconst (v := 0) E.1 E.2.1 dX2_isSite_16 (by decide) ?_
    exact W.zret (v := 0) E.1 E.2.1 hr rfl (fun t ht _ => ⟨rfl, ht⟩) (fun q hq => by cases hq) dX2_isSite_17
  · 
    refine lv_iload_n E.1 E.2.1 dX2_isSite_4 rfl (lv_at hl 1 rfl) ?_
    refine lv_aload_n E.1 E.2.1 dX2_isSite_5 rfl (lv_at hl 0 rfl) ?_
    refine xg_0_7 E hK hP in_2 w_0 dX2_isSite_6 ?_
    refine lv_icmp_ge (x := p0) (y := 0) (tgt := 16) E.1 E.2.1 dX2_isSite_9 (by decide) (fun _ => ?_) (fun h9 => absurd (Int32.not_lt.mp h1) h9)
    refine lv_iconst (v := 0) E.1 E.2.1 dX2_isSite_16 (by decide) ?_
    exact W.zret (v := 0) E.1 E.2.1 hr rfl (fun t ht _ => ⟨rfl, ht⟩) (fun q hq => by cases hq) dX2_isSite_17
set_option maxHeartbeats 4000000 in
set_option maxRecDepth 100000 in
/-- isWhole of a fresh object -/
theorem z_X0_isWhole (l : Launch) (D : va_G) (cI cB : ClassId) (ad : Nat → Nat)  : Met l yX0_isWhole wsX0_isWhole ({ frames := 0, cells := 0, slots := 0, locals := 0 }) (GPc D cI cB (wX cI ad z0 zz) [.ref (ad 1)]) (QcRead (0)) 0 0 (fun _ => False) := by
  refine Met.ofW (cc := cX0_isWhole) (maxL := 1) (ret := (some .boolean)) (by decide) rfl ?_
  intro p e s m args below meth c s₁ B hml hv
  obtain ⟨rfl, hP, hK⟩ := hv
  have hts := atoms_spec (ws := wsX0_isWhole) B.pre
  have E : CallFix p m c cX0_isWhole 1 s _ wsX0_isWhole RX0 := ⟨B.exec, B.bytes, hml, findClass_of_methodNamed B.named, hts⟩
  have hr := B.returns
  have hlocks := B.notSynchronized
  have in_0 : ∀ w ∈ wsX00, w ∈ wsX0_isWhole := fun _ h => List.mem_cons_of_mem _ (List.mem_append_right _ h)
  have w_0 : (Cond.fieldLink RX0 15 "SnowTerm$Page" "size" "I").before _ s = true := hts _ (by decide +kernel)
  have hl := lv_entry ([.ref (ad 1)]) (n := 1) (Nat.le_of_ble_eq_true rfl)
  rw [lg_entry_eq]
  generalize (lg_sl ([.ref (ad 1)]) ++ List.replicate (1 - (lg_sl ([.ref (ad 1)])).length) Slot.unset).toArray = ls at hl ⊢
  have hl : lv_has ls 1 [(0, .ref (ad 1))] := hl
  refine lv_aload_n E.1 E.2.1 dX0_isWhole_0 rfl (lv_at hl 0 rfl) ?_
  refine xg_1_1 E hK hP in_0 w_0 dX0_isWhole_1 ?_
  refine lv_iconst (v := 2) E.1 E.2.1 dX0_isWhole_4 (by decide) ?_
  refine lv_icmp_lt (x := 0) (y := 2) (tgt := 38) E.1 E.2.1 dX0_isWhole_5 (by decide) (fun _ => ?_) (fun h9 => absurd (by decide) h9)
  refine lv_iconst (v := 0) E.1 E.2.1 dX0_isWhole_38 (by decide) ?_
  exact W.zret (v := 0) E.1 E.2.1 hr rfl (fun t ht _ => ⟨rfl, ht⟩) (fun q hq => by cases hq) dX0_isWhole_39
set_option maxHeartbeats 4000000 in
set_option maxRecDepth 100000 in
/-- faultPlace of a fresh object -/
theorem z_X0_faultPlace (l : Launch) (D : va_G) (cI cB : ClassId) (ad : Nat → Nat)  : Met l yX0_faultPlace wsX0_faultPlace ({ frames := 0, cells := 0, slots := 0, locals := 0 }) (GPc D cI cB (wX cI ad z0 zz) [.ref (ad 1)]) (QcRead (0)) 0 0 (fun _ => False) := by
  refine Met.ofW (cc := cX0_faultPlace) (maxL := 4) (ret := (some .int)) (by decide) rfl ?_
  intro p e s m args below meth c s₁ B hml hv
  obtain ⟨rfl, hP, hK⟩ := hv
  have hts := atoms_spec (ws := wsX0_faultPlace) B.pre
  have E : CallFix p m c cX0_faultPlace 4 s _ wsX0_faultPlace RX0 := ⟨B.exec, B.bytes, hml, findClass_of_methodNamed B.named, hts⟩
  have hr := B.returns
  have hlocks := B.notSynchronized
  have in_0 : ∀ w ∈ wsX00, w ∈ wsX0_faultPlace := fun _ h => List.mem_cons_of_mem _ (List.mem_append_right _ h)
  have w_0 : (Cond.fieldLink RX0 15 "SnowTerm$Page" "size" "I").before _ s = true := hts _ (by decide +kernel)
  have hl := lv_entry ([.ref (ad 1)]) (n := 4) (Nat.le_of_ble_eq_true rfl)
  rw [lg_entry_eq]
  generalize (lg_sl ([.ref (ad 1)]) ++ List.replicate (4 - (lg_sl ([.ref (ad 1)])).length) Slot.unset).toArray = ls at hl ⊢
  have hl : lv_has ls 4 [(0, .ref (ad 1))] := hl
  refine lv_iconst (v := (-1)) E.1 E.2.1 dX0_faultPlace_0 (by decide) ?_
  refine lv_istore_n (lv' := [(1, .int (-1)), (0, .ref (ad 1))]) E.1 E.2.1 dX0_faultPlace_1 rfl hl (by decide) rfl (fun ls hl => ?_)
  refine lv_iconst (v := 0) E.1 E.2.1 dX0_faultPlace_2 (by decide) ?_
  refine lv_istore_n (lv' := [(2, .int 0), (1, .int (-1)), (0, .ref (ad 1))]) E.1 E.2.1 dX0_faultPlace_3 rfl hl (by decide) rfl (fun ls hl => ?_)
  refine lv_iload_n E.1 E.2.1 dX0_faultPlace_4 rfl (lv_at hl 0 rfl) ?_
  refine lv_aload_n E.1 E.2.1 dX0_faultPlace_5 rfl (lv_at hl 2 rfl) ?_
  refine xg_1_1 E hK hP in_0 w_0 dX0_faultPlace_6 ?_
  refine lv_icmp_ge (x := 0) (y := 0) (tgt := 72) E.1 E.2.1 dX0_faultPlace_9 (by decide) (fun _ => ?_) (fun h9 => absurd (by decide) h9)
  refine lv_aload_n E.1 E.2.1 dX0_faultPlace_72 rfl (lv_at hl 2 rfl) ?_
  refine xg_1_1 E hK hP in_0 w_0 dX0_faultPlace_73 ?_
  exact W.iret (v := 0) E.1 E.2.1 hr (fun t ht _ => ⟨rfl, ht⟩) (fun q hq => by cases hq) dX0_faultPlace_76
set_option maxHeartbeats 4000000 in
set_option maxRecDepth 100000 in
/-- add to an empty page -/
theorem z_X0_add (l : Launch) (D : va_G) (cI cB : ClassId) (ad : Nat → Nat) (hI : wI 25 ad) (p0 : Int32) : Met l yX0_add wsX0_add ({ frames := 0, cells := 0, slots := 0, locals := 0 }) (GPc D cI cB (wX cI ad z0 zz) [.ref (ad 1), .int p0]) (va_Qi (fun (r : Int32) (u : (Nat → Int32) × (Nat → Nat → Int32)) => r = 1 ∧ u.1 = upd z0 3 1) (fun u t => va_P D vwCl (wX cI ad u.1 u.2) t.heap) (wA 25 ad)) 0 0 (wA 25 ad) := by
  refine Met.ofW (cc := cX0_add) (maxL := 2) (ret := (some .boolean)) (by decide) rfl ?_
  intro p e s m args below meth c s₁ B hml hv
  obtain ⟨rfl, hP, hK⟩ := hv
  have hts := atoms_spec (ws := wsX0_add) B.pre
  have E : CallFix p m c cX0_add 2 s _ wsX0_add RX0 := ⟨B.exec, B.bytes, hml, findClass_of_methodNamed B.named, hts⟩
  have hr := B.returns
  have hlocks := B.notSynchronized
  have hS : va_S (wA 25 ad) s.heap s.heap [] := va_S.rf
  have in_0 : ∀ w ∈ wsX00, w ∈ wsX0_add := fun _ h => List.mem_cons_of_mem _ (List.mem_append_right _ h)
  have w_0 : (Cond.fieldLink RX0 15 "SnowTerm$Page" "size" "I").before _ s = true := hts _ (by decide +kernel)
  have w_1 : (Cond.fieldLink RX0 9 "SnowTerm$Page" "codes" "[I").before _ s = true := hts _ (by decide +kernel)
  have hl := lv_entry ([.ref (ad 1), .int p0]) (n := 2) (Nat.le_of_ble_eq_true rfl)
  rw [lg_entry_eq]
  generalize (lg_sl ([.ref (ad 1), .int p0]) ++ List.replicate (2 - (lg_sl ([.ref (ad 1), .int p0])).length) Slot.unset).toArray = ls at hl ⊢
  have hl : lv_has ls 2 [(0, .ref (ad 1)), (1, .int p0)] := hl
  refine lv_aload_n E.1 E.2.1 dX0_add_0 rfl (lv_at hl 0 rfl) ?_
  refine xg_1_1 E hK hP in_0 w_0 dX0_add_1 ?_
  refine lv_if_lt (x := 0) (tgt := 19) E.1 E.2.1 dX0_add_4 (by decide) (fun h9 => absurd h9 (by decide)) (fun _ => ?_)
  refine lv_aload_n E.1 E.2.1 dX0_add_7 rfl (lv_at hl 0 rfl) ?_
  refine xg_1_1 E hK hP in_0 w_0 dX0_add_8 ?_
  refine lv_aload_n E.1 E.2.1 dX0_add_11 rfl (lv_at hl 0 rfl) ?_
  refine xg_1_0 E hK hP in_0 w_1 dX0_add_12 ?_
  refine xn_8 E hK hP dX0_add_15 ?_
  refine lv_icmp_lt (x := 0) (y := 21) (tgt := 21) E.1 E.2.1 dX0_add_16 (by decide) (fun _ => ?_) (fun h9 => absurd (by decide) h9)
  refine lv_aload_n E.1 E.2.1 dX0_add_21 rfl (lv_at hl 0 rfl) ?_
  refine xg_1_0 E hK hP in_0 w_1 dX0_add_22 ?_
  refine lv_aload_n E.1 E.2.1 dX0_add_25 rfl (lv_at hl 0 rfl) ?_
  refine xg_1_1 E hK hP in_0 w_0 dX0_add_26 ?_
  refine lv_iload_n E.1 E.2.1 dX0_add_29 rfl (lv_at hl 1 rfl) ?_
  refine xs_8 (v := p0) (i := 0) E hK hP hI hS (by unfold vp_in; decide) dX0_add_30 (fun H locs hP hS => ?_)
  refine lv_aload_n E.1 E.2.1 dX0_add_31 rfl (lv_at hl 0 rfl) ?_
  refine lv_dup E.1 E.2.1 dX0_add_32 rfl ?_
  refine xg_1_1 E hK hP in_0 w_0 dX0_add_33 ?_
  refine lv_iconst (v := 1) E.1 E.2.1 dX0_add_36 (by decide) ?_
  refine lv_iadd E.1 E.2.1 dX0_add_37 ?_
  refine lv_topi (fun y_1 ey_1 => ?_)
  obtain rfl : y_1 = 1 := ey_1.trans (by decide)
  refine xp_1_1 (v := 1) E hK hP in_0 w_0 hI hS dX0_add_38 (fun H locs hP hS => ?_)
  refine lv_iconst (v := 1) E.1 E.2.1 dX0_add_41 (by decide) ?_
  exact W.zret (v := 1) E.1 E.2.1 hr rfl (fun t ht _ => ⟨⟨1, (upd z0 3 1, uA zz 8 (upd (zz 8) (0 : Int32).toNatClampNeg p0)), rfl, ⟨rfl, rfl⟩, by subst ht; exact hP⟩, hS.F ht⟩) hS.2.2 dX0_add_42
set_option maxHeartbeats 4000000 in
set_option maxRecDepth 100000 in
/-- letter of a fresh object -/
theorem z_X2_letter (l : Launch) (D : va_G) (cI cB : ClassId) (ad : Nat → Nat) (hI : wI 25 ad) (p0 : Int32) : Met l yX2_letter wsX2_letter ({ frames := 1, cells := 0, slots := 0, locals := 22 }) (GPc D cI cB (wX cI ad z0 zz) [.ref (ad 0), .int p0]) (va_Qi (fun (r : Int32) (_ : Unit) => r = if 32 ≤ p0 ∧ p0 ≤ 126 then 1 else (-102)) (fun _ t => va_P D vwCl [] t.heap) (wA 25 ad)) 0 0 (wA 25 ad) := by
  refine Met.ofW (cc := cX2_letter) (maxL := 2) (ret := (some .int)) (by decide) rfl ?_
  intro p e s m args below meth c s₁ B hml hv
  obtain ⟨rfl, hP, hK⟩ := hv
  have hts := atoms_spec (ws := wsX2_letter) B.pre
  have E : CallFix p m c cX2_letter 2 s _ wsX2_letter RX2 := ⟨B.exec, B.bytes, hml, findClass_of_methodNamed B.named, hts⟩
  have hr := B.returns
  have hlocks := B.notSynchronized
  have hS : va_S (wA 25 ad) s.heap s.heap [] := va_S.rf
  have in_0 : ∀ w ∈ wsX00, w ∈ wsX2_letter := fun _ h => List.mem_cons_of_mem _ (List.mem_append_right _ h)
  have in_2 : ∀ w ∈ wsX20, w ∈ wsX2_letter := fun _ h => List.mem_cons_of_mem _ (List.mem_append_left _ (List.mem_append_right _ h))
  have w_0 : (Cond.fieldLink RX2 10 "SnowTerm" "page" "LSnowTerm$Page;").before _ s = true := hts _ (by decide +kernel)
  have w_1 : (Cond.fieldLink RX2 58 "SnowTerm$Page" "size" "I").before _ s = true := hts _ (by decide +kernel)
  have hl := lv_entry ([.ref (ad 0), .int p0]) (n := 2) (Nat.le_of_ble_eq_true rfl)
  rw [lg_entry_eq]
  generalize (lg_sl ([.ref (ad 0), .int p0]) ++ List.replicate (2 - (lg_sl ([.ref (ad 0), .int p0])).length) Slot.unset).toArray = ls at hl ⊢
  have hl : lv_has ls 2 [(0, .ref (ad 0)), (1, .int p0)] := hl
  refine lv_iload_n E.1 E.2.1 dX2_letter_0 rfl (lv_at hl 1 rfl) ?_
  refine lv_bipush (v := 32) E.1 E.2.1 dX2_letter_1 (by decide) ?_
  refine lv_bipush (v := 126) E.1 E.2.1 dX2_letter_3 (by decide) ?_
  refine g_SR (As := [.int p0, .int 32, .int 126]) (rest := []) E hK (c_isWithin l D cI cB p0 32 126) (va_cwS 3 E.2.2.2.2 gX2_letter_X2_isWithin rfl rfl rfl (by decide +kernel) ⟨Nat.le_of_ble_eq_true rfl, Nat.le_of_ble_eq_true rfl⟩) rfl hl.1 rfl (by decide) dX2_letter_5 ⟨Nat.zero_le _, Nat.zero_le _⟩ ?_
  refine lv_if_ne (x := if 32 ≤ p0 ∧ p0 ≤ 126 then 1 else 0) (tgt := 14) E.1 E.2.1 dX2_letter_8 (by decide) (fun h_1 => ?_) (fun h_1 => ?_)
  · 
    have h_1 : 32 ≤ p0 ∧ p0 ≤ 126 := ite10_1 h_1
    refine lv_aload_n E.1 E.2.1 dX2_letter_14 rfl (lv_at hl 0 rfl) ?_
    refine xg_0_0 E hK hP in_2 w_0 dX2_letter_15 ?_
    refine lv_iload_n E.1 E.2.1 dX2_letter_18 rfl (lv_at hl 1 rfl) ?_
    refine g_VWi (As := [.int p0]) (rest := []) E hK hP hS (fun q h => h) (z_X0_add l D cI cB ad hI p0) (cwV 1 E.2.2.2.2 gX2_letter_X0_add rfl rfl rfl (by decide +kernel) ⟨Nat.le_of_ble_eq_true rfl, Nat.le_of_ble_eq_true rfl⟩) (rxp hK hP) rfl hl.1 rfl (by decide) dX2_letter_19 ⟨Nat.zero_le _, Nat.zero_le _⟩ (fun r_3 u_2 H1 locs hp_4 hP1 hk_5 hS => ?_)
    obtain ⟨f1, a1⟩ := u_2
    obtain ⟨rfl, rfl⟩ : r_3 = 1 ∧ f1 = upd z0 3 1 := hp_4
    have hP : va_P D vwCl (wX cI ad (upd z0 3 1) a1) H1 := hP1
    generalize H1 = H at hP hS ⊢
    refine lv_if_ne (x := 1) (tgt := 28) E.1 E.2.1 dX2_letter_22 (by decide) (fun _ => ?_) (fun h9 => absurd h9 (by decide))
    refine lv_aload_n E.1 E.2.1 dX2_letter_28 rfl (lv_at hl 0 rfl) ?_
    refine xg_0_0 E hK hP in_2 w_0 dX2_letter_29 ?_
    refine xg_1_1 E hK hP in_0 w_1 dX2_letter_32 ?_
    exact W.iret (v := 1) E.1 E.2.1 hr (fun t ht _ => ⟨⟨1, (), rfl, (if_pos h_1).symm, fun _ _ h => by simp at h⟩, hS.F ht⟩) hS.2.2 dX2_letter_35
  · 
    have h_1 : ¬ (32 ≤ p0 ∧ p0 ≤ 126) := ite10_0 h_1
    refine lv_bipush (v := (-102)) E.1 E.2.1 dX2_letter_11 (by decide) ?_
    exact W.iret (v := (-102)) E.1 E.2.1 hr (fun t ht _ => ⟨⟨(-102), (), rfl, (if_neg (fun h9 => h_1 (h9))).symm, fun _ _ h => by simp at h⟩, hS.F ht⟩) hS.2.2 dX2_letter_13
set_option maxHeartbeats 4000000 in
set_option maxRecDepth 100000 in
/-- clear of a fresh object -/
theorem z_X0_clear (l : Launch) (D : va_G) (cI cB : ClassId) (ad : Nat → Nat) (hI : wI 25 ad)  : Met l yX0_clear wsX0_clear ({ frames := 0, cells := 0, slots := 0, locals := 0 }) (GPc D cI cB (wX cI ad z0 zz) [.ref (ad 1)]) (va_Qi (fun (r : Int32) (_ : Unit) => r = 0) (fun _ t => va_P D vwCl [] t.heap) (wA 25 ad)) 0 0 (wA 25 ad) := by
  refine Met.ofW (cc := cX0_clear) (maxL := 2) (ret := (some .int)) (by decide) rfl ?_
  intro p e s m args below meth c s₁ B hml hv
  obtain ⟨rfl, hP, hK⟩ := hv
  have hts := atoms_spec (ws := wsX0_clear) B.pre
  have E : CallFix p m c cX0_clear 2 s _ wsX0_clear RX0 := ⟨B.exec, B.bytes, hml, findClass_of_methodNamed B.named, hts⟩
  have hr := B.returns
  have hlocks := B.notSynchronized
  have hS : va_S (wA 25 ad) s.heap s.heap [] := va_S.rf
  have in_0 : ∀ w ∈ wsX00, w ∈ wsX0_clear := fun _ h => List.mem_cons_of_mem _ (List.mem_append_right _ h)
  have w_0 : (Cond.fieldLink RX0 15 "SnowTerm$Page" "size" "I").before _ s = true := hts _ (by decide +kernel)
  have hl := lv_entry ([.ref (ad 1)]) (n := 2) (Nat.le_of_ble_eq_true rfl)
  rw [lg_entry_eq]
  generalize (lg_sl ([.ref (ad 1)]) ++ List.replicate (2 - (lg_sl ([.ref (ad 1)])).length) Slot.unset).toArray = ls at hl ⊢
  have hl : lv_has ls 2 [(0, .ref (ad 1))] := hl
  refine lv_aload_n E.1 E.2.1 dX0_clear_0 rfl (lv_at hl 0 rfl) ?_
  refine xg_1_1 E hK hP in_0 w_0 dX0_clear_1 ?_
  refine lv_istore_n (lv' := [(1, .int 0), (0, .ref (ad 1))]) E.1 E.2.1 dX0_clear_4 rfl hl (by decide) rfl (fun ls hl => ?_)
  refine lv_aload_n E.1 E.2.1 dX0_clear_5 rfl (lv_at hl 1 rfl) ?_
  refine lv_iconst (v := 0) E.1 E.2.1 dX0_clear_6 (by decide) ?_
  refine xp_1_1 (v := 0) E hK hP in_0 w_0 hI hS dX0_clear_7 (fun H locs hP hS => ?_)
  refine lv_iload_n E.1 E.2.1 dX0_clear_10 rfl (lv_at hl 0 rfl) ?_
  exact W.iret (v := 0) E.1 E.2.1 hr (fun t ht _ => ⟨⟨0, (), rfl, rfl, fun _ _ h => by simp at h⟩, hS.F ht⟩) hS.2.2 dX0_clear_11
set_option maxHeartbeats 4000000 in
set_option maxRecDepth 100000 in
/-- blank of a fresh object -/
theorem z_X2_blank (l : Launch) (D : va_G) (cI cB : ClassId) (ad : Nat → Nat) (hI : wI 25 ad)  : Met l yX2_blank wsX2_blank ({ frames := 1, cells := 0, slots := 0, locals := 21 }) (GPc D cI cB (wX cI ad z0 zz) [.ref (ad 0)]) (va_Qi (fun (r : Int32) (_ : Unit) => r = 0) (fun _ t => va_P D vwCl [] t.heap) (wA 25 ad)) 0 0 (wA 25 ad) := by
  refine Met.ofW (cc := cX2_blank) (maxL := 1) (ret := (some .int)) (by decide) rfl ?_
  intro p e s m args below meth c s₁ B hml hv
  obtain ⟨rfl, hP, hK⟩ := hv
  have hts := atoms_spec (ws := wsX2_blank) B.pre
  have E : CallFix p m c cX2_blank 1 s _ wsX2_blank RX2 := ⟨B.exec, B.bytes, hml, findClass_of_methodNamed B.named, hts⟩
  have hr := B.returns
  have hlocks := B.notSynchronized
  have hS : va_S (wA 25 ad) s.heap s.heap [] := va_S.rf
  have in_2 : ∀ w ∈ wsX20, w ∈ wsX2_blank := fun _ h => List.mem_cons_of_mem _ (List.mem_append_left _ (List.mem_append_right _ h))
  have w_0 : (Cond.fieldLink RX2 10 "SnowTerm" "page" "LSnowTerm$Page;").before _ s = true := hts _ (by decide +kernel)
  have hl := lv_entry ([.ref (ad 0)]) (n := 1) (Nat.le_of_ble_eq_true rfl)
  rw [lg_entry_eq]
  generalize (lg_sl ([.ref (ad 0)]) ++ List.replicate (1 - (lg_sl ([.ref (ad 0)])).length) Slot.unset).toArray = ls at hl ⊢
  have hl : lv_has ls 1 [(0, .ref (ad 0))] := hl
  refine lv_aload_n E.1 E.2.1 dX2_blank_0 rfl (lv_at hl 0 rfl) ?_
  refine xg_0_0 E hK hP in_2 w_0 dX2_blank_1 ?_
  refine g_VWi (As := []) (rest := []) E hK hP hS (fun q h => h) (z_X0_clear l D cI cB ad hI) (cwV 0 E.2.2.2.2 gX2_blank_X0_clear rfl rfl rfl (by decide +kernel) ⟨Nat.le_of_ble_eq_true rfl, Nat.le_of_ble_eq_true rfl⟩) (rxp hK hP) rfl hl.1 rfl (by decide) dX2_blank_4 ⟨Nat.zero_le _, Nat.zero_le _⟩ (fun r_2 u_1 H1 locs hp_3 hP1 hk_4 hS => ?_)
  obtain rfl := hp_3
  exact W.iret (v := 0) E.1 E.2.1 hr (fun t ht _ => ⟨⟨0, (), rfl, rfl, fun _ _ h => by simp at h⟩, hS.F ht⟩) hS.2.2 dX2_blank_7
set_option maxHeartbeats 4000000 in
set_option maxRecDepth 100000 in
/-- fault of a fresh object -/
theorem z_X2_fault (l : Launch) (D : va_G) (cI cB : ClassId) (ad : Nat → Nat)  : Met l yX2_fault wsX2_fault ({ frames := 1, cells := 0, slots := 0, locals := 23 }) (GPc D cI cB (wX cI ad z0 zz) [.ref (ad 0)]) (QcRead (0)) 0 0 (fun _ => False) := by
  refine Met.ofW (cc := cX2_fault) (maxL := 1) (ret := (some .int)) (by decide) rfl ?_
  intro p e s m args below meth c s₁ B hml hv
  obtain ⟨rfl, hP, hK⟩ := hv
  have hts := atoms_spec (ws := wsX2_fault) B.pre
  have E : CallFix p m c cX2_fault 1 s _ wsX2_fault RX2 := ⟨B.exec, B.bytes, hml, findClass_of_methodNamed B.named, hts⟩
  have hr := B.returns
  have hlocks := B.notSynchronized
  have in_2 : ∀ w ∈ wsX20, w ∈ wsX2_fault := fun _ h => List.mem_cons_of_mem _ (List.mem_append_left _ (List.mem_append_right _ h))
  have w_0 : (Cond.fieldLink RX2 10 "SnowTerm" "page" "LSnowTerm$Page;").before _ s = true := hts _ (by decide +kernel)
  have hl := lv_entry ([.ref (ad 0)]) (n := 1) (Nat.le_of_ble_eq_true rfl)
  rw [lg_entry_eq]
  generalize (lg_sl ([.ref (ad 0)]) ++ List.replicate (1 - (lg_sl ([.ref (ad 0)])).length) Slot.unset).toArray = ls at hl ⊢
  have hl : lv_has ls 1 [(0, .ref (ad 0))] := hl
  refine lv_aload_n E.1 E.2.1 dX2_fault_0 rfl (lv_at hl 0 rfl) ?_
  refine xg_0_0 E hK hP in_2 w_0 dX2_fault_1 ?_
  refine g_VR (As := []) (rest := []) E hK hP (z_X0_faultPlace l D cI cB ad) (cwV 0 E.2.2.2.2 gX2_fault_X0_faultPlace rfl rfl rfl (by decide +kernel) ⟨Nat.le_of_ble_eq_true rfl, Nat.le_of_ble_eq_true rfl⟩) (rxp hK hP) rfl hl.1 rfl (by decide) dX2_fault_4 ⟨Nat.zero_le _, Nat.zero_le _⟩ ?_
  exact W.iret (v := 0) E.1 E.2.1 hr (fun t ht _ => ⟨rfl, ht⟩) (fun q hq => by cases hq) dX2_fault_7
set_option maxHeartbeats 4000000 in
set_option maxRecDepth 100000 in
/-- city of a fresh object -/
theorem z_X2_city (l : Launch) (D : va_G) (cI cB : ClassId) (ad : Nat → Nat)  : Met l yX2_city wsX2_city ({ frames := 1, cells := 0, slots := 0, locals := 20 }) (GPc D cI cB (wX cI ad z0 zz) [.ref (ad 0)]) (QcRead ((-103))) 0 0 (fun _ => False) := by
  refine Met.ofW (cc := cX2_city) (maxL := 2) (ret := (some .int)) (by decide) rfl ?_
  intro p e s m args below meth c s₁ B hml hv
  obtain ⟨rfl, hP, hK⟩ := hv
  have hts := atoms_spec (ws := wsX2_city) B.pre
  have E : CallFix p m c cX2_city 2 s _ wsX2_city RX2 := ⟨B.exec, B.bytes, hml, findClass_of_methodNamed B.named, hts⟩
  have hr := B.returns
  have hlocks := B.notSynchronized
  have in_2 : ∀ w ∈ wsX20, w ∈ wsX2_city := fun _ h => List.mem_cons_of_mem _ (List.mem_append_left _ (List.mem_append_left _ (List.mem_append_right _ h)))
  have w_0 : (Cond.fieldLink RX2 10 "SnowTerm" "page" "LSnowTerm$Page;").before _ s = true := hts _ (by decide +kernel)
  have hl := lv_entry ([.ref (ad 0)]) (n := 2) (Nat.le_of_ble_eq_true rfl)
  rw [lg_entry_eq]
  generalize (lg_sl ([.ref (ad 0)]) ++ List.replicate (2 - (lg_sl ([.ref (ad 0)])).length) Slot.unset).toArray = ls at hl ⊢
  have hl : lv_has ls 2 [(0, .ref (ad 0))] := hl
  refine lv_aload_n E.1 E.2.1 dX2_city_0 rfl (lv_at hl 0 rfl) ?_
  refine xg_0_0 E hK hP in_2 w_0 dX2_city_1 ?_
  refine g_VR (As := []) (rest := []) E hK hP (z_X0_isWhole l D cI cB ad) (cwV 0 E.2.2.2.2 gX2_city_X0_isWhole rfl rfl rfl (by decide +kernel) ⟨Nat.le_of_ble_eq_true rfl, Nat.le_of_ble_eq_true rfl⟩) (rxp hK hP) rfl hl.1 rfl (by decide) dX2_city_4 ⟨Nat.zero_le _, Nat.zero_le _⟩ ?_
  refine lv_if_ne (x := 0) (tgt := 13) E.1 E.2.1 dX2_city_7 (by decide) (fun h9 => absurd (by decide) h9) (fun _ => ?_)
  refine lv_bipush (v := (-103)) E.1 E.2.1 dX2_city_10 (by decide) ?_
  exact W.iret (v := (-103)) E.1 E.2.1 hr (fun t ht _ => ⟨rfl, ht⟩) (fun q hq => by cases hq) dX2_city_12
set_option maxHeartbeats 4000000 in
set_option maxRecDepth 100000 in
/-- about of a fresh object -/
theorem z_X2_about (l : Launch) (D : va_G) (cI cB : ClassId) (ad : Nat → Nat) (p0 : Int32) (p1 : Int32) : Met l yX2_about wsX2_about ({ frames := 1, cells := 0, slots := 0, locals := 21 }) (GPc D cI cB (wX cI ad z0 zz) [.ref (ad 0), .int p0, .int p1]) (QcRead ((-101))) 0 0 (fun _ => False) := by
  refine Met.ofW (cc := cX2_about) (maxL := 3) (ret := (some .int)) (by decide) rfl ?_
  intro p e s m args below meth c s₁ B hml hv
  obtain ⟨rfl, hP, hK⟩ := hv
  have hts := atoms_spec (ws := wsX2_about) B.pre
  have E : CallFix p m c cX2_about 3 s _ wsX2_about RX2 := ⟨B.exec, B.bytes, hml, findClass_of_methodNamed B.named, hts⟩
  have hr := B.returns
  have hlocks := B.notSynchronized
  have hl := lv_entry ([.ref (ad 0), .int p0, .int p1]) (n := 3) (Nat.le_of_ble_eq_true rfl)
  rw [lg_entry_eq]
  generalize (lg_sl ([.ref (ad 0), .int p0, .int p1]) ++ List.replicate (3 - (lg_sl ([.ref (ad 0), .int p0, .int p1])).length) Slot.unset).toArray = ls at hl ⊢
  have hl : lv_has ls 3 [(0, .ref (ad 0)), (1, .int p0), (2, .int p1)] := hl
  refine lv_aload_n E.1 E.2.1 dX2_about_0 rfl (lv_at hl 0 rfl) ?_
  refine lv_iload_n E.1 E.2.1 dX2_about_1 rfl (lv_at hl 1 rfl) ?_
  refine g_VR (As := [.int p0]) (rest := []) E hK hP (z_X2_isSite l D cI cB ad p0) (cwV 1 E.2.2.2.2 gX2_about_X2_isSite rfl rfl rfl (by decide +kernel) ⟨Nat.le_of_ble_eq_true rfl, Nat.le_of_ble_eq_true rfl⟩) (rx hK hP) rfl hl.1 rfl (by decide) dX2_about_2 ⟨Nat.zero_le _, Nat.zero_le _⟩ ?_
  refine lv_if_ne (x := 0) (tgt := 11) E.1 E.2.1 dX2_about_5 (by decide) (fun h9 => absurd (by decide) h9) (fun _ => ?_)
  refine lv_bipush (v := (-101)) E.1 E.2.1 dX2_about_8 (by decide) ?_
  exact W.iret (v := (-101)) E.1 E.2.1 hr (fun t ht _ => ⟨rfl, ht⟩) (fun q hq => by cases hq) dX2_about_10
set_option maxHeartbeats 4000000 in
set_option maxRecDepth 100000 in
/-- as of a fresh object -/
theorem z_X2_as (l : Launch) (D : va_G) (cI cB : ClassId) (ad : Nat → Nat) (p0 : Int32) (p1 : Int32) : Met l yX2_as wsX2_as ({ frames := 1, cells := 0, slots := 0, locals := 21 }) (GPc D cI cB (wX cI ad z0 zz) [.ref (ad 0), .int p0, .int p1]) (QcRead ((-101))) 0 0 (fun _ => False) := by
  refine Met.ofW (cc := cX2_as) (maxL := 3) (ret := (some .int)) (by decide) rfl ?_
  intro p e s m args below meth c s₁ B hml hv
  obtain ⟨rfl, hP, hK⟩ := hv
  have hts := atoms_spec (ws := wsX2_as) B.pre
  have E : CallFix p m c cX2_as 3 s _ wsX2_as RX2 := ⟨B.exec, B.bytes, hml, findClass_of_methodNamed B.named, hts⟩
  have hr := B.returns
  have hlocks := B.notSynchronized
  have hl := lv_entry ([.ref (ad 0), .int p0, .int p1]) (n := 3) (Nat.le_of_ble_eq_true rfl)
  rw [lg_entry_eq]
  generalize (lg_sl ([.ref (ad 0), .int p0, .int p1]) ++ List.replicate (3 - (lg_sl ([.ref (ad 0), .int p0, .int p1])).length) Slot.unset).toArray = ls at hl ⊢
  have hl : lv_has ls 3 [(0, .ref (ad 0)), (1, .int p0), (2, .int p1)] := hl
  refine lv_aload_n E.1 E.2.1 dX2_as_0 rfl (lv_at hl 0 rfl) ?_
  refine lv_iload_n E.1 E.2.1 dX2_as_1 rfl (lv_at hl 1 rfl) ?_
  refine g_VR (As := [.int p0]) (rest := []) E hK hP (z_X2_isSite l D cI cB ad p0) (cwV 1 E.2.2.2.2 gX2_as_X2_isSite rfl rfl rfl (by decide +kernel) ⟨Nat.le_of_ble_eq_true rfl, Nat.le_of_ble_eq_true rfl⟩) (rx hK hP) rfl hl.1 rfl (by decide) dX2_as_2 ⟨Nat.zero_le _, Nat.zero_le _⟩ ?_
  refine lv_if_ne (x := 0) (tgt := 11) E.1 E.2.1 dX2_as_5 (by decide) (fun h9 => absurd (by decide) h9) (fun _ => ?_)
  refine lv_bipush (v := (-101)) E.1 E.2.1 dX2_as_8 (by decide) ?_
  exact W.iret (v := (-101)) E.1 E.2.1 hr (fun t ht _ => ⟨rfl, ht⟩) (fun q hq => by cases hq) dX2_as_10
set_option maxHeartbeats 4000000 in
set_option maxRecDepth 100000 in
/-- bring of a fresh object -/
theorem z_X2_bring (l : Launch) (D : va_G) (cI cB : ClassId) (ad : Nat → Nat) (p0 : Int32) (p1 : Int32) : Met l yX2_bring wsX2_bring ({ frames := 1, cells := 0, slots := 0, locals := 21 }) (GPc D cI cB (wX cI ad z0 zz) [.ref (ad 0), .int p0, .int p1]) (QcRead ((-101))) 0 0 (fun _ => False) := by
  refine Met.ofW (cc := cX2_bring) (maxL := 3) (ret := (some .int)) (by decide) rfl ?_
  intro p e s m args below meth c s₁ B hml hv
  obtain ⟨rfl, hP, hK⟩ := hv
  have hts := atoms_spec (ws := wsX2_bring) B.pre
  have E : CallFix p m c cX2_bring 3 s _ wsX2_bring RX2 := ⟨B.exec, B.bytes, hml, findClass_of_methodNamed B.named, hts⟩
  have hr := B.returns
  have hlocks := B.notSynchronized
  have hl := lv_entry ([.ref (ad 0), .int p0, .int p1]) (n := 3) (Nat.le_of_ble_eq_true rfl)
  rw [lg_entry_eq]
  generalize (lg_sl ([.ref (ad 0), .int p0, .int p1]) ++ List.replicate (3 - (lg_sl ([.ref (ad 0), .int p0, .int p1])).length) Slot.unset).toArray = ls at hl ⊢
  have hl : lv_has ls 3 [(0, .ref (ad 0)), (1, .int p0), (2, .int p1)] := hl
  refine lv_aload_n E.1 E.2.1 dX2_bring_0 rfl (lv_at hl 0 rfl) ?_
  refine lv_iload_n E.1 E.2.1 dX2_bring_1 rfl (lv_at hl 1 rfl) ?_
  refine g_VR (As := [.int p0]) (rest := []) E hK hP (z_X2_isSite l D cI cB ad p0) (cwV 1 E.2.2.2.2 gX2_bring_X2_isSite rfl rfl rfl (by decide +kernel) ⟨Nat.le_of_ble_eq_true rfl, Nat.le_of_ble_eq_true rfl⟩) (rx hK hP) rfl hl.1 rfl (by decide) dX2_bring_2 ⟨Nat.zero_le _, Nat.zero_le _⟩ ?_
  refine lv_if_ne (x := 0) (tgt := 11) E.1 E.2.1 dX2_bring_5 (by decide) (fun h9 => absurd (by decide) h9) (fun _ => ?_)
  refine lv_bipush (v := (-101)) E.1 E.2.1 dX2_bring_8 (by decide) ?_
  exact W.iret (v := (-101)) E.1 E.2.1 hr (fun t ht _ => ⟨rfl, ht⟩) (fun q hq => by cases hq) dX2_bring_10
set_option maxHeartbeats 4000000 in
set_option maxRecDepth 100000 in
/-- tread of a fresh object -/
theorem z_X2_tread (l : Launch) (D : va_G) (cI cB : ClassId) (ad : Nat → Nat) (p0 : Int32) (p1 : Int32) : Met l yX2_tread wsX2_tread ({ frames := 1, cells := 0, slots := 0, locals := 21 }) (GPc D cI cB (wX cI ad z0 zz) [.ref (ad 0), .int p0, .int p1]) (QcRead ((-101))) 0 0 (fun _ => False) := by
  refine Met.ofW (cc := cX2_tread) (maxL := 4) (ret := (some .int)) (by decide) rfl ?_
  intro p e s m args below meth c s₁ B hml hv
  obtain ⟨rfl, hP, hK⟩ := hv
  have hts := atoms_spec (ws := wsX2_tread) B.pre
  have E : CallFix p m c cX2_tread 4 s _ wsX2_tread RX2 := ⟨B.exec, B.bytes, hml, findClass_of_methodNamed B.named, hts⟩
  have hr := B.returns
  have hlocks := B.notSynchronized
  have hl := lv_entry ([.ref (ad 0), .int p0, .int p1]) (n := 4) (Nat.le_of_ble_eq_true rfl)
  rw [lg_entry_eq]
  generalize (lg_sl ([.ref (ad 0), .int p0, .int p1]) ++ List.replicate (4 - (lg_sl ([.ref (ad 0), .int p0, .int p1])).length) Slot.unset).toArray = ls at hl ⊢
  have hl : lv_has ls 4 [(0, .ref (ad 0)), (1, .int p0), (2, .int p1)] := hl
  refine lv_aload_n E.1 E.2.1 dX2_tread_0 rfl (lv_at hl 0 rfl) ?_
  refine lv_iload_n E.1 E.2.1 dX2_tread_1 rfl (lv_at hl 1 rfl) ?_
  refine g_VR (As := [.int p0]) (rest := []) E hK hP (z_X2_isSite l D cI cB ad p0) (cwV 1 E.2.2.2.2 gX2_tread_X2_isSite rfl rfl rfl (by decide +kernel) ⟨Nat.le_of_ble_eq_true rfl, Nat.le_of_ble_eq_true rfl⟩) (rx hK hP) rfl hl.1 rfl (by decide) dX2_tread_2 ⟨Nat.zero_le _, Nat.zero_le _⟩ ?_
  refine lv_if_ne (x := 0) (tgt := 11) E.1 E.2.1 dX2_tread_5 (by decide) (fun h9 => absurd (by decide) h9) (fun _ => ?_)
  refine lv_bipush (v := (-101)) E.1 E.2.1 dX2_tread_8 (by decide) ?_
  exact W.iret (v := (-101)) E.1 E.2.1 hr (fun t ht _ => ⟨rfl, ht⟩) (fun q hq => by cases hq) dX2_tread_10
set_option maxHeartbeats 4000000 in
set_option maxRecDepth 100000 in
/-- need of a fresh object -/
theorem z_X2_need (l : Launch) (D : va_G) (cI cB : ClassId) (ad : Nat → Nat) (p0 : Int32) (p1 : Int32) : Met l yX2_need wsX2_need ({ frames := 1, cells := 0, slots := 0, locals := 21 }) (GPc D cI cB (wX cI ad z0 zz) [.ref (ad 0), .int p0, .int p1]) (QcRead ((-101))) 0 0 (fun _ => False) := by
  refine Met.ofW (cc := cX2_need) (maxL := 3) (ret := (some .int)) (by decide) rfl ?_
  intro p e s m args below meth c s₁ B hml hv
  obtain ⟨rfl, hP, hK⟩ := hv
  have hts := atoms_spec (ws := wsX2_need) B.pre
  have E : CallFix p m c cX2_need 3 s _ wsX2_need RX2 := ⟨B.exec, B.bytes, hml, findClass_of_methodNamed B.named, hts⟩
  have hr := B.returns
  have hlocks := B.notSynchronized
  have hl := lv_entry ([.ref (ad 0), .int p0, .int p1]) (n := 3) (Nat.le_of_ble_eq_true rfl)
  rw [lg_entry_eq]
  generalize (lg_sl ([.ref (ad 0), .int p0, .int p1]) ++ List.replicate (3 - (lg_sl ([.ref (ad 0), .int p0, .int p1])).length) Slot.unset).toArray = ls at hl ⊢
  have hl : lv_has ls 3 [(0, .ref (ad 0)), (1, .int p0), (2, .int p1)] := hl
  refine lv_aload_n E.1 E.2.1 dX2_need_0 rfl (lv_at hl 0 rfl) ?_
  refine lv_iload_n E.1 E.2.1 dX2_need_1 rfl (lv_at hl 1 rfl) ?_
  refine g_VR (As := [.int p0]) (rest := []) E hK hP (z_X2_isSite l D cI cB ad p0) (cwV 1 E.2.2.2.2 gX2_need_X2_isSite rfl rfl rfl (by decide +kernel) ⟨Nat.le_of_ble_eq_true rfl, Nat.le_of_ble_eq_true rfl⟩) (rx hK hP) rfl hl.1 rfl (by decide) dX2_need_2 ⟨Nat.zero_le _, Nat.zero_le _⟩ ?_
  refine lv_if_ne (x := 0) (tgt := 11) E.1 E.2.1 dX2_need_5 (by decide) (fun h9 => absurd (by decide) h9) (fun _ => ?_)
  refine lv_bipush (v := (-101)) E.1 E.2.1 dX2_need_8 (by decide) ?_
  exact W.iret (v := (-101)) E.1 E.2.1 hr (fun t ht _ => ⟨rfl, ht⟩) (fun q hq => by cases hq) dX2_need_10
set_option maxHeartbeats 4000000 in
set_option maxRecDepth 100000 in
/-- found of a fresh object -/
theorem z_X2_found (l : Launch) (D : va_G) (cI cB : ClassId) (ad : Nat → Nat) (p0 : Int32) (p1 : Int32) (p2 : Int32) : Met l yX2_found wsX2_found ({ frames := 1, cells := 0, slots := 0, locals := 21 }) (GPc D cI cB (wX cI ad z0 zz) [.ref (ad 0), .int p0, .int p1, .int p2]) (QcRead ((-101))) 0 0 (fun _ => False) := by
  refine Met.ofW (cc := cX2_found) (maxL := 4) (ret := (some .int)) (by decide) rfl ?_
  intro p e s m args below meth c s₁ B hml hv
  obtain ⟨rfl, hP, hK⟩ := hv
  have hts := atoms_spec (ws := wsX2_found) B.pre
  have E : CallFix p m c cX2_found 4 s _ wsX2_found RX2 := ⟨B.exec, B.bytes, hml, findClass_of_methodNamed B.named, hts⟩
  have hr := B.returns
  have hlocks := B.notSynchronized
  have hl := lv_entry ([.ref (ad 0), .int p0, .int p1, .int p2]) (n := 4) (Nat.le_of_ble_eq_true rfl)
  rw [lg_entry_eq]
  generalize (lg_sl ([.ref (ad 0), .int p0, .int p1, .int p2]) ++ List.replicate (4 - (lg_sl ([.ref (ad 0), .int p0, .int p1, .int p2])).length) Slot.unset).toArray = ls at hl ⊢
  have hl : lv_has ls 4 [(0, .ref (ad 0)), (1, .int p0), (2, .int p1), (3, .int p2)] := hl
  refine lv_aload_n E.1 E.2.1 dX2_found_0 rfl (lv_at hl 0 rfl) ?_
  refine lv_iload_n E.1 E.2.1 dX2_found_1 rfl (lv_at hl 1 rfl) ?_
  refine g_VR (As := [.int p0]) (rest := []) E hK hP (z_X2_isSite l D cI cB ad p0) (cwV 1 E.2.2.2.2 gX2_found_X2_isSite rfl rfl rfl (by decide +kernel) ⟨Nat.le_of_ble_eq_true rfl, Nat.le_of_ble_eq_true rfl⟩) (rx hK hP) rfl hl.1 rfl (by decide) dX2_found_2 ⟨Nat.zero_le _, Nat.zero_le _⟩ ?_
  refine lv_if_ne (x := 0) (tgt := 11) E.1 E.2.1 dX2_found_5 (by decide) (fun h9 => absurd (by decide) h9) (fun _ => ?_)
  refine lv_bipush (v := (-101)) E.1 E.2.1 dX2_found_8 (by decide) ?_
  exact W.iret (v := (-101)) E.1 E.2.1 hr (fun t ht _ => ⟨rfl, ht⟩) (fun q hq => by cases hq) dX2_found_10
set_option maxHeartbeats 4000000 in
set_option maxRecDepth 100000 in
/-- sun of a fresh object -/
theorem z_X2_sun (l : Launch) (D : va_G) (cI cB : ClassId) (ad : Nat → Nat) (p0 : Int32) : Met l yX2_sun wsX2_sun ({ frames := 1, cells := 0, slots := 0, locals := 22 }) (GPc D cI cB (wX cI ad z0 zz) [.ref (ad 0), .int p0]) (QcRead (if 0 ≤ p0 ∧ p0 ≤ 9 then (-103) else (-102))) 0 0 (fun _ => False) := by
  refine Met.ofW (cc := cX2_sun) (maxL := 3) (ret := (some .int)) (by decide) rfl ?_
  intro p e s m args below meth c s₁ B hml hv
  obtain ⟨rfl, hP, hK⟩ := hv
  have hts := atoms_spec (ws := wsX2_sun) B.pre
  have E : CallFix p m c cX2_sun 3 s _ wsX2_sun RX2 := ⟨B.exec, B.bytes, hml, findClass_of_methodNamed B.named, hts⟩
  have hr := B.returns
  have hlocks := B.notSynchronized
  have in_2 : ∀ w ∈ wsX20, w ∈ wsX2_sun := fun _ h => List.mem_cons_of_mem _ (List.mem_append_left _ (List.mem_append_right _ h))
  have w_0 : (Cond.fieldLink RX2 39 "SnowTerm" "sites" "I").before _ s = true := hts _ (by decide +kernel)
  have hl := lv_entry ([.ref (ad 0), .int p0]) (n := 3) (Nat.le_of_ble_eq_true rfl)
  rw [lg_entry_eq]
  generalize (lg_sl ([.ref (ad 0), .int p0]) ++ List.replicate (3 - (lg_sl ([.ref (ad 0), .int p0])).length) Slot.unset).toArray = ls at hl ⊢
  have hl : lv_has ls 3 [(0, .ref (ad 0)), (1, .int p0)] := hl
  refine lv_iload_n E.1 E.2.1 dX2_sun_0 rfl (lv_at hl 1 rfl) ?_
  refine lv_iconst (v := 0) E.1 E.2.1 dX2_sun_1 (by decide) ?_
  refine lv_bipush (v := 9) E.1 E.2.1 dX2_sun_2 (by decide) ?_
  refine g_SR (As := [.int p0, .int 0, .int 9]) (rest := []) E hK (c_isWithin l D cI cB p0 0 9) (va_cwS 3 E.2.2.2.2 gX2_sun_X2_isWithin rfl rfl rfl (by decide +kernel) ⟨Nat.le_of_ble_eq_true rfl, Nat.le_of_ble_eq_true rfl⟩) rfl hl.1 rfl (by decide) dX2_sun_4 ⟨Nat.zero_le _, Nat.zero_le _⟩ ?_
  refine lv_if_ne (x := if 0 ≤ p0 ∧ p0 ≤ 9 then 1 else 0) (tgt := 13) E.1 E.2.1 dX2_sun_7 (by decide) (fun h_1 => ?_) (fun h_1 => ?_)
  · 
    have h_1 : 0 ≤ p0 ∧ p0 ≤ 9 := ite10_1 h_1
    refine lv_aload_n E.1 E.2.1 dX2_sun_13 rfl (lv_at hl 0 rfl) ?_
    refine xg_0_7 E hK hP in_2 w_0 dX2_sun_14 ?_
    refine lv_if_ne (x := 0) (tgt := 23) E.1 E.2.1 dX2_sun_17 (by decide) (fun h9 => absurd (by decide) h9) (fun _ => ?_)
    refine lv_bipush (v := (-103)) E.1 E.2.1 dX2_sun_20 (by decide) ?_
    exact W.iret (v := (-103)) E.1 E.2.1 hr (fun t ht _ => ⟨(congrArg (fun z : Int32 => Outcome.returned (some (Value.int z))) ((if_pos h_1).symm)), ht⟩) (fun q hq => by cases hq) dX2_sun_22
  · 
    have h_1 : ¬ (0 ≤ p0 ∧ p0 ≤ 9) := ite10_0 h_1
    refine lv_bipush (v := (-102)) E.1 E.2.1 dX2_sun_10 (by decide) ?_
    exact W.iret (v := (-102)) E.1 E.2.1 hr (fun t ht _ => ⟨(congrArg (fun z : Int32 => Outcome.returned (some (Value.int z))) ((if_neg (fun h9 => h_1 (h9))).symm)), ht⟩) (fun q hq => by cases hq) dX2_sun_12
set_option maxHeartbeats 4000000 in
set_option maxRecDepth 100000 in
/-- day of a fresh object -/
theorem z_X2_day (l : Launch) (D : va_G) (cI cB : ClassId) (ad : Nat → Nat)  : Met l yX2_day wsX2_day ({ frames := 0, cells := 0, slots := 0, locals := 0 }) (GPc D cI cB (wX cI ad z0 zz) [.ref (ad 0)]) (QcRead ((-103))) 0 0 (fun _ => False) := by
  refine Met.ofW (cc := cX2_day) (maxL := 2) (ret := (some .int)) (by decide) rfl ?_
  intro p e s m args below meth c s₁ B hml hv
  obtain ⟨rfl, hP, hK⟩ := hv
  have hts := atoms_spec (ws := wsX2_day) B.pre
  have E : CallFix p m c cX2_day 2 s _ wsX2_day RX2 := ⟨B.exec, B.bytes, hml, findClass_of_methodNamed B.named, hts⟩
  have hr := B.returns
  have hlocks := B.notSynchronized
  have in_2 : ∀ w ∈ wsX20, w ∈ wsX2_day := fun _ h => List.mem_cons_of_mem _ (List.mem_append_left _ (List.mem_append_right _ h))
  have w_0 : (Cond.fieldLink RX2 39 "SnowTerm" "sites" "I").before _ s = true := hts _ (by decide +kernel)
  have hl := lv_entry ([.ref (ad 0)]) (n := 2) (Nat.le_of_ble_eq_true rfl)
  rw [lg_entry_eq]
  generalize (lg_sl ([.ref (ad 0)]) ++ List.replicate (2 - (lg_sl ([.ref (ad 0)])).length) Slot.unset).toArray = ls at hl ⊢
  have hl : lv_has ls 2 [(0, .ref (ad 0))] := hl
  refine lv_aload_n E.1 E.2.1 dX2_day_0 rfl (lv_at hl 0 rfl) ?_
  refine xg_0_7 E hK hP in_2 w_0 dX2_day_1 ?_
  refine lv_if_ne (x := 0) (tgt := 10) E.1 E.2.1 dX2_day_4 (by decide) (fun h9 => absurd (by decide) h9) (fun _ => ?_)
  refine lv_bipush (v := (-103)) E.1 E.2.1 dX2_day_7 (by decide) ?_
  exact W.iret (v := (-103)) E.1 E.2.1 hr (fun t ht _ => ⟨rfl, ht⟩) (fun q hq => by cases hq) dX2_day_9
set_option maxHeartbeats 4000000 in
set_option maxRecDepth 100000 in
/-- plan of a fresh object -/
theorem z_X2_plan (l : Launch) (D : va_G) (cI cB : ClassId) (ad : Nat → Nat) (p0 : Int32) (p1 : Int32) (p2 : Int32) : Met l yX2_plan wsX2_plan ({ frames := 1, cells := 0, slots := 0, locals := 22 }) (GPc D cI cB (wX cI ad z0 zz) [.ref (ad 0), .int p0, .int p1, .int p2]) (QcRead (if (0 ≤ p0 ∧ p0 ≤ 60) ∧ (0 ≤ p1 ∧ p1 ≤ 9) ∧ (0 ≤ p2 ∧ p2 ≤ 3) then (-103) else (-102))) 0 0 (fun _ => False) := by
  refine Met.ofW (cc := cX2_plan) (maxL := 5) (ret := (some .int)) (by decide) rfl ?_
  intro p e s m args below meth c s₁ B hml hv
  obtain ⟨rfl, hP, hK⟩ := hv
  have hts := atoms_spec (ws := wsX2_plan) B.pre
  have E : CallFix p m c cX2_plan 5 s _ wsX2_plan RX2 := ⟨B.exec, B.bytes, hml, findClass_of_methodNamed B.named, hts⟩
  have hr := B.returns
  have hlocks := B.notSynchronized
  have in_2 : ∀ w ∈ wsX20, w ∈ wsX2_plan := fun _ h => List.mem_cons_of_mem _ (List.mem_append_left _ (List.mem_append_right _ h))
  have w_0 : (Cond.fieldLink RX2 39 "SnowTerm" "sites" "I").before _ s = true := hts _ (by decide +kernel)
  have hl := lv_entry ([.ref (ad 0), .int p0, .int p1, .int p2]) (n := 5) (Nat.le_of_ble_eq_true rfl)
  rw [lg_entry_eq]
  generalize (lg_sl ([.ref (ad 0), .int p0, .int p1, .int p2]) ++ List.replicate (5 - (lg_sl ([.ref (ad 0), .int p0, .int p1, .int p2])).length) Slot.unset).toArray = ls at hl ⊢
  have hl : lv_has ls 5 [(0, .ref (ad 0)), (1, .int p0), (2, .int p1), (3, .int p2)] := hl
  refine lv_iload_n E.1 E.2.1 dX2_plan_0 rfl (lv_at hl 1 rfl) ?_
  refine lv_iconst (v := 0) E.1 E.2.1 dX2_plan_1 (by decide) ?_
  refine lv_bipush (v := 60) E.1 E.2.1 dX2_plan_2 (by decide) ?_
  refine g_SR (As := [.int p0, .int 0, .int 60]) (rest := []) E hK (c_isWithin l D cI cB p0 0 60) (va_cwS 3 E.2.2.2.2 gX2_plan_X2_isWithin rfl rfl rfl (by decide +kernel) ⟨Nat.le_of_ble_eq_true rfl, Nat.le_of_ble_eq_true rfl⟩) rfl hl.1 rfl (by decide) dX2_plan_4 ⟨Nat.zero_le _, Nat.zero_le _⟩ ?_
  refine lv_if_eq (x := if 0 ≤ p0 ∧ p0 ≤ 60 then 1 else 0) (tgt := 29) E.1 E.2.1 dX2_plan_7 (by decide) (fun h_1 => ?_) (fun h_1 => ?_)
  · 
    have h_1 : ¬ (0 ≤ p0 ∧ p0 ≤ 60) := ite10_0 h_1
    refine lv_bipush (v := (-102)) E.1 E.2.1 dX2_plan_29 (by decide) ?_
    exact W.iret (v := (-102)) E.1 E.2.1 hr (fun t ht _ => ⟨(congrArg (fun z : Int32 => Outcome.returned (some (Value.int z))) ((if_neg (fun h9 => h_1 (h9.1))).symm)), ht⟩) (fun q hq => by cases hq) dX2_plan_31
  · 
    have h_1 : 0 ≤ p0 ∧ p0 ≤ 60 := ite10_1 h_1
    refine lv_iload_n E.1 E.2.1 dX2_plan_10 rfl (lv_at hl 2 rfl) ?_
    refine lv_iconst (v := 0) E.1 E.2.1 dX2_plan_11 (by decide) ?_
    refine lv_bipush (v := 9) E.1 E.2.1 dX2_plan_12 (by decide) ?_
    refine g_SR (As := [.int p1, .int 0, .int 9]) (rest := []) E hK (c_isWithin l D cI cB p1 0 9) (va_cwS 3 E.2.2.2.2 gX2_plan_X2_isWithin rfl rfl rfl (by decide +kernel) ⟨Nat.le_of_ble_eq_true rfl, Nat.le_of_ble_eq_true rfl⟩) rfl hl.1 rfl (by decide) dX2_plan_14 ⟨Nat.zero_le _, Nat.zero_le _⟩ ?_
    refine lv_if_eq (x := if 0 ≤ p1 ∧ p1 ≤ 9 then 1 else 0) (tgt := 29) E.1 E.2.1 dX2_plan_17 (by decide) (fun h_2 => ?_) (fun h_2 => ?_)
    · 
      have h_2 : ¬ (0 ≤ p1 ∧ p1 ≤ 9) := ite10_0 h_2
      refine lv_bipush (v := (-102)) E.1 E.2.1 dX2_plan_29 (by decide) ?_
      exact W.iret (v := (-102)) E.1 E.2.1 hr (fun t ht _ => ⟨(congrArg (fun z : Int32 => Outcome.returned (some (Value.int z))) ((if_neg (fun h9 => h_2 (h9.2.1))).symm)), ht⟩) (fun q hq => by cases hq) dX2_plan_31
    · 
      have h_2 : 0 ≤ p1 ∧ p1 ≤ 9 := ite10_1 h_2
      refine lv_iload_n E.1 E.2.1 dX2_plan_20 rfl (lv_at hl 3 rfl) ?_
      refine lv_iconst (v := 0) E.1 E.2.1 dX2_plan_21 (by decide) ?_
      refine lv_iconst (v := 3) E.1 E.2.1 dX2_plan_22 (by decide) ?_
      refine g_SR (As := [.int p2, .int 0, .int 3]) (rest := []) E hK (c_isWithin l D cI cB p2 0 3) (va_cwS 3 E.2.2.2.2 gX2_plan_X2_isWithin rfl rfl rfl (by decide +kernel) ⟨Nat.le_of_ble_eq_true rfl, Nat.le_of_ble_eq_true rfl⟩) rfl hl.1 rfl (by decide) dX2_plan_23 ⟨Nat.zero_le _, Nat.zero_le _⟩ ?_
      refine lv_if_ne (x := if 0 ≤ p2 ∧ p2 ≤ 3 then 1 else 0) (tgt := 32) E.1 E.2.1 dX2_plan_26 (by decide) (fun h_3 => ?_) (fun h_3 => ?_)
      · 
        have h_3 : 0 ≤ p2 ∧ p2 ≤ 3 := ite10_1 h_3
        refine lv_aload_n E.1 E.2.1 dX2_plan_32 rfl (lv_at hl 0 rfl) ?_
        refine xg_0_7 E hK hP in_2 w_0 dX2_plan_33 ?_
        refine lv_if_ne (x := 0) (tgt := 42) E.1 E.2.1 dX2_plan_36 (by decide) (fun h9 => absurd (by decide) h9) (fun _ => ?_)
        refine lv_bipush (v := (-103)) E.1 E.2.1 dX2_plan_39 (by decide) ?_
        exact W.iret (v := (-103)) E.1 E.2.1 hr (fun t ht _ => ⟨(congrArg (fun z : Int32 => Outcome.returned (some (Value.int z))) ((if_pos ⟨h_1, h_2, h_3⟩).symm)), ht⟩) (fun q hq => by cases hq) dX2_plan_41
      · 
        have h_3 : ¬ (0 ≤ p2 ∧ p2 ≤ 3) := ite10_0 h_3
        refine lv_bipush (v := (-102)) E.1 E.2.1 dX2_plan_29 (by decide) ?_
        exact W.iret (v := (-102)) E.1 E.2.1 hr (fun t ht _ => ⟨(congrArg (fun z : Int32 => Outcome.returned (some (Value.int z))) ((if_neg (fun h9 => h_3 (h9.2.2))).symm)), ht⟩) (fun q hq => by cases hq) dX2_plan_31
set_option maxHeartbeats 4000000 in
set_option maxRecDepth 100000 in
/-- error of a fresh object -/
theorem z_X2_error (l : Launch) (D : va_G) (cI cB : ClassId) (ad : Nat → Nat) (p0 : Int32) : Met l yX2_error wsX2_error ({ frames := 1, cells := 0, slots := 0, locals := 22 }) (GPc D cI cB (wX cI ad z0 zz) [.ref (ad 0), .int p0]) (QcRead (if 0 ≤ p0 ∧ p0 ≤ 1 then (-103) else (-102))) 0 0 (fun _ => False) := by
  refine Met.ofW (cc := cX2_error) (maxL := 3) (ret := (some .int)) (by decide) rfl ?_
  intro p e s m args below meth c s₁ B hml hv
  obtain ⟨rfl, hP, hK⟩ := hv
  have hts := atoms_spec (ws := wsX2_error) B.pre
  have E : CallFix p m c cX2_error 3 s _ wsX2_error RX2 := ⟨B.exec, B.bytes, hml, findClass_of_methodNamed B.named, hts⟩
  have hr := B.returns
  have hlocks := B.notSynchronized
  have in_2 : ∀ w ∈ wsX20, w ∈ wsX2_error := fun _ h => List.mem_cons_of_mem _ (List.mem_append_left _ (List.mem_append_right _ h))
  have w_0 : (Cond.fieldLink RX2 39 "SnowTerm" "sites" "I").before _ s = true := hts _ (by decide +kernel)
  have hl := lv_entry ([.ref (ad 0), .int p0]) (n := 3) (Nat.le_of_ble_eq_true rfl)
  rw [lg_entry_eq]
  generalize (lg_sl ([.ref (ad 0), .int p0]) ++ List.replicate (3 - (lg_sl ([.ref (ad 0), .int p0])).length) Slot.unset).toArray = ls at hl ⊢
  have hl : lv_has ls 3 [(0, .ref (ad 0)), (1, .int p0)] := hl
  refine lv_iload_n E.1 E.2.1 dX2_error_0 rfl (lv_at hl 1 rfl) ?_
  refine lv_iconst (v := 0) E.1 E.2.1 dX2_error_1 (by decide) ?_
  refine lv_iconst (v := 1) E.1 E.2.1 dX2_error_2 (by decide) ?_
  refine g_SR (As := [.int p0, .int 0, .int 1]) (rest := []) E hK (c_isWithin l D cI cB p0 0 1) (va_cwS 3 E.2.2.2.2 gX2_error_X2_isWithin rfl rfl rfl (by decide +kernel) ⟨Nat.le_of_ble_eq_true rfl, Nat.le_of_ble_eq_true rfl⟩) rfl hl.1 rfl (by decide) dX2_error_3 ⟨Nat.zero_le _, Nat.zero_le _⟩ ?_
  refine lv_if_ne (x := if 0 ≤ p0 ∧ p0 ≤ 1 then 1 else 0) (tgt := 12) E.1 E.2.1 dX2_error_6 (by decide) (fun h_1 => ?_) (fun h_1 => ?_)
  · 
    have h_1 : 0 ≤ p0 ∧ p0 ≤ 1 := ite10_1 h_1
    refine lv_aload_n E.1 E.2.1 dX2_error_12 rfl (lv_at hl 0 rfl) ?_
    refine xg_0_7 E hK hP in_2 w_0 dX2_error_13 ?_
    refine lv_if_ne (x := 0) (tgt := 22) E.1 E.2.1 dX2_error_16 (by decide) (fun h9 => absurd (by decide) h9) (fun _ => ?_)
    refine lv_bipush (v := (-103)) E.1 E.2.1 dX2_error_19 (by decide) ?_
    exact W.iret (v := (-103)) E.1 E.2.1 hr (fun t ht _ => ⟨(congrArg (fun z : Int32 => Outcome.returned (some (Value.int z))) ((if_pos h_1).symm)), ht⟩) (fun q hq => by cases hq) dX2_error_21
  · 
    have h_1 : ¬ (0 ≤ p0 ∧ p0 ≤ 1) := ite10_0 h_1
    refine lv_bipush (v := (-102)) E.1 E.2.1 dX2_error_9 (by decide) ?_
    exact W.iret (v := (-102)) E.1 E.2.1 hr (fun t ht _ => ⟨(congrArg (fun z : Int32 => Outcome.returned (some (Value.int z))) ((if_neg (fun h9 => h_1 (h9))).symm)), ht⟩) (fun q hq => by cases hq) dX2_error_11
set_option maxHeartbeats 4000000 in
set_option maxRecDepth 100000 in
/-- winters of a fresh object -/
theorem z_X2_winters (l : Launch) (D : va_G) (cI cB : ClassId) (ad : Nat → Nat) (p0 : Int32) (p1 : Int32) (p2 : Int32) : Met l yX2_winters wsX2_winters ({ frames := 1, cells := 0, slots := 0, locals := 22 }) (GPc D cI cB (wX cI ad z0 zz) [.ref (ad 0), .int p0, .int p1, .int p2]) (QcRead (if (1 ≤ p0 ∧ p0 ≤ 60) ∧ (¬ p1 < 0) ∧ (0 ≤ p2 ∧ p2 ≤ 2) then (-103) else (-102))) 0 0 (fun _ => False) := by
  refine Met.ofW (cc := cX2_winters) (maxL := 8) (ret := (some .int)) (by decide) rfl ?_
  intro p e s m args below meth c s₁ B hml hv
  obtain ⟨rfl, hP, hK⟩ := hv
  have hts := atoms_spec (ws := wsX2_winters) B.pre
  have E : CallFix p m c cX2_winters 8 s _ wsX2_winters RX2 := ⟨B.exec, B.bytes, hml, findClass_of_methodNamed B.named, hts⟩
  have hr := B.returns
  have hlocks := B.notSynchronized
  have in_2 : ∀ w ∈ wsX20, w ∈ wsX2_winters := fun _ h => List.mem_cons_of_mem _ (List.mem_append_left _ (List.mem_append_right _ h))
  have w_0 : (Cond.fieldLink RX2 39 "SnowTerm" "sites" "I").before _ s = true := hts _ (by decide +kernel)
  have hl := lv_entry ([.ref (ad 0), .int p0, .int p1, .int p2]) (n := 8) (Nat.le_of_ble_eq_true rfl)
  rw [lg_entry_eq]
  generalize (lg_sl ([.ref (ad 0), .int p0, .int p1, .int p2]) ++ List.replicate (8 - (lg_sl ([.ref (ad 0), .int p0, .int p1, .int p2])).length) Slot.unset).toArray = ls at hl ⊢
  have hl : lv_has ls 8 [(0, .ref (ad 0)), (1, .int p0), (2, .int p1), (3, .int p2)] := hl
  refine lv_iload_n E.1 E.2.1 dX2_winters_0 rfl (lv_at hl 1 rfl) ?_
  refine lv_iconst (v := 1) E.1 E.2.1 dX2_winters_1 (by decide) ?_
  refine lv_bipush (v := 60) E.1 E.2.1 dX2_winters_2 (by decide) ?_
  refine g_SR (As := [.int p0, .int 1, .int 60]) (rest := []) E hK (c_isWithin l D cI cB p0 1 60) (va_cwS 3 E.2.2.2.2 gX2_winters_X2_isWithin rfl rfl rfl (by decide +kernel) ⟨Nat.le_of_ble_eq_true rfl, Nat.le_of_ble_eq_true rfl⟩) rfl hl.1 rfl (by decide) dX2_winters_4 ⟨Nat.zero_le _, Nat.zero_le _⟩ ?_
  refine lv_if_eq (x := if 1 ≤ p0 ∧ p0 ≤ 60 then 1 else 0) (tgt := 23) E.1 E.2.1 dX2_winters_7 (by decide) (fun h_1 => ?_) (fun h_1 => ?_)
  · 
    have h_1 : ¬ (1 ≤ p0 ∧ p0 ≤ 60) := ite10_0 h_1
    refine lv_bipush (v := (-102)) E.1 E.2.1 dX2_winters_23 (by decide) ?_
    exact W.iret (v := (-102)) E.1 E.2.1 hr (fun t ht _ => ⟨(congrArg (fun z : Int32 => Outcome.returned (some (Value.int z))) ((if_neg (fun h9 => h_1 (h9.1))).symm)), ht⟩) (fun q hq => by cases hq) dX2_winters_25
  · 
    have h_1 : 1 ≤ p0 ∧ p0 ≤ 60 := ite10_1 h_1
    refine lv_iload_n E.1 E.2.1 dX2_winters_10 rfl (lv_at hl 2 rfl) ?_
    refine lv_if_lt (x := p1) (tgt := 23) E.1 E.2.1 dX2_winters_11 (by decide) (fun h11 => ?_) (fun h11 => ?_)
    · 
      refine lv_bipush (v := (-102)) E.1 E.2.1 dX2_winters_23 (by decide) ?_
      exact W.iret (v := (-102)) E.1 E.2.1 hr (fun t ht _ => ⟨(congrArg (fun z : Int32 => Outcome.returned (some (Value.int z))) ((if_neg (fun h9 => (fun h8 => h8 h11) (h9.2.1))).symm)), ht⟩) (fun q hq => by cases hq) dX2_winters_25
    · 
      refine lv_iload_n E.1 E.2.1 dX2_winters_14 rfl (lv_at hl 3 rfl) ?_
      refine lv_iconst (v := 0) E.1 E.2.1 dX2_winters_15 (by decide) ?_
      refine lv_iconst (v := 2) E.1 E.2.1 dX2_winters_16 (by decide) ?_
      refine g_SR (As := [.int p2, .int 0, .int 2]) (rest := []) E hK (c_isWithin l D cI cB p2 0 2) (va_cwS 3 E.2.2.2.2 gX2_winters_X2_isWithin rfl rfl rfl (by decide +kernel) ⟨Nat.le_of_ble_eq_true rfl, Nat.le_of_ble_eq_true rfl⟩) rfl hl.1 rfl (by decide) dX2_winters_17 ⟨Nat.zero_le _, Nat.zero_le _⟩ ?_
      refine lv_if_ne (x := if 0 ≤ p2 ∧ p2 ≤ 2 then 1 else 0) (tgt := 26) E.1 E.2.1 dX2_winters_20 (by decide) (fun h_2 => ?_) (fun h_2 => ?_)
      · 
        have h_2 : 0 ≤ p2 ∧ p2 ≤ 2 := ite10_1 h_2
        refine lv_aload_n E.1 E.2.1 dX2_winters_26 rfl (lv_at hl 0 rfl) ?_
        refine xg_0_7 E hK hP in_2 w_0 dX2_winters_27 ?_
        refine lv_if_ne (x := 0) (tgt := 36) E.1 E.2.1 dX2_winters_30 (by decide) (fun h9 => absurd (by decide) h9) (fun _ => ?_)
        refine lv_bipush (v := (-103)) E.1 E.2.1 dX2_winters_33 (by decide) ?_
        exact W.iret (v := (-103)) E.1 E.2.1 hr (fun t ht _ => ⟨(congrArg (fun z : Int32 => Outcome.returned (some (Value.int z))) ((if_pos ⟨h_1, h11, h_2⟩).symm)), ht⟩) (fun q hq => by cases hq) dX2_winters_35
      · 
        have h_2 : ¬ (0 ≤ p2 ∧ p2 ≤ 2) := ite10_0 h_2
        refine lv_bipush (v := (-102)) E.1 E.2.1 dX2_winters_23 (by decide) ?_
        exact W.iret (v := (-102)) E.1 E.2.1 hr (fun t ht _ => ⟨(congrArg (fun z : Int32 => Outcome.returned (some (Value.int z))) ((if_neg (fun h9 => h_2 (h9.2.2))).symm)), ht⟩) (fun q hq => by cases hq) dX2_winters_25
set_option maxHeartbeats 4000000 in
set_option maxRecDepth 100000 in
/-- forget of a fresh object -/
theorem z_X2_forget (l : Launch) (D : va_G) (cI cB : ClassId) (ad : Nat → Nat) (hI : wI 25 ad)  : Met l yX2_forget wsX2_forget ({ frames := 0, cells := 0, slots := 0, locals := 0 }) (GPc D cI cB (wX cI ad z0 zz) [.ref (ad 0)]) (va_Qi (fun (r : Int32) (_ : Unit) => r = 0) (fun _ t => va_P D vwCl [] t.heap) (wA 25 ad)) 0 0 (wA 25 ad) := by
  refine Met.ofW (cc := cX2_forget) (maxL := 2) (ret := (some .int)) (by decide) rfl ?_
  intro p e s m args below meth c s₁ B hml hv
  obtain ⟨rfl, hP, hK⟩ := hv
  have hts := atoms_spec (ws := wsX2_forget) B.pre
  have E : CallFix p m c cX2_forget 2 s _ wsX2_forget RX2 := ⟨B.exec, B.bytes, hml, findClass_of_methodNamed B.named, hts⟩
  have hr := B.returns
  have hlocks := B.notSynchronized
  have hS : va_S (wA 25 ad) s.heap s.heap [] := va_S.rf
  have in_1 : ∀ w ∈ wsX10, w ∈ wsX2_forget := fun _ h => List.mem_cons_of_mem _ (List.mem_append_right _ h)
  have in_2 : ∀ w ∈ wsX20, w ∈ wsX2_forget := fun _ h => List.mem_cons_of_mem _ (List.mem_append_left _ (List.mem_append_right _ h))
  have w_0 : (Cond.fieldLink RX2 26 "SnowTerm" "now" "LSnowTerm$Term;").before _ s = true := hts _ (by decide +kernel)
  have w_1 : (Cond.fieldLink RX2 161 "SnowTerm$Term" "foundCount" "I").before _ s = true := hts _ (by decide +kernel)
  have hl := lv_entry ([.ref (ad 0)]) (n := 2) (Nat.le_of_ble_eq_true rfl)
  rw [lg_entry_eq]
  generalize (lg_sl ([.ref (ad 0)]) ++ List.replicate (2 - (lg_sl ([.ref (ad 0)])).length) Slot.unset).toArray = ls at hl ⊢
  have hl : lv_has ls 2 [(0, .ref (ad 0))] := hl
  refine lv_aload_n E.1 E.2.1 dX2_forget_0 rfl (lv_at hl 0 rfl) ?_
  refine xg_0_3 E hK hP in_2 w_0 dX2_forget_1 ?_
  refine xg_4_12 E hK hP in_1 w_1 dX2_forget_4 ?_
  refine lv_istore_n (lv' := [(1, .int 0), (0, .ref (ad 0))]) E.1 E.2.1 dX2_forget_7 rfl hl (by decide) rfl (fun ls hl => ?_)
  refine lv_aload_n E.1 E.2.1 dX2_forget_8 rfl (lv_at hl 1 rfl) ?_
  refine xg_0_3 E hK hP in_2 w_0 dX2_forget_9 ?_
  refine lv_iconst (v := 0) E.1 E.2.1 dX2_forget_12 (by decide) ?_
  refine xp_4_12 (v := 0) E hK hP in_1 w_1 hI hS dX2_forget_13 (fun H locs hP hS => ?_)
  refine lv_iload_n E.1 E.2.1 dX2_forget_16 rfl (lv_at hl 0 rfl) ?_
  exact W.iret (v := 0) E.1 E.2.1 hr (fun t ht _ => ⟨⟨0, (), rfl, rfl, fun _ _ h => by simp at h⟩, hS.F ht⟩) hS.2.2 dX2_forget_17
set_option maxHeartbeats 4000000 in
set_option maxRecDepth 100000 in
/-- suns of a fresh object -/
theorem z_X2_suns (l : Launch) (D : va_G) (cI cB : ClassId) (ad : Nat → Nat)  : Met l yX2_suns wsX2_suns ({ frames := 0, cells := 0, slots := 0, locals := 0 }) (GPc D cI cB (wX cI ad z0 zz) [.ref (ad 0)]) (QcRead ((-103))) 0 0 (fun _ => False) := by
  refine Met.ofW (cc := cX2_suns) (maxL := 1) (ret := (some .int)) (by decide) rfl ?_
  intro p e s m args below meth c s₁ B hml hv
  obtain ⟨rfl, hP, hK⟩ := hv
  have hts := atoms_spec (ws := wsX2_suns) B.pre
  have E : CallFix p m c cX2_suns 1 s _ wsX2_suns RX2 := ⟨B.exec, B.bytes, hml, findClass_of_methodNamed B.named, hts⟩
  have hr := B.returns
  have hlocks := B.notSynchronized
  have in_2 : ∀ w ∈ wsX20, w ∈ wsX2_suns := fun _ h => List.mem_cons_of_mem _ (List.mem_append_left _ (List.mem_append_right _ h))
  have w_0 : (Cond.fieldLink RX2 39 "SnowTerm" "sites" "I").before _ s = true := hts _ (by decide +kernel)
  have hl := lv_entry ([.ref (ad 0)]) (n := 1) (Nat.le_of_ble_eq_true rfl)
  rw [lg_entry_eq]
  generalize (lg_sl ([.ref (ad 0)]) ++ List.replicate (1 - (lg_sl ([.ref (ad 0)])).length) Slot.unset).toArray = ls at hl ⊢
  have hl : lv_has ls 1 [(0, .ref (ad 0))] := hl
  refine lv_aload_n E.1 E.2.1 dX2_suns_0 rfl (lv_at hl 0 rfl) ?_
  refine xg_0_7 E hK hP in_2 w_0 dX2_suns_1 ?_
  refine lv_if_ne (x := 0) (tgt := 10) E.1 E.2.1 dX2_suns_4 (by decide) (fun h9 => absurd (by decide) h9) (fun _ => ?_)
  refine lv_bipush (v := (-103)) E.1 E.2.1 dX2_suns_7 (by decide) ?_
  exact W.iret (v := (-103)) E.1 E.2.1 hr (fun t ht _ => ⟨rfl, ht⟩) (fun q hq => by cases hq) dX2_suns_9
set_option maxHeartbeats 4000000 in
set_option maxRecDepth 100000 in
/-- look of a fresh object -/
theorem z_X2_look (l : Launch) (D : va_G) (cI cB : ClassId) (ad : Nat → Nat)  : Met l yX2_look wsX2_look ({ frames := 0, cells := 0, slots := 0, locals := 0 }) (GPc D cI cB (wX cI ad z0 zz) [.ref (ad 0)]) (QcRead ((-103))) 0 0 (fun _ => False) := by
  refine Met.ofW (cc := cX2_look) (maxL := 1) (ret := (some .int)) (by decide) rfl ?_
  intro p e s m args below meth c s₁ B hml hv
  obtain ⟨rfl, hP, hK⟩ := hv
  have hts := atoms_spec (ws := wsX2_look) B.pre
  have E : CallFix p m c cX2_look 1 s _ wsX2_look RX2 := ⟨B.exec, B.bytes, hml, findClass_of_methodNamed B.named, hts⟩
  have hr := B.returns
  have hlocks := B.notSynchronized
  have in_2 : ∀ w ∈ wsX20, w ∈ wsX2_look := fun _ h => List.mem_cons_of_mem _ (List.mem_append_left _ (List.mem_append_right _ h))
  have w_0 : (Cond.fieldLink RX2 39 "SnowTerm" "sites" "I").before _ s = true := hts _ (by decide +kernel)
  have hl := lv_entry ([.ref (ad 0)]) (n := 1) (Nat.le_of_ble_eq_true rfl)
  rw [lg_entry_eq]
  generalize (lg_sl ([.ref (ad 0)]) ++ List.replicate (1 - (lg_sl ([.ref (ad 0)])).length) Slot.unset).toArray = ls at hl ⊢
  have hl : lv_has ls 1 [(0, .ref (ad 0))] := hl
  refine lv_aload_n E.1 E.2.1 dX2_look_0 rfl (lv_at hl 0 rfl) ?_
  refine xg_0_7 E hK hP in_2 w_0 dX2_look_1 ?_
  refine lv_if_ne (x := 0) (tgt := 10) E.1 E.2.1 dX2_look_4 (by decide) (fun h9 => absurd (by decide) h9) (fun _ => ?_)
  refine lv_bipush (v := (-103)) E.1 E.2.1 dX2_look_7 (by decide) ?_
  exact W.iret (v := (-103)) E.1 E.2.1 hr (fun t ht _ => ⟨rfl, ht⟩) (fun q hq => by cases hq) dX2_look_9
set_option maxHeartbeats 4000000 in
set_option maxRecDepth 100000 in
/-- image of a fresh object -/
theorem z_X2_image (l : Launch) (D : va_G) (cI cB : ClassId) (ad : Nat → Nat)  : Met l yX2_image wsX2_image ({ frames := 0, cells := 0, slots := 0, locals := 0 }) (GPc D cI cB (wX cI ad z0 zz) [.ref (ad 0)]) (QcRead ((-103))) 0 0 (fun _ => False) := by
  refine Met.ofW (cc := cX2_image) (maxL := 1) (ret := (some .int)) (by decide) rfl ?_
  intro p e s m args below meth c s₁ B hml hv
  obtain ⟨rfl, hP, hK⟩ := hv
  have hts := atoms_spec (ws := wsX2_image) B.pre
  have E : CallFix p m c cX2_image 1 s _ wsX2_image RX2 := ⟨B.exec, B.bytes, hml, findClass_of_methodNamed B.named, hts⟩
  have hr := B.returns
  have hlocks := B.notSynchronized
  have in_2 : ∀ w ∈ wsX20, w ∈ wsX2_image := fun _ h => List.mem_cons_of_mem _ (List.mem_append_left _ (List.mem_append_right _ h))
  have w_0 : (Cond.fieldLink RX2 39 "SnowTerm" "sites" "I").before _ s = true := hts _ (by decide +kernel)
  have hl := lv_entry ([.ref (ad 0)]) (n := 1) (Nat.le_of_ble_eq_true rfl)
  rw [lg_entry_eq]
  generalize (lg_sl ([.ref (ad 0)]) ++ List.replicate (1 - (lg_sl ([.ref (ad 0)])).length) Slot.unset).toArray = ls at hl ⊢
  have hl : lv_has ls 1 [(0, .ref (ad 0))] := hl
  refine lv_aload_n E.1 E.2.1 dX2_image_0 rfl (lv_at hl 0 rfl) ?_
  refine xg_0_7 E hK hP in_2 w_0 dX2_image_1 ?_
  refine lv_if_ne (x := 0) (tgt := 10) E.1 E.2.1 dX2_image_4 (by decide) (fun h9 => absurd (by decide) h9) (fun _ => ?_)
  refine lv_bipush (v := (-103)) E.1 E.2.1 dX2_image_7 (by decide) ?_
  exact W.iret (v := (-103)) E.1 E.2.1 hr (fun t ht _ => ⟨rfl, ht⟩) (fun q hq => by cases hq) dX2_image_9
set_option maxHeartbeats 4000000 in
set_option maxRecDepth 100000 in
/-- restore of a fresh object -/
theorem z_X2_restore (l : Launch) (D : va_G) (cI cB : ClassId) (ad : Nat → Nat)  : Met l yX2_restore wsX2_restore ({ frames := 0, cells := 0, slots := 0, locals := 0 }) (GPc D cI cB (wX cI ad z0 zz) [.ref (ad 0)]) (QcRead ((-103))) 0 0 (fun _ => False) := by
  refine Met.ofW (cc := cX2_restore) (maxL := 1) (ret := (some .int)) (by decide) rfl ?_
  intro p e s m args below meth c s₁ B hml hv
  obtain ⟨rfl, hP, hK⟩ := hv
  have hts := atoms_spec (ws := wsX2_restore) B.pre
  have E : CallFix p m c cX2_restore 1 s _ wsX2_restore RX2 := ⟨B.exec, B.bytes, hml, findClass_of_methodNamed B.named, hts⟩
  have hr := B.returns
  have hlocks := B.notSynchronized
  have in_2 : ∀ w ∈ wsX20, w ∈ wsX2_restore := fun _ h => List.mem_cons_of_mem _ (List.mem_append_left _ (List.mem_append_right _ h))
  have w_0 : (Cond.fieldLink RX2 46 "SnowTerm" "hasImage" "Z").before _ s = true := hts _ (by decide +kernel)
  have hl := lv_entry ([.ref (ad 0)]) (n := 1) (Nat.le_of_ble_eq_true rfl)
  rw [lg_entry_eq]
  generalize (lg_sl ([.ref (ad 0)]) ++ List.replicate (1 - (lg_sl ([.ref (ad 0)])).length) Slot.unset).toArray = ls at hl ⊢
  have hl : lv_has ls 1 [(0, .ref (ad 0))] := hl
  refine lv_aload_n E.1 E.2.1 dX2_restore_0 rfl (lv_at hl 0 rfl) ?_
  refine xg_0_9 E hK hP in_2 w_0 dX2_restore_1 ?_
  refine lv_if_ne (x := 0) (tgt := 10) E.1 E.2.1 dX2_restore_4 (by decide) (fun h9 => absurd (by decide) h9) (fun _ => ?_)
  refine lv_bipush (v := (-103)) E.1 E.2.1 dX2_restore_7 (by decide) ?_
  exact W.iret (v := (-103)) E.1 E.2.1 hr (fun t ht _ => ⟨rfl, ht⟩) (fun q hq => by cases hq) dX2_restore_9
set_option maxHeartbeats 4000000 in
set_option maxRecDepth 100000 in
/-- keptIn of a fresh object -/
theorem z_X2_keptIn (l : Launch) (D : va_G) (cI cB : ClassId) (ad : Nat → Nat)  : Met l yX2_keptIn wsX2_keptIn ({ frames := 0, cells := 0, slots := 0, locals := 0 }) (GPc D cI cB (wX cI ad z0 zz) [.ref (ad 0), .ref (ad 9)]) (QcRead (0)) 0 0 (fun _ => False) := by
  refine Met.ofW (cc := cX2_keptIn) (maxL := 4) (ret := (some .int)) (by decide) rfl ?_
  intro p e s m args below meth c s₁ B hml hv
  obtain ⟨rfl, hP, hK⟩ := hv
  have hts := atoms_spec (ws := wsX2_keptIn) B.pre
  have E : CallFix p m c cX2_keptIn 4 s _ wsX2_keptIn RX2 := ⟨B.exec, B.bytes, hml, findClass_of_methodNamed B.named, hts⟩
  have hr := B.returns
  have hlocks := B.notSynchronized
  have in_2 : ∀ w ∈ wsX20, w ∈ wsX2_keptIn := fun _ h => List.mem_cons_of_mem _ (List.mem_append_right _ h)
  have w_0 : (Cond.fieldLink RX2 39 "SnowTerm" "sites" "I").before _ s = true := hts _ (by decide +kernel)
  have hl := lv_entry ([.ref (ad 0), .ref (ad 9)]) (n := 4) (Nat.le_of_ble_eq_true rfl)
  rw [lg_entry_eq]
  generalize (lg_sl ([.ref (ad 0), .ref (ad 9)]) ++ List.replicate (4 - (lg_sl ([.ref (ad 0), .ref (ad 9)])).length) Slot.unset).toArray = ls at hl ⊢
  have hl : lv_has ls 4 [(0, .ref (ad 0)), (1, .ref (ad 9))] := hl
  refine lv_iconst (v := 0) E.1 E.2.1 dX2_keptIn_0 (by decide) ?_
  refine lv_istore_n (lv' := [(2, .int 0), (0, .ref (ad 0)), (1, .ref (ad 9))]) E.1 E.2.1 dX2_keptIn_1 rfl hl (by decide) rfl (fun ls hl => ?_)
  refine lv_iconst (v := 0) E.1 E.2.1 dX2_keptIn_2 (by decide) ?_
  refine lv_istore_n (lv' := [(3, .int 0), (2, .int 0), (0, .ref (ad 0)), (1, .ref (ad 9))]) E.1 E.2.1 dX2_keptIn_3 rfl hl (by decide) rfl (fun ls hl => ?_)
  refine lv_iload_n E.1 E.2.1 dX2_keptIn_4 rfl (lv_at hl 0 rfl) ?_
  refine lv_aload_n E.1 E.2.1 dX2_keptIn_5 rfl (lv_at hl 2 rfl) ?_
  refine xg_0_7 E hK hP in_2 w_0 dX2_keptIn_6 ?_
  refine lv_icmp_ge (x := 0) (y := 0) (tgt := 32) E.1 E.2.1 dX2_keptIn_9 (by decide) (fun _ => ?_) (fun h9 => absurd (by decide) h9)
  refine lv_iload_n E.1 E.2.1 dX2_keptIn_32 rfl (lv_at hl 1 rfl) ?_
  exact W.iret (v := 0) E.1 E.2.1 hr (fun t ht _ => ⟨rfl, ht⟩) (fun q hq => by cases hq) dX2_keptIn_33
set_option maxHeartbeats 4000000 in
set_option maxRecDepth 100000 in
/-- snowIn of a fresh object -/
theorem z_X2_snowIn (l : Launch) (D : va_G) (cI cB : ClassId) (ad : Nat → Nat)  : Met l yX2_snowIn wsX2_snowIn ({ frames := 0, cells := 0, slots := 0, locals := 0 }) (GPc D cI cB (wX cI ad z0 zz) [.ref (ad 0), .ref (ad 9)]) (QcRead (0)) 0 0 (fun _ => False) := by
  refine Met.ofW (cc := cX2_snowIn) (maxL := 4) (ret := (some .int)) (by decide) rfl ?_
  intro p e s m args below meth c s₁ B hml hv
  obtain ⟨rfl, hP, hK⟩ := hv
  have hts := atoms_spec (ws := wsX2_snowIn) B.pre
  have E : CallFix p m c cX2_snowIn 4 s _ wsX2_snowIn RX2 := ⟨B.exec, B.bytes, hml, findClass_of_methodNamed B.named, hts⟩
  have hr := B.returns
  have hlocks := B.notSynchronized
  have in_2 : ∀ w ∈ wsX20, w ∈ wsX2_snowIn := fun _ h => List.mem_cons_of_mem _ (List.mem_append_right _ h)
  have w_0 : (Cond.fieldLink RX2 39 "SnowTerm" "sites" "I").before _ s = true := hts _ (by decide +kernel)
  have hl := lv_entry ([.ref (ad 0), .ref (ad 9)]) (n := 4) (Nat.le_of_ble_eq_true rfl)
  rw [lg_entry_eq]
  generalize (lg_sl ([.ref (ad 0), .ref (ad 9)]) ++ List.replicate (4 - (lg_sl ([.ref (ad 0), .ref (ad 9)])).length) Slot.unset).toArray = ls at hl ⊢
  have hl : lv_has ls 4 [(0, .ref (ad 0)), (1, .ref (ad 9))] := hl
  refine lv_iconst (v := 0) E.1 E.2.1 dX2_snowIn_0 (by decide) ?_
  refine lv_istore_n (lv' := [(2, .int 0), (0, .ref (ad 0)), (1, .ref (ad 9))]) E.1 E.2.1 dX2_snowIn_1 rfl hl (by decide) rfl (fun ls hl => ?_)
  refine lv_iconst (v := 0) E.1 E.2.1 dX2_snowIn_2 (by decide) ?_
  refine lv_istore_n (lv' := [(3, .int 0), (2, .int 0), (0, .ref (ad 0)), (1, .ref (ad 9))]) E.1 E.2.1 dX2_snowIn_3 rfl hl (by decide) rfl (fun ls hl => ?_)
  refine lv_iload_n E.1 E.2.1 dX2_snowIn_4 rfl (lv_at hl 0 rfl) ?_
  refine lv_aload_n E.1 E.2.1 dX2_snowIn_5 rfl (lv_at hl 2 rfl) ?_
  refine xg_0_7 E hK hP in_2 w_0 dX2_snowIn_6 ?_
  refine lv_icmp_ge (x := 0) (y := 0) (tgt := 24) E.1 E.2.1 dX2_snowIn_9 (by decide) (fun _ => ?_) (fun h9 => absurd (by decide) h9)
  refine lv_iload_n E.1 E.2.1 dX2_snowIn_24 rfl (lv_at hl 1 rfl) ?_
  exact W.iret (v := 0) E.1 E.2.1 hr (fun t ht _ => ⟨rfl, ht⟩) (fun q hq => by cases hq) dX2_snowIn_25
set_option maxHeartbeats 4000000 in
set_option maxRecDepth 100000 in
/-- count of a fresh object -/
theorem z_X2_count (l : Launch) (D : va_G) (cI cB : ClassId) (ad : Nat → Nat) (p0 : Int32) : Met l yX2_count wsX2_count ({ frames := 1, cells := 0, slots := 0, locals := 23 }) (GPc D cI cB (wX cI ad z0 zz) [.ref (ad 0), .int p0]) (QcRead (if 0 ≤ p0 ∧ p0 ≤ 9 then 0 else (-102))) 0 0 (fun _ => False) := by
  refine Met.ofW (cc := cX2_count) (maxL := 2) (ret := (some .int)) (by decide) rfl ?_
  intro p e s m args below meth c s₁ B hml hv
  obtain ⟨rfl, hP, hK⟩ := hv
  have hts := atoms_spec (ws := wsX2_count) B.pre
  have E : CallFix p m c cX2_count 2 s _ wsX2_count RX2 := ⟨B.exec, B.bytes, hml, findClass_of_methodNamed B.named, hts⟩
  have hr := B.returns
  have hlocks := B.notSynchronized
  have in_0 : ∀ w ∈ wsX00, w ∈ wsX2_count := fun _ h => List.mem_cons_of_mem _ (List.mem_append_right _ h)
  have in_1 : ∀ w ∈ wsX10, w ∈ wsX2_count := fun _ h => List.mem_cons_of_mem _ (List.mem_append_left _ (List.mem_append_right _ h))
  have in_2 : ∀ w ∈ wsX20, w ∈ wsX2_count := fun _ h => List.mem_cons_of_mem _ (List.mem_append_left _ (List.mem_append_left _ (List.mem_append_right _ h)))
  have w_0 : (Cond.fieldLink RX2 39 "SnowTerm" "sites" "I").before _ s = true := hts _ (by decide +kernel)
  have w_1 : (Cond.fieldLink RX2 26 "SnowTerm" "now" "LSnowTerm$Term;").before _ s = true := hts _ (by decide +kernel)
  have w_2 : (Cond.fieldLink RX2 121 "SnowTerm$Term" "sun" "I").before _ s = true := hts _ (by decide +kernel)
  have w_3 : (Cond.fieldLink RX2 194 "SnowTerm$Term" "day" "I").before _ s = true := hts _ (by decide +kernel)
  have w_4 : (Cond.fieldLink RX2 92 "SnowTerm$Term" "snow" "[I").before _ s = true := hts _ (by decide +kernel)
  have w_5 : (Cond.fieldLink RX2 200 "SnowTerm$Term" "praise" "I").before _ s = true := hts _ (by decide +kernel)
  have w_6 : (Cond.fieldLink RX2 115 "SnowTerm$Term" "cost" "I").before _ s = true := hts _ (by decide +kernel)
  have w_7 : (Cond.fieldLink RX2 161 "SnowTerm$Term" "foundCount" "I").before _ s = true := hts _ (by decide +kernel)
  have w_8 : (Cond.fieldLink RX2 10 "SnowTerm" "page" "LSnowTerm$Page;").before _ s = true := hts _ (by decide +kernel)
  have w_9 : (Cond.fieldLink RX2 58 "SnowTerm$Page" "size" "I").before _ s = true := hts _ (by decide +kernel)
  have w_10 : (Cond.fieldLink RX2 43 "SnowTerm" "citiesRead" "I").before _ s = true := hts _ (by decide +kernel)
  have hl := lv_entry ([.ref (ad 0), .int p0]) (n := 2) (Nat.le_of_ble_eq_true rfl)
  rw [lg_entry_eq]
  generalize (lg_sl ([.ref (ad 0), .int p0]) ++ List.replicate (2 - (lg_sl ([.ref (ad 0), .int p0])).length) Slot.unset).toArray = ls at hl ⊢
  have hl : lv_has ls 2 [(0, .ref (ad 0)), (1, .int p0)] := hl
  refine lv_iload_n E.1 E.2.1 dX2_count_0 rfl (lv_at hl 1 rfl) ?_
  by_cases hc : 0 ≤ p0 ∧ p0 ≤ 9
  · rw [if_pos hc]
    rcases sw_in9 hc with rfl | rfl | rfl | rfl | rfl | rfl | rfl | rfl | rfl | rfl
    · 
      refine lv_tableIn (x := 0) (off := 55) (tgt := 56) E.1 E.2.1 dX2_count_1 (by decide) (by decide) (by decide) (by decide) ?_
      refine lv_aload_n E.1 E.2.1 dX2_count_56 rfl (lv_at hl 0 rfl) ?_
      refine xg_0_7 E hK hP in_2 w_0 dX2_count_57 ?_
      exact W.iret (v := 0) E.1 E.2.1 hr (fun t ht _ => ⟨rfl, ht⟩) (fun q hq => by cases hq) dX2_count_60
    · 
      refine lv_tableIn (x := 1) (off := 60) (tgt := 61) E.1 E.2.1 dX2_count_1 (by decide) (by decide) (by decide) (by decide) ?_
      refine lv_aload_n E.1 E.2.1 dX2_count_61 rfl (lv_at hl 0 rfl) ?_
      refine xg_0_3 E hK hP in_2 w_1 dX2_count_62 ?_
      refine xg_4_1 E hK hP in_1 w_2 dX2_count_65 ?_
      exact W.iret (v := 0) E.1 E.2.1 hr (fun t ht _ => ⟨rfl, ht⟩) (fun q hq => by cases hq) dX2_count_68
    · 
      refine lv_tableIn (x := 2) (off := 68) (tgt := 69) E.1 E.2.1 dX2_count_1 (by decide) (by decide) (by decide) (by decide) ?_
      refine lv_aload_n E.1 E.2.1 dX2_count_69 rfl (lv_at hl 0 rfl) ?_
      refine xg_0_3 E hK hP in_2 w_1 dX2_count_70 ?_
      refine xg_4_0 E hK hP in_1 w_3 dX2_count_73 ?_
      exact W.iret (v := 0) E.1 E.2.1 hr (fun t ht _ => ⟨rfl, ht⟩) (fun q hq => by cases hq) dX2_count_76
    · 
      refine lv_tableIn (x := 3) (off := 76) (tgt := 77) E.1 E.2.1 dX2_count_1 (by decide) (by decide) (by decide) (by decide) ?_
      refine lv_aload_n E.1 E.2.1 dX2_count_77 rfl (lv_at hl 0 rfl) ?_
      refine lv_aload_n E.1 E.2.1 dX2_count_78 rfl (lv_at hl 0 rfl) ?_
      refine xg_0_3 E hK hP in_2 w_1 dX2_count_79 ?_
      refine xg_4_4 E hK hP in_1 w_4 dX2_count_82 ?_
      refine g_VR (As := [.ref (ad 9)]) (rest := []) E hK hP (z_X2_snowIn l D cI cB ad) (cwV 1 E.2.2.2.2 gX2_count_X2_snowIn rfl rfl rfl (by decide +kernel) ⟨Nat.le_of_ble_eq_true rfl, Nat.le_of_ble_eq_true rfl⟩) (rx hK hP) rfl hl.1 rfl (by decide) dX2_count_85 ⟨Nat.zero_le _, Nat.zero_le _⟩ ?_
      exact W.iret (v := 0) E.1 E.2.1 hr (fun t ht _ => ⟨rfl, ht⟩) (fun q hq => by cases hq) dX2_count_88
    · 
      refine lv_tableIn (x := 4) (off := 88) (tgt := 89) E.1 E.2.1 dX2_count_1 (by decide) (by decide) (by decide) (by decide) ?_
      refine lv_aload_n E.1 E.2.1 dX2_count_89 rfl (lv_at hl 0 rfl) ?_
      refine lv_aload_n E.1 E.2.1 dX2_count_90 rfl (lv_at hl 0 rfl) ?_
      refine xg_0_3 E hK hP in_2 w_1 dX2_count_91 ?_
      refine xg_4_4 E hK hP in_1 w_4 dX2_count_94 ?_
      refine g_VR (As := [.ref (ad 9)]) (rest := []) E hK hP (z_X2_keptIn l D cI cB ad) (cwV 1 E.2.2.2.2 gX2_count_X2_keptIn rfl rfl rfl (by decide +kernel) ⟨Nat.le_of_ble_eq_true rfl, Nat.le_of_ble_eq_true rfl⟩) (rx hK hP) rfl hl.1 rfl (by decide) dX2_count_97 ⟨Nat.zero_le _, Nat.zero_le _⟩ ?_
      exact W.iret (v := 0) E.1 E.2.1 hr (fun t ht _ => ⟨rfl, ht⟩) (fun q hq => by cases hq) dX2_count_100
    · 
      refine lv_tableIn (x := 5) (off := 100) (tgt := 101) E.1 E.2.1 dX2_count_1 (by decide) (by decide) (by decide) (by decide) ?_
      refine lv_aload_n E.1 E.2.1 dX2_count_101 rfl (lv_at hl 0 rfl) ?_
      refine xg_0_3 E hK hP in_2 w_1 dX2_count_102 ?_
      refine xg_4_3 E hK hP in_1 w_5 dX2_count_105 ?_
      exact W.iret (v := 0) E.1 E.2.1 hr (fun t ht _ => ⟨rfl, ht⟩) (fun q hq => by cases hq) dX2_count_108
    · 
      refine lv_tableIn (x := 6) (off := 108) (tgt := 109) E.1 E.2.1 dX2_count_1 (by decide) (by decide) (by decide) (by decide) ?_
      refine lv_aload_n E.1 E.2.1 dX2_count_109 rfl (lv_at hl 0 rfl) ?_
      refine xg_0_3 E hK hP in_2 w_1 dX2_count_110 ?_
      refine xg_4_2 E hK hP in_1 w_6 dX2_count_113 ?_
      exact W.iret (v := 0) E.1 E.2.1 hr (fun t ht _ => ⟨rfl, ht⟩) (fun q hq => by cases hq) dX2_count_116
    · 
      refine lv_tableIn (x := 7) (off := 116) (tgt := 117) E.1 E.2.1 dX2_count_1 (by decide) (by decide) (by decide) (by decide) ?_
      refine lv_aload_n E.1 E.2.1 dX2_count_117 rfl (lv_at hl 0 rfl) ?_
      refine xg_0_3 E hK hP in_2 w_1 dX2_count_118 ?_
      refine xg_4_12 E hK hP in_1 w_7 dX2_count_121 ?_
      exact W.iret (v := 0) E.1 E.2.1 hr (fun t ht _ => ⟨rfl, ht⟩) (fun q hq => by cases hq) dX2_count_124
    · 
      refine lv_tableIn (x := 8) (off := 124) (tgt := 125) E.1 E.2.1 dX2_count_1 (by decide) (by decide) (by decide) (by decide) ?_
      refine lv_aload_n E.1 E.2.1 dX2_count_125 rfl (lv_at hl 0 rfl) ?_
      refine xg_0_0 E hK hP in_2 w_8 dX2_count_126 ?_
      refine xg_1_1 E hK hP in_0 w_9 dX2_count_129 ?_
      exact W.iret (v := 0) E.1 E.2.1 hr (fun t ht _ => ⟨rfl, ht⟩) (fun q hq => by cases hq) dX2_count_132
    · 
      refine lv_tableIn (x := 9) (off := 132) (tgt := 133) E.1 E.2.1 dX2_count_1 (by decide) (by decide) (by decide) (by decide) ?_
      refine lv_aload_n E.1 E.2.1 dX2_count_133 rfl (lv_at hl 0 rfl) ?_
      refine xg_0_8 E hK hP in_2 w_10 dX2_count_134 ?_
      exact W.iret (v := 0) E.1 E.2.1 hr (fun t ht _ => ⟨rfl, ht⟩) (fun q hq => by cases hq) dX2_count_137
  · rw [if_neg hc]
    refine lv_tableOut (x := p0) (tgt := 138) E.1 E.2.1 dX2_count_1 (sw_out9 hc) (by decide) ?_
    refine lv_bipush (v := (-102)) E.1 E.2.1 dX2_count_138 (by decide) ?_
    exact W.iret (v := (-102)) E.1 E.2.1 hr (fun t ht _ => ⟨rfl, ht⟩) (fun q hq => by cases hq) dX2_count_140
set_option maxHeartbeats 4000000 in
set_option maxRecDepth 100000 in
/-- digest of a fresh object -/
theorem z_X2_digest (l : Launch) (D : va_G) (cI cB : ClassId) (ad : Nat → Nat)  : Met l yX2_digest wsX2_digest ({ frames := 2, cells := 0, slots := 0, locals := 44 }) (GPc D cI cB (wX cI ad z0 zz) [.ref (ad 0)]) (QcL (869625612486629861)) 0 0 (fun _ => False) := by
  refine Met.ofW (cc := cX2_digest) (maxL := 5) (ret := (some .long)) (by decide) rfl ?_
  intro p e s m args below meth c s₁ B hml hv
  obtain ⟨rfl, hP, hK⟩ := hv
  have hts := atoms_spec (ws := wsX2_digest) B.pre
  have E : CallFix p m c cX2_digest 5 s _ wsX2_digest RX2 := ⟨B.exec, B.bytes, hml, findClass_of_methodNamed B.named, hts⟩
  have hr := B.returns
  have hlocks := B.notSynchronized
  have in_0 : ∀ w ∈ wsX00, w ∈ wsX2_digest := fun _ h => List.mem_cons_of_mem _ (List.mem_append_left _ (List.mem_append_right _ h))
  have in_2 : ∀ w ∈ wsX20, w ∈ wsX2_digest := fun _ h => List.mem_cons_of_mem _ (List.mem_append_left _ (List.mem_append_left _ (List.mem_append_right _ h)))
  have w_0 : (Cond.constantLong RX2 203 1061).before _ s = true := hts _ (by decide +kernel)
  have w_1 : (Cond.fieldLink RX2 39 "SnowTerm" "sites" "I").before _ s = true := hts _ (by decide +kernel)
  have w_2 : (Cond.fieldLink RX2 10 "SnowTerm" "page" "LSnowTerm$Page;").before _ s = true := hts _ (by decide +kernel)
  have w_3 : (Cond.fieldLink RX2 58 "SnowTerm$Page" "size" "I").before _ s = true := hts _ (by decide +kernel)
  have hl := lv_entry ([.ref (ad 0)]) (n := 5) (Nat.le_of_ble_eq_true rfl)
  rw [lg_entry_eq]
  generalize (lg_sl ([.ref (ad 0)]) ++ List.replicate (5 - (lg_sl ([.ref (ad 0)])).length) Slot.unset).toArray = ls at hl ⊢
  have hl : lv_has ls 5 [(0, .ref (ad 0))] := hl
  refine lv_ldc2 (v := 1061) E.1 E.2.1 E.2.2.2.1 w_0 dX2_digest_0 ?_
  refine lv_lstore_n (lv' := [(1, .long 1061), (0, .ref (ad 0))]) E.1 E.2.1 dX2_digest_3 rfl hl (by decide) rfl (fun ls hl => ?_)
  refine lv_iconst (v := 0) E.1 E.2.1 dX2_digest_4 (by decide) ?_
  refine lv_istore_n (lv' := [(3, .int 0), (1, .long 1061), (0, .ref (ad 0))]) E.1 E.2.1 dX2_digest_5 rfl hl (by decide) rfl (fun ls hl => ?_)
  refine lv_iload_n E.1 E.2.1 dX2_digest_6 rfl (lv_at hl 0 rfl) ?_
  refine lv_aload_n E.1 E.2.1 dX2_digest_7 rfl (lv_at hl 2 rfl) ?_
  refine xg_0_7 E hK hP in_2 w_1 dX2_digest_8 ?_
  refine lv_icmp_ge (x := 0) (y := 0) (tgt := 81) E.1 E.2.1 dX2_digest_11 (by decide) (fun _ => ?_) (fun h9 => absurd (by decide) h9)
  refine lv_aload_n E.1 E.2.1 dX2_digest_81 rfl (lv_at hl 2 rfl) ?_
  refine xg_0_7 E hK hP in_2 w_1 dX2_digest_82 ?_
  refine lv_if_le (x := 0) (tgt := 152) E.1 E.2.1 dX2_digest_85 (by decide) (fun _ => ?_) (fun h9 => absurd (by decide) h9)
  refine lv_iconst (v := 0) E.1 E.2.1 dX2_digest_152 (by decide) ?_
  refine lv_istore_n (lv' := [(3, .int 0), (1, .long 1061), (0, .ref (ad 0))]) E.1 E.2.1 dX2_digest_153 rfl hl (by decide) rfl (fun ls hl => ?_)
  refine lv_iload_n E.1 E.2.1 dX2_digest_154 rfl (lv_at hl 0 rfl) ?_
  refine lv_aload_n E.1 E.2.1 dX2_digest_155 rfl (lv_at hl 2 rfl) ?_
  refine xg_0_0 E hK hP in_2 w_2 dX2_digest_156 ?_
  refine xg_1_1 E hK hP in_0 w_3 dX2_digest_159 ?_
  refine lv_icmp_ge (x := 0) (y := 0) (tgt := 184) E.1 E.2.1 dX2_digest_162 (by decide) (fun _ => ?_) (fun h9 => absurd (by decide) h9)
  refine lv_iconst (v := 0) E.1 E.2.1 dX2_digest_184 (by decide) ?_
  refine lv_istore_n (lv' := [(3, .int 0), (1, .long 1061), (0, .ref (ad 0))]) E.1 E.2.1 dX2_digest_185 rfl hl (by decide) rfl (fun ls hl => ?_)
  refine lv_iload_n E.1 E.2.1 dX2_digest_186 rfl (lv_at hl 0 rfl) ?_
  refine lv_bipush (v := 9) E.1 E.2.1 dX2_digest_187 (by decide) ?_
  refine lv_icmp_gt (x := 0) (y := 9) (tgt := 208) E.1 E.2.1 dX2_digest_189 (by decide) (fun h9 => absurd h9 (by decide)) (fun _ => ?_)
  refine lv_lload_n E.1 E.2.1 dX2_digest_192 rfl (lv_at hl 1 rfl) ?_
  refine lv_aload_n E.1 E.2.1 dX2_digest_193 rfl (lv_at hl 2 rfl) ?_
  refine lv_iload_n E.1 E.2.1 dX2_digest_194 rfl (lv_at hl 0 rfl) ?_
  refine g_VR (As := [.int 0]) (rest := [.long 1061]) E hK hP (z_X2_count l D cI cB ad 0) (cwV 1 E.2.2.2.2 gX2_digest_X2_count rfl rfl rfl (by decide +kernel) ⟨Nat.le_of_ble_eq_true rfl, Nat.le_of_ble_eq_true rfl⟩) (rx hK hP) rfl hl.1 rfl (Nat.le_of_ble_eq_true rfl) dX2_digest_195 ⟨Nat.zero_le _, Nat.zero_le _⟩ ?_
  refine lv_topi (fun y_1 ey_1 => ?_)
  obtain rfl : y_1 = 0 := ey_1.trans (by decide)
  refine g_SL (As := [.long 1061, .int 0]) (rest := []) E hK (c_mixed l D cI cB 1061 0) (va_cwS 2 E.2.2.2.2 gX2_digest_X2_mixed rfl rfl rfl (by decide +kernel) ⟨Nat.le_of_ble_eq_true rfl, Nat.le_of_ble_eq_true rfl⟩) rfl hl.1 rfl (by decide) dX2_digest_198 ⟨Nat.zero_le _, Nat.zero_le _⟩ ?_
  refine lv_topl (fun y_2 ey_2 => ?_)
  obtain rfl : y_2 = 32891 := ey_2.trans (by decide)
  refine lv_lstore_n (lv' := [(1, .long 32891), (3, .int 0), (0, .ref (ad 0))]) E.1 E.2.1 dX2_digest_201 rfl hl (by decide) rfl (fun ls hl => ?_)
  refine lv_iinc (v := 1) (k := 1) (lv' := [(3, .int 1), (1, .long 32891), (0, .ref (ad 0))]) E.1 E.2.1 dX2_digest_202 hl rfl (by decide) (by decide) rfl (fun ls hl => ?_)
  refine lv_goto (tgt := 186) E.1 E.2.1 dX2_digest_205 (by decide) ?_
  refine lv_iload_n E.1 E.2.1 dX2_digest_186 rfl (lv_at hl 0 rfl) ?_
  refine lv_bipush (v := 9) E.1 E.2.1 dX2_digest_187 (by decide) ?_
  refine lv_icmp_gt (x := 1) (y := 9) (tgt := 208) E.1 E.2.1 dX2_digest_189 (by decide) (fun h9 => absurd h9 (by decide)) (fun _ => ?_)
  refine lv_lload_n E.1 E.2.1 dX2_digest_192 rfl (lv_at hl 1 rfl) ?_
  refine lv_aload_n E.1 E.2.1 dX2_digest_193 rfl (lv_at hl 2 rfl) ?_
  refine lv_iload_n E.1 E.2.1 dX2_digest_194 rfl (lv_at hl 0 rfl) ?_
  refine g_VR (As := [.int 1]) (rest := [.long 32891]) E hK hP (z_X2_count l D cI cB ad 1) (cwV 1 E.2.2.2.2 gX2_digest_X2_count rfl rfl rfl (by decide +kernel) ⟨Nat.le_of_ble_eq_true rfl, Nat.le_of_ble_eq_true rfl⟩) (rx hK hP) rfl hl.1 rfl (Nat.le_of_ble_eq_true rfl) dX2_digest_195 ⟨Nat.zero_le _, Nat.zero_le _⟩ ?_
  refine lv_topi (fun y_3 ey_3 => ?_)
  obtain rfl : y_3 = 0 := ey_3.trans (by decide)
  refine g_SL (As := [.long 32891, .int 0]) (rest := []) E hK (c_mixed l D cI cB 32891 0) (va_cwS 2 E.2.2.2.2 gX2_digest_X2_mixed rfl rfl rfl (by decide +kernel) ⟨Nat.le_of_ble_eq_true rfl, Nat.le_of_ble_eq_true rfl⟩) rfl hl.1 rfl (by decide) dX2_digest_198 ⟨Nat.zero_le _, Nat.zero_le _⟩ ?_
  refine lv_topl (fun y_4 ey_4 => ?_)
  obtain rfl : y_4 = 1019621 := ey_4.trans (by decide)
  refine lv_lstore_n (lv' := [(1, .long 1019621), (3, .int 1), (0, .ref (ad 0))]) E.1 E.2.1 dX2_digest_201 rfl hl (by decide) rfl (fun ls hl => ?_)
  refine lv_iinc (v := 2) (k := 1) (lv' := [(3, .int 2), (1, .long 1019621), (0, .ref (ad 0))]) E.1 E.2.1 dX2_digest_202 hl rfl (by decide) (by decide) rfl (fun ls hl => ?_)
  refine lv_goto (tgt := 186) E.1 E.2.1 dX2_digest_205 (by decide) ?_
  refine lv_iload_n E.1 E.2.1 dX2_digest_186 rfl (lv_at hl 0 rfl) ?_
  refine lv_bipush (v := 9) E.1 E.2.1 dX2_digest_187 (by decide) ?_
  refine lv_icmp_gt (x := 2) (y := 9) (tgt := 208) E.1 E.2.1 dX2_digest_189 (by decide) (fun h9 => absurd h9 (by decide)) (fun _ => ?_)
  refine lv_lload_n E.1 E.2.1 dX2_digest_192 rfl (lv_at hl 1 rfl) ?_
  refine lv_aload_n E.1 E.2.1 dX2_digest_193 rfl (lv_at hl 2 rfl) ?_
  refine lv_iload_n E.1 E.2.1 dX2_digest_194 rfl (lv_at hl 0 rfl) ?_
  refine g_VR (As := [.int 2]) (rest := [.long 1019621]) E hK hP (z_X2_count l D cI cB ad 2) (cwV 1 E.2.2.2.2 gX2_digest_X2_count rfl rfl rfl (by decide +kernel) ⟨Nat.le_of_ble_eq_true rfl, Nat.le_of_ble_eq_true rfl⟩) (rx hK hP) rfl hl.1 rfl (Nat.le_of_ble_eq_true rfl) dX2_digest_195 ⟨Nat.zero_le _, Nat.zero_le _⟩ ?_
  refine lv_topi (fun y_5 ey_5 => ?_)
  obtain rfl : y_5 = 0 := ey_5.trans (by decide)
  refine g_SL (As := [.long 1019621, .int 0]) (rest := []) E hK (c_mixed l D cI cB 1019621 0) (va_cwS 2 E.2.2.2.2 gX2_digest_X2_mixed rfl rfl rfl (by decide +kernel) ⟨Nat.le_of_ble_eq_true rfl, Nat.le_of_ble_eq_true rfl⟩) rfl hl.1 rfl (by decide) dX2_digest_198 ⟨Nat.zero_le _, Nat.zero_le _⟩ ?_
  refine lv_topl (fun y_6 ey_6 => ?_)
  obtain rfl : y_6 = 31608251 := ey_6.trans (by decide)
  refine lv_lstore_n (lv' := [(1, .long 31608251), (3, .int 2), (0, .ref (ad 0))]) E.1 E.2.1 dX2_digest_201 rfl hl (by decide) rfl (fun ls hl => ?_)
  refine lv_iinc (v := 3) (k := 1) (lv' := [(3, .int 3), (1, .long 31608251), (0, .ref (ad 0))]) E.1 E.2.1 dX2_digest_202 hl rfl (by decide) (by decide) rfl (fun ls hl => ?_)
  refine lv_goto (tgt := 186) E.1 E.2.1 dX2_digest_205 (by decide) ?_
  refine lv_iload_n E.1 E.2.1 dX2_digest_186 rfl (lv_at hl 0 rfl) ?_
  refine lv_bipush (v := 9) E.1 E.2.1 dX2_digest_187 (by decide) ?_
  refine lv_icmp_gt (x := 3) (y := 9) (tgt := 208) E.1 E.2.1 dX2_digest_189 (by decide) (fun h9 => absurd h9 (by decide)) (fun _ => ?_)
  refine lv_lload_n E.1 E.2.1 dX2_digest_192 rfl (lv_at hl 1 rfl) ?_
  refine lv_aload_n E.1 E.2.1 dX2_digest_193 rfl (lv_at hl 2 rfl) ?_
  refine lv_iload_n E.1 E.2.1 dX2_digest_194 rfl (lv_at hl 0 rfl) ?_
  refine g_VR (As := [.int 3]) (rest := [.long 31608251]) E hK hP (z_X2_count l D cI cB ad 3) (cwV 1 E.2.2.2.2 gX2_digest_X2_count rfl rfl rfl (by decide +kernel) ⟨Nat.le_of_ble_eq_true rfl, Nat.le_of_ble_eq_true rfl⟩) (rx hK hP) rfl hl.1 rfl (Nat.le_of_ble_eq_true rfl) dX2_digest_195 ⟨Nat.zero_le _, Nat.zero_le _⟩ ?_
  refine lv_topi (fun y_7 ey_7 => ?_)
  obtain rfl : y_7 = 0 := ey_7.trans (by decide)
  refine g_SL (As := [.long 31608251, .int 0]) (rest := []) E hK (c_mixed l D cI cB 31608251 0) (va_cwS 2 E.2.2.2.2 gX2_digest_X2_mixed rfl rfl rfl (by decide +kernel) ⟨Nat.le_of_ble_eq_true rfl, Nat.le_of_ble_eq_true rfl⟩) rfl hl.1 rfl (by decide) dX2_digest_198 ⟨Nat.zero_le _, Nat.zero_le _⟩ ?_
  refine lv_topl (fun y_8 ey_8 => ?_)
  obtain rfl : y_8 = 979855781 := ey_8.trans (by decide)
  refine lv_lstore_n (lv' := [(1, .long 979855781), (3, .int 3), (0, .ref (ad 0))]) E.1 E.2.1 dX2_digest_201 rfl hl (by decide) rfl (fun ls hl => ?_)
  refine lv_iinc (v := 4) (k := 1) (lv' := [(3, .int 4), (1, .long 979855781), (0, .ref (ad 0))]) E.1 E.2.1 dX2_digest_202 hl rfl (by decide) (by decide) rfl (fun ls hl => ?_)
  refine lv_goto (tgt := 186) E.1 E.2.1 dX2_digest_205 (by decide) ?_
  refine lv_iload_n E.1 E.2.1 dX2_digest_186 rfl (lv_at hl 0 rfl) ?_
  refine lv_bipush (v := 9) E.1 E.2.1 dX2_digest_187 (by decide) ?_
  refine lv_icmp_gt (x := 4) (y := 9) (tgt := 208) E.1 E.2.1 dX2_digest_189 (by decide) (fun h9 => absurd h9 (by decide)) (fun _ => ?_)
  refine lv_lload_n E.1 E.2.1 dX2_digest_192 rfl (lv_at hl 1 rfl) ?_
  refine lv_aload_n E.1 E.2.1 dX2_digest_193 rfl (lv_at hl 2 rfl) ?_
  refine lv_iload_n E.1 E.2.1 dX2_digest_194 rfl (lv_at hl 0 rfl) ?_
  refine g_VR (As := [.int 4]) (rest := [.long 979855781]) E hK hP (z_X2_count l D cI cB ad 4) (cwV 1 E.2.2.2.2 gX2_digest_X2_count rfl rfl rfl (by decide +kernel) ⟨Nat.le_of_ble_eq_true rfl, Nat.le_of_ble_eq_true rfl⟩) (rx hK hP) rfl hl.1 rfl (Nat.le_of_ble_eq_true rfl) dX2_digest_195 ⟨Nat.zero_le _, Nat.zero_le _⟩ ?_
  refine lv_topi (fun y_9 ey_9 => ?_)
  obtain rfl : y_9 = 0 := ey_9.trans (by decide)
  refine g_SL (As := [.long 979855781, .int 0]) (rest := []) E hK (c_mixed l D cI cB 979855781 0) (va_cwS 2 E.2.2.2.2 gX2_digest_X2_mixed rfl rfl rfl (by decide +kernel) ⟨Nat.le_of_ble_eq_true rfl, Nat.le_of_ble_eq_true rfl⟩) rfl hl.1 rfl (by decide) dX2_digest_198 ⟨Nat.zero_le _, Nat.zero_le _⟩ ?_
  refine lv_topl (fun y_10 ey_10 => ?_)
  obtain rfl : y_10 = 30375529211 := ey_10.trans (by decide)
  refine lv_lstore_n (lv' := [(1, .long 30375529211), (3, .int 4), (0, .ref (ad 0))]) E.1 E.2.1 dX2_digest_201 rfl hl (by decide) rfl (fun ls hl => ?_)
  refine lv_iinc (v := 5) (k := 1) (lv' := [(3, .int 5), (1, .long 30375529211), (0, .ref (ad 0))]) E.1 E.2.1 dX2_digest_202 hl rfl (by decide) (by decide) rfl (fun ls hl => ?_)
  refine lv_goto (tgt := 186) E.1 E.2.1 dX2_digest_205 (by decide) ?_
  refine lv_iload_n E.1 E.2.1 dX2_digest_186 rfl (lv_at hl 0 rfl) ?_
  refine lv_bipush (v := 9) E.1 E.2.1 dX2_digest_187 (by decide) ?_
  refine lv_icmp_gt (x := 5) (y := 9) (tgt := 208) E.1 E.2.1 dX2_digest_189 (by decide) (fun h9 => absurd h9 (by decide)) (fun _ => ?_)
  refine lv_lload_n E.1 E.2.1 dX2_digest_192 rfl (lv_at hl 1 rfl) ?_
  refine lv_aload_n E.1 E.2.1 dX2_digest_193 rfl (lv_at hl 2 rfl) ?_
  refine lv_iload_n E.1 E.2.1 dX2_digest_194 rfl (lv_at hl 0 rfl) ?_
  refine g_VR (As := [.int 5]) (rest := [.long 30375529211]) E hK hP (z_X2_count l D cI cB ad 5) (cwV 1 E.2.2.2.2 gX2_digest_X2_count rfl rfl rfl (by decide +kernel) ⟨Nat.le_of_ble_eq_true rfl, Nat.le_of_ble_eq_true rfl⟩) (rx hK hP) rfl hl.1 rfl (Nat.le_of_ble_eq_true rfl) dX2_digest_195 ⟨Nat.zero_le _, Nat.zero_le _⟩ ?_
  refine lv_topi (fun y_11 ey_11 => ?_)
  obtain rfl : y_11 = 0 := ey_11.trans (by decide)
  refine g_SL (As := [.long 30375529211, .int 0]) (rest := []) E hK (c_mixed l D cI cB 30375529211 0) (va_cwS 2 E.2.2.2.2 gX2_digest_X2_mixed rfl rfl rfl (by decide +kernel) ⟨Nat.le_of_ble_eq_true rfl, Nat.le_of_ble_eq_true rfl⟩) rfl hl.1 rfl (by decide) dX2_digest_198 ⟨Nat.zero_le _, Nat.zero_le _⟩ ?_
  refine lv_topl (fun y_12 ey_12 => ?_)
  obtain rfl : y_12 = 941641405541 := ey_12.trans (by decide)
  refine lv_lstore_n (lv' := [(1, .long 941641405541), (3, .int 5), (0, .ref (ad 0))]) E.1 E.2.1 dX2_digest_201 rfl hl (by decide) rfl (fun ls hl => ?_)
  refine lv_iinc (v := 6) (k := 1) (lv' := [(3, .int 6), (1, .long 941641405541), (0, .ref (ad 0))]) E.1 E.2.1 dX2_digest_202 hl rfl (by decide) (by decide) rfl (fun ls hl => ?_)
  refine lv_goto (tgt := 186) E.1 E.2.1 dX2_digest_205 (by decide) ?_
  refine lv_iload_n E.1 E.2.1 dX2_digest_186 rfl (lv_at hl 0 rfl) ?_
  refine lv_bipush (v := 9) E.1 E.2.1 dX2_digest_187 (by decide) ?_
  refine lv_icmp_gt (x := 6) (y := 9) (tgt := 208) E.1 E.2.1 dX2_digest_189 (by decide) (fun h9 => absurd h9 (by decide)) (fun _ => ?_)
  refine lv_lload_n E.1 E.2.1 dX2_digest_192 rfl (lv_at hl 1 rfl) ?_
  refine lv_aload_n E.1 E.2.1 dX2_digest_193 rfl (lv_at hl 2 rfl) ?_
  refine lv_iload_n E.1 E.2.1 dX2_digest_194 rfl (lv_at hl 0 rfl) ?_
  refine g_VR (As := [.int 6]) (rest := [.long 941641405541]) E hK hP (z_X2_count l D cI cB ad 6) (cwV 1 E.2.2.2.2 gX2_digest_X2_count rfl rfl rfl (by decide +kernel) ⟨Nat.le_of_ble_eq_true rfl, Nat.le_of_ble_eq_true rfl⟩) (rx hK hP) rfl hl.1 rfl (Nat.le_of_ble_eq_true rfl) dX2_digest_195 ⟨Nat.zero_le _, Nat.zero_le _⟩ ?_
  refine lv_topi (fun y_13 ey_13 => ?_)
  obtain rfl : y_13 = 0 := ey_13.trans (by decide)
  refine g_SL (As := [.long 941641405541, .int 0]) (rest := []) E hK (c_mixed l D cI cB 941641405541 0) (va_cwS 2 E.2.2.2.2 gX2_digest_X2_mixed rfl rfl rfl (by decide +kernel) ⟨Nat.le_of_ble_eq_true rfl, Nat.le_of_ble_eq_true rfl⟩) rfl hl.1 rfl (by decide) dX2_digest_198 ⟨Nat.zero_le _, Nat.zero_le _⟩ ?_
  refine lv_topl (fun y_14 ey_14 => ?_)
  obtain rfl : y_14 = 29190883571771 := ey_14.trans (by decide)
  refine lv_lstore_n (lv' := [(1, .long 29190883571771), (3, .int 6), (0, .ref (ad 0))]) E.1 E.2.1 dX2_digest_201 rfl hl (by decide) rfl (fun ls hl => ?_)
  refine lv_iinc (v := 7) (k := 1) (lv' := [(3, .int 7), (1, .long 29190883571771), (0, .ref (ad 0))]) E.1 E.2.1 dX2_digest_202 hl rfl (by decide) (by decide) rfl (fun ls hl => ?_)
  refine lv_goto (tgt := 186) E.1 E.2.1 dX2_digest_205 (by decide) ?_
  refine lv_iload_n E.1 E.2.1 dX2_digest_186 rfl (lv_at hl 0 rfl) ?_
  refine lv_bipush (v := 9) E.1 E.2.1 dX2_digest_187 (by decide) ?_
  refine lv_icmp_gt (x := 7) (y := 9) (tgt := 208) E.1 E.2.1 dX2_digest_189 (by decide) (fun h9 => absurd h9 (by decide)) (fun _ => ?_)
  refine lv_lload_n E.1 E.2.1 dX2_digest_192 rfl (lv_at hl 1 rfl) ?_
  refine lv_aload_n E.1 E.2.1 dX2_digest_193 rfl (lv_at hl 2 rfl) ?_
  refine lv_iload_n E.1 E.2.1 dX2_digest_194 rfl (lv_at hl 0 rfl) ?_
  refine g_VR (As := [.int 7]) (rest := [.long 29190883571771]) E hK hP (z_X2_count l D cI cB ad 7) (cwV 1 E.2.2.2.2 gX2_digest_X2_count rfl rfl rfl (by decide +kernel) ⟨Nat.le_of_ble_eq_true rfl, Nat.le_of_ble_eq_true rfl⟩) (rx hK hP) rfl hl.1 rfl (Nat.le_of_ble_eq_true rfl) dX2_digest_195 ⟨Nat.zero_le _, Nat.zero_le _⟩ ?_
  refine lv_topi (fun y_15 ey_15 => ?_)
  obtain rfl : y_15 = 0 := ey_15.trans (by decide)
  refine g_SL (As := [.long 29190883571771, .int 0]) (rest := []) E hK (c_mixed l D cI cB 29190883571771 0) (va_cwS 2 E.2.2.2.2 gX2_digest_X2_mixed rfl rfl rfl (by decide +kernel) ⟨Nat.le_of_ble_eq_true rfl, Nat.le_of_ble_eq_true rfl⟩) rfl hl.1 rfl (by decide) dX2_digest_198 ⟨Nat.zero_le _, Nat.zero_le _⟩ ?_
  refine lv_topl (fun y_16 ey_16 => ?_)
  obtain rfl : y_16 = 904917390724901 := ey_16.trans (by decide)
  refine lv_lstore_n (lv' := [(1, .long 904917390724901), (3, .int 7), (0, .ref (ad 0))]) E.1 E.2.1 dX2_digest_201 rfl hl (by decide) rfl (fun ls hl => ?_)
  refine lv_iinc (v := 8) (k := 1) (lv' := [(3, .int 8), (1, .long 904917390724901), (0, .ref (ad 0))]) E.1 E.2.1 dX2_digest_202 hl rfl (by decide) (by decide) rfl (fun ls hl => ?_)
  refine lv_goto (tgt := 186) E.1 E.2.1 dX2_digest_205 (by decide) ?_
  refine lv_iload_n E.1 E.2.1 dX2_digest_186 rfl (lv_at hl 0 rfl) ?_
  refine lv_bipush (v := 9) E.1 E.2.1 dX2_digest_187 (by decide) ?_
  refine lv_icmp_gt (x := 8) (y := 9) (tgt := 208) E.1 E.2.1 dX2_digest_189 (by decide) (fun h9 => absurd h9 (by decide)) (fun _ => ?_)
  refine lv_lload_n E.1 E.2.1 dX2_digest_192 rfl (lv_at hl 1 rfl) ?_
  refine lv_aload_n E.1 E.2.1 dX2_digest_193 rfl (lv_at hl 2 rfl) ?_
  refine lv_iload_n E.1 E.2.1 dX2_digest_194 rfl (lv_at hl 0 rfl) ?_
  refine g_VR (As := [.int 8]) (rest := [.long 904917390724901]) E hK hP (z_X2_count l D cI cB ad 8) (cwV 1 E.2.2.2.2 gX2_digest_X2_count rfl rfl rfl (by decide +kernel) ⟨Nat.le_of_ble_eq_true rfl, Nat.le_of_ble_eq_true rfl⟩) (rx hK hP) rfl hl.1 rfl (Nat.le_of_ble_eq_true rfl) dX2_digest_195 ⟨Nat.zero_le _, Nat.zero_le _⟩ ?_
  refine lv_topi (fun y_17 ey_17 => ?_)
  obtain rfl : y_17 = 0 := ey_17.trans (by decide)
  refine g_SL (As := [.long 904917390724901, .int 0]) (rest := []) E hK (c_mixed l D cI cB 904917390724901 0) (va_cwS 2 E.2.2.2.2 gX2_digest_X2_mixed rfl rfl rfl (by decide +kernel) ⟨Nat.le_of_ble_eq_true rfl, Nat.le_of_ble_eq_true rfl⟩) rfl hl.1 rfl (by decide) dX2_digest_198 ⟨Nat.zero_le _, Nat.zero_le _⟩ ?_
  refine lv_topl (fun y_18 ey_18 => ?_)
  obtain rfl : y_18 = 28052439112471931 := ey_18.trans (by decide)
  refine lv_lstore_n (lv' := [(1, .long 28052439112471931), (3, .int 8), (0, .ref (ad 0))]) E.1 E.2.1 dX2_digest_201 rfl hl (by decide) rfl (fun ls hl => ?_)
  refine lv_iinc (v := 9) (k := 1) (lv' := [(3, .int 9), (1, .long 28052439112471931), (0, .ref (ad 0))]) E.1 E.2.1 dX2_digest_202 hl rfl (by decide) (by decide) rfl (fun ls hl => ?_)
  refine lv_goto (tgt := 186) E.1 E.2.1 dX2_digest_205 (by decide) ?_
  refine lv_iload_n E.1 E.2.1 dX2_digest_186 rfl (lv_at hl 0 rfl) ?_
  refine lv_bipush (v := 9) E.1 E.2.1 dX2_digest_187 (by decide) ?_
  refine lv_icmp_gt (x := 9) (y := 9) (tgt := 208) E.1 E.2.1 dX2_digest_189 (by decide) (fun h9 => absurd h9 (by decide)) (fun _ => ?_)
  refine lv_lload_n E.1 E.2.1 dX2_digest_192 rfl (lv_at hl 1 rfl) ?_
  refine lv_aload_n E.1 E.2.1 dX2_digest_193 rfl (lv_at hl 2 rfl) ?_
  refine lv_iload_n E.1 E.2.1 dX2_digest_194 rfl (lv_at hl 0 rfl) ?_
  refine g_VR (As := [.int 9]) (rest := [.long 28052439112471931]) E hK hP (z_X2_count l D cI cB ad 9) (cwV 1 E.2.2.2.2 gX2_digest_X2_count rfl rfl rfl (by decide +kernel) ⟨Nat.le_of_ble_eq_true rfl, Nat.le_of_ble_eq_true rfl⟩) (rx hK hP) rfl hl.1 rfl (Nat.le_of_ble_eq_true rfl) dX2_digest_195 ⟨Nat.zero_le _, Nat.zero_le _⟩ ?_
  refine lv_topi (fun y_19 ey_19 => ?_)
  obtain rfl : y_19 = 0 := ey_19.trans (by decide)
  refine g_SL (As := [.long 28052439112471931, .int 0]) (rest := []) E hK (c_mixed l D cI cB 28052439112471931 0) (va_cwS 2 E.2.2.2.2 gX2_digest_X2_mixed rfl rfl rfl (by decide +kernel) ⟨Nat.le_of_ble_eq_true rfl, Nat.le_of_ble_eq_true rfl⟩) rfl hl.1 rfl (by decide) dX2_digest_198 ⟨Nat.zero_le _, Nat.zero_le _⟩ ?_
  refine lv_topl (fun y_20 ey_20 => ?_)
  obtain rfl : y_20 = 869625612486629861 := ey_20.trans (by decide)
  refine lv_lstore_n (lv' := [(1, .long 869625612486629861), (3, .int 9), (0, .ref (ad 0))]) E.1 E.2.1 dX2_digest_201 rfl hl (by decide) rfl (fun ls hl => ?_)
  refine lv_iinc (v := 10) (k := 1) (lv' := [(3, .int 10), (1, .long 869625612486629861), (0, .ref (ad 0))]) E.1 E.2.1 dX2_digest_202 hl rfl (by decide) (by decide) rfl (fun ls hl => ?_)
  refine lv_goto (tgt := 186) E.1 E.2.1 dX2_digest_205 (by decide) ?_
  refine lv_iload_n E.1 E.2.1 dX2_digest_186 rfl (lv_at hl 0 rfl) ?_
  refine lv_bipush (v := 9) E.1 E.2.1 dX2_digest_187 (by decide) ?_
  refine lv_icmp_gt (x := 10) (y := 9) (tgt := 208) E.1 E.2.1 dX2_digest_189 (by decide) (fun _ => ?_) (fun h9 => absurd (by decide) h9)
  refine lv_lload_n E.1 E.2.1 dX2_digest_208 rfl (lv_at hl 1 rfl) ?_
  exact W.lret (v := 869625612486629861) E.1 E.2.1 hr (fun t ht _ => ⟨869625612486629861, rfl, rfl, ht⟩) (fun q hq => by cases hq) dX2_digest_209
