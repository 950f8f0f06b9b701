def FJ0_isLatin1_aae02  : Int32 := 1
set_option maxHeartbeats 4000000 in
set_option maxRecDepth 100000 in
/-- the text is of bytes -/
theorem c_J0_isLatin1_aae02 (l : Launch) (D : va_G) (cI cB : ClassId)  (aS aV : Nat) (A : Nat → Prop)  : Met l yJ0_isLatin1_aae02 wsJ0_isLatin1_aae02 ({ frames := 0, cells := 0, slots := 0, locals := 0 }) (GPs D cI cB aS aV A ([]) [.ref aS]) (QcRead (FJ0_isLatin1_aae02)) 0 0 (fun _ => False) := by
  refine Met.ofW (cc := cJ0_isLatin1_aae02) (maxL := 1) (ret := (some .boolean)) (by decide) rfl ?_
  intro p e s m args below meth cd s₁ B hml hv
  obtain ⟨rfl, hP, hK, hZ⟩ := hv
  have hSz : va_S A s.heap s.heap [] := va_S.rf
  have hz0 := hZ.2.1.1 0 (by decide)
  have zc : va_OF "java/lang/String" "coder" "B" (.int 0) aS A s s.heap := hz0.2.1
  have zv : va_OF "java/lang/String" "value" "[B" (.ref aV) aS A s s.heap := hz0.2.2.1
  have zt : va_T .byte aV 5 (fun j => .int (([115, 121, 103, 98, 116] : List Int32).getD j 0)) A s s.heap := hz0.2.2.2
  have zo : ∃ cell : Cell, s.heap[aS]? = some cell ∧ cell.vm.isStatics = false ∧ s.vm.findClass RJ0 = some cell.cls := vk_recv hZ.2.1 (i := 0) (by decide) hSz
  have hts := atoms_spec (ws := wsJ0_isLatin1_aae02) B.pre
  have E : CallFix p m cd cJ0_isLatin1_aae02 1 s _ wsJ0_isLatin1_aae02 RJ0 := ⟨B.exec, B.bytes, hml, findClass_of_methodNamed B.named, hts⟩
  have hr := B.returns
  have hlocks := B.notSynchronized
  have w_0 : (Cond.fieldLink RJ0 38 "java/lang/String" "COMPACT_STRINGS" "Z").before _ s = true := hts _ (by decide +kernel)
  have w_1 : (Cond.fieldLink RJ0 15 "java/lang/String" "coder" "B").before _ s = true := hts _ (by decide +kernel)
  have hl := lv_entry ([.ref aS]) (n := 1) (Nat.le_of_ble_eq_true rfl)
  rw [lg_entry_eq]
  generalize (lg_sl ([.ref aS]) ++ List.replicate (1 - (lg_sl ([.ref aS])).length) Slot.unset).toArray = ls at hl ⊢
  have hl : lv_has ls 1 [(0, .ref aS)] := hl
  refine va_gets (v := .int 1) E.1 E.2.1 hZ.2.2.1 hSz E.2.2.2.1 w_0 (fun _ h => h) dJ0_isLatin1_aae02_0 ?_
  refine lv_if_eq (x := 1) (tgt := 17) E.1 E.2.1 dJ0_isLatin1_aae02_3 (by decide) (fun h9 => absurd h9 (by decide)) (fun _ => ?_)
  refine lv_aload_n E.1 E.2.1 dJ0_isLatin1_aae02_6 rfl (lv_at hl 0 rfl) ?_
  refine vk_getf (v := .int 0) E.1 E.2.1 zc hSz E.2.2.2.1 w_1 (fun _ h => h) dJ0_isLatin1_aae02_7 ?_
  refine lv_if_ne (x := 0) (tgt := 17) E.1 E.2.1 dJ0_isLatin1_aae02_10 (by decide) (fun h9 => absurd (by decide) h9) (fun _ => ?_)
  refine lv_iconst (v := 1) E.1 E.2.1 dJ0_isLatin1_aae02_13 (by decide) ?_
  refine lv_goto (tgt := 18) E.1 E.2.1 dJ0_isLatin1_aae02_14 (by decide) ?_
  exact W.zret (v := 1) E.1 E.2.1 hr rfl (fun t ht _ => ⟨congrArg (fun z : Int32 => Outcome.returned (some (Value.int z))) (show 1 = FJ0_isLatin1_aae02 from by rw [FJ0_isLatin1_aae02]), ht⟩) (fun q hq => by cases hq) dJ0_isLatin1_aae02_18
def FJ0_coder_7d493  : Int32 := 0
set_option maxHeartbeats 4000000 in
set_option maxRecDepth 100000 in
/-- its coder -/
theorem c_J0_coder_7d493 (l : Launch) (D : va_G) (cI cB : ClassId)  (aS aV : Nat) (A : Nat → Prop)  : Met l yJ0_coder_7d493 wsJ0_coder_7d493 ({ frames := 0, cells := 0, slots := 0, locals := 0 }) (GPs D cI cB aS aV A ([]) [.ref aS]) (QcRead (FJ0_coder_7d493)) 0 0 (fun _ => False) := by
  refine Met.ofW (cc := cJ0_coder_7d493) (maxL := 1) (ret := (some .byte)) (by decide) rfl ?_
  intro p e s m args below meth cd s₁ B hml hv
  obtain ⟨rfl, hP, hK, hZ⟩ := hv
  have hSz : va_S A s.heap s.heap [] := va_S.rf
  have hz0 := hZ.2.1.1 0 (by decide)
  have zc : va_OF "java/lang/String" "coder" "B" (.int 0) aS A s s.heap := hz0.2.1
  have zv : va_OF "java/lang/String" "value" "[B" (.ref aV) aS A s s.heap := hz0.2.2.1
  have zt : va_T .byte aV 5 (fun j => .int (([115, 121, 103, 98, 116] : List Int32).getD j 0)) A s s.heap := hz0.2.2.2
  have zo : ∃ cell : Cell, s.heap[aS]? = some cell ∧ cell.vm.isStatics = false ∧ s.vm.findClass RJ0 = some cell.cls := vk_recv hZ.2.1 (i := 0) (by decide) hSz
  have hts := atoms_spec (ws := wsJ0_coder_7d493) B.pre
  have E : CallFix p m cd cJ0_coder_7d493 1 s _ wsJ0_coder_7d493 RJ0 := ⟨B.exec, B.bytes, hml, findClass_of_methodNamed B.named, hts⟩
  have hr := B.returns
  have hlocks := B.notSynchronized
  have w_0 : (Cond.fieldLink RJ0 38 "java/lang/String" "COMPACT_STRINGS" "Z").before _ s = true := hts _ (by decide +kernel)
  have w_1 : (Cond.fieldLink RJ0 15 "java/lang/String" "coder" "B").before _ s = true := hts _ (by decide +kernel)
  have hl := lv_entry ([.ref aS]) (n := 1) (Nat.le_of_ble_eq_true rfl)
  rw [lg_entry_eq]
  generalize (lg_sl ([.ref aS]) ++ List.replicate (1 - (lg_sl ([.ref aS])).length) Slot.unset).toArray = ls at hl ⊢
  have hl : lv_has ls 1 [(0, .ref aS)] := hl
  refine va_gets (v := .int 1) E.1 E.2.1 hZ.2.2.1 hSz E.2.2.2.1 w_0 (fun _ h => h) dJ0_coder_7d493_0 ?_
  refine lv_if_eq (x := 1) (tgt := 13) E.1 E.2.1 dJ0_coder_7d493_3 (by decide) (fun h9 => absurd h9 (by decide)) (fun _ => ?_)
  refine lv_aload_n E.1 E.2.1 dJ0_coder_7d493_6 rfl (lv_at hl 0 rfl) ?_
  refine vk_getf (v := .int 0) E.1 E.2.1 zc hSz E.2.2.2.1 w_1 (fun _ h => h) dJ0_coder_7d493_7 ?_
  refine lv_goto (tgt := 14) E.1 E.2.1 dJ0_coder_7d493_10 (by decide) ?_
  exact W.zret (v := 0) E.1 E.2.1 hr rfl (fun t ht _ => ⟨congrArg (fun z : Int32 => Outcome.returned (some (Value.int z))) (show 0 = FJ0_coder_7d493 from by rw [FJ0_coder_7d493]), ht⟩) (fun q hq => by cases hq) dJ0_coder_7d493_14
def FJ0_length_8abf5  : Int32 := 5
set_option maxHeartbeats 4000000 in
set_option maxRecDepth 100000 in
/-- its length -/
theorem c_J0_length_8abf5 (l : Launch) (D : va_G) (cI cB : ClassId)  (aS aV : Nat) (A : Nat → Prop)  : Met l yJ0_length_8abf5 wsJ0_length_8abf5 ({ frames := 1, cells := 0, slots := 0, locals := 20 }) (GPs D cI cB aS aV A ([]) [.ref aS]) (QcRead (FJ0_length_8abf5)) 0 0 (fun _ => False) := by
  refine Met.ofW (cc := cJ0_length_8abf5) (maxL := 1) (ret := (some .int)) (by decide) rfl ?_
  intro p e s m args below meth cd s₁ B hml hv
  obtain ⟨rfl, hP, hK, hZ⟩ := hv
  have hSz : va_S A s.heap s.heap [] := va_S.rf
  have hz0 := hZ.2.1.1 0 (by decide)
  have zc : va_OF "java/lang/String" "coder" "B" (.int 0) aS A s s.heap := hz0.2.1
  have zv : va_OF "java/lang/String" "value" "[B" (.ref aV) aS A s s.heap := hz0.2.2.1
  have zt : va_T .byte aV 5 (fun j => .int (([115, 121, 103, 98, 116] : List Int32).getD j 0)) A s s.heap := hz0.2.2.2
  have zo : ∃ cell : Cell, s.heap[aS]? = some cell ∧ cell.vm.isStatics = false ∧ s.vm.findClass RJ0 = some cell.cls := vk_recv hZ.2.1 (i := 0) (by decide) hSz
  have hts := atoms_spec (ws := wsJ0_length_8abf5) B.pre
  have E : CallFix p m cd cJ0_length_8abf5 1 s _ wsJ0_length_8abf5 RJ0 := ⟨B.exec, B.bytes, hml, findClass_of_methodNamed B.named, hts⟩
  have hr := B.returns
  have hlocks := B.notSynchronized
  have w_0 : (Cond.fieldLink RJ0 9 "java/lang/String" "value" "[B").before _ s = true := hts _ (by decide +kernel)
  have hl := lv_entry ([.ref aS]) (n := 1) (Nat.le_of_ble_eq_true rfl)
  rw [lg_entry_eq]
  generalize (lg_sl ([.ref aS]) ++ List.replicate (1 - (lg_sl ([.ref aS])).length) Slot.unset).toArray = ls at hl ⊢
  have hl : lv_has ls 1 [(0, .ref aS)] := hl
  refine lv_aload_n E.1 E.2.1 dJ0_length_8abf5_0 rfl (lv_at hl 0 rfl) ?_
  refine vk_getf (v := .ref aV) E.1 E.2.1 zv hSz E.2.2.2.1 w_0 (fun _ h => h) dJ0_length_8abf5_1 ?_
  refine va_tlen (v := 5) E.1 E.2.1 zt hSz rfl dJ0_length_8abf5_4 ?_
  refine lv_aload_n E.1 E.2.1 dJ0_length_8abf5_5 rfl (lv_at hl 0 rfl) ?_
  refine gs_VR (As := []) (rest := [.int 5]) E hK (ws := []) (fun _ _ h => by simp at h) hZ hSz (c_J0_coder_7d493 l D cI cB aS aV A) (cwV 0 E.2.2.2.2 gJ0_length_8abf5_J0_coder_7d493 rfl rfl rfl (by decide +kernel) ⟨Nat.le_of_ble_eq_true rfl, Nat.le_of_ble_eq_true rfl⟩) (zo) rfl hl.1 rfl (Nat.le_of_ble_eq_true rfl) dJ0_length_8abf5_6 ⟨Nat.zero_le _, Nat.zero_le _⟩ ?_
  refine lv_topi (fun y_1 ey_1 => ?_)
  obtain rfl : y_1 = 0 := ey_1.trans (by decide)
  refine lv_ishr (x := 5) (y := 0) E.1 E.2.1 dJ0_length_8abf5_9 ?_
  refine lv_topi (fun y_2 ey_2 => ?_)
  obtain rfl : y_2 = 5 := ey_2.trans (by decide)
  exact W.iret (v := 5) E.1 E.2.1 hr (fun t ht _ => ⟨congrArg (fun z : Int32 => Outcome.returned (some (Value.int z))) (show 5 = FJ0_length_8abf5 from by rw [FJ0_length_8abf5]), ht⟩) (fun q hq => by cases hq) dJ0_length_8abf5_10
def FJ1_canEncode_9a6ad (p0 : Int32) : Int32 := (if p0 < 0 then 0 else (if 255 < p0 then 0 else 1))
set_option maxHeartbeats 4000000 in
set_option maxRecDepth 100000 in
/-- a byte -/
theorem c_J1_canEncode_9a6ad (l : Launch) (D : va_G) (cI cB : ClassId)  (p0 : Int32) : Met l yJ1_canEncode_9a6ad wsJ1_canEncode_9a6ad ({ frames := 0, cells := 0, slots := 0, locals := 0 }) (GPc D cI cB ([]) [.int p0]) (QcRead (FJ1_canEncode_9a6ad p0)) 0 0 (fun _ => False) := by
  refine Met.ofW (cc := cJ1_canEncode_9a6ad) (maxL := 1) (ret := (some .boolean)) (by decide) rfl ?_
  intro p e s m args below meth cd s₁ B hml hv
  obtain ⟨rfl, hP, hK⟩ := hv
  have hts := atoms_spec (ws := wsJ1_canEncode_9a6ad) B.pre
  have E : CallFix p m cd cJ1_canEncode_9a6ad 1 s _ wsJ1_canEncode_9a6ad RJ1 := ⟨B.exec, B.bytes, hml, findClass_of_methodNamed B.named, hts⟩
  have hr := B.returns
  have hlocks := B.notSynchronized
  have hl := lv_entry ([.int p0]) (n := 1) (Nat.le_of_ble_eq_true rfl)
  rw [lg_entry_eq]
  generalize (lg_sl ([.int p0]) ++ List.replicate (1 - (lg_sl ([.int p0])).length) Slot.unset).toArray = ls at hl ⊢
  have hl : lv_has ls 1 [(0, .int p0)] := hl
  refine lv_iload_n E.1 E.2.1 dJ1_canEncode_9a6ad_0 rfl (lv_at hl 0 rfl) ?_
  refine lv_if_lt (x := p0) (tgt := 15) E.1 E.2.1 dJ1_canEncode_9a6ad_1 (by decide) (fun h1 => ?_) (fun h1 => ?_)
  · have h1 := h1
    refine lv_iconst (v := 0) E.1 E.2.1 dJ1_canEncode_9a6ad_15 (by decide) ?_
    exact W.zret (v := 0) E.1 E.2.1 hr rfl (fun t ht _ => ⟨congrArg (fun z : Int32 => Outcome.returned (some (Value.int z))) (show 0 = FJ1_canEncode_9a6ad p0 from by rw [FJ1_canEncode_9a6ad, if_pos h1]), ht⟩) (fun q hq => by cases hq) dJ1_canEncode_9a6ad_16
  · have h1 := h1
    refine lv_iload_n E.1 E.2.1 dJ1_canEncode_9a6ad_4 rfl (lv_at hl 0 rfl) ?_
    refine lv_sipush (v := 255) E.1 E.2.1 dJ1_canEncode_9a6ad_5 (by decide) ?_
    refine lv_icmp_gt (x := p0) (y := 255) (tgt := 15) E.1 E.2.1 dJ1_canEncode_9a6ad_8 (by decide) (fun h8 => ?_) (fun h8 => ?_)
    · have h8 := h8
      refine lv_iconst (v := 0) E.1 E.2.1 dJ1_canEncode_9a6ad_15 (by decide) ?_
      exact W.zret (v := 0) E.1 E.2.1 hr rfl (fun t ht _ => ⟨congrArg (fun z : Int32 => Outcome.returned (some (Value.int z))) (show 0 = FJ1_canEncode_9a6ad p0 from by rw [FJ1_canEncode_9a6ad, if_neg h1, if_pos h8]), ht⟩) (fun q hq => by cases hq) dJ1_canEncode_9a6ad_16
    · have h8 := h8
      refine lv_iconst (v := 1) E.1 E.2.1 dJ1_canEncode_9a6ad_11 (by decide) ?_
      refine lv_goto (tgt := 16) E.1 E.2.1 dJ1_canEncode_9a6ad_12 (by decide) ?_
      exact W.zret (v := 1) E.1 E.2.1 hr rfl (fun t ht _ => ⟨congrArg (fun z : Int32 => Outcome.returned (some (Value.int z))) (show 1 = FJ1_canEncode_9a6ad p0 from by rw [FJ1_canEncode_9a6ad, if_neg h1, if_neg h8]), ht⟩) (fun q hq => by cases hq) dJ1_canEncode_9a6ad_16
def FJ1_indexOfChar_4cfef (p0 : Int32) : Int32 := (if 115 = p0.toInt8.toInt32 then 0 else (if 121 = p0.toInt8.toInt32 then 1 else (if 103 = p0.toInt8.toInt32 then 2 else (if 98 = p0.toInt8.toInt32 then 3 else (if 116 = p0.toInt8.toInt32 then 4 else (-1))))))
set_option maxHeartbeats 4000000 in
set_option maxRecDepth 100000 in
/-- the first place of a byte -/
theorem c_J1_indexOfChar_4cfef (l : Launch) (D : va_G) (cI cB : ClassId)  (aS aV : Nat) (A : Nat → Prop) (p0 : Int32) : Met l yJ1_indexOfChar_4cfef wsJ1_indexOfChar_4cfef ({ frames := 0, cells := 0, slots := 0, locals := 0 }) (GPs D cI cB aS aV A ([]) [.ref aV, .int p0, .int 0, .int 5]) (QcRead (FJ1_indexOfChar_4cfef p0)) 0 0 (fun _ => False) := by
  refine Met.ofW (cc := cJ1_indexOfChar_4cfef) (maxL := 6) (ret := (some .int)) (by decide) rfl ?_
  intro p e s m args below meth cd s₁ B hml hv
  obtain ⟨rfl, hP, hK, hZ⟩ := hv
  have hSz : va_S A s.heap s.heap [] := va_S.rf
  have hz0 := hZ.2.1.1 0 (by decide)
  have zc : va_OF "java/lang/String" "coder" "B" (.int 0) aS A s s.heap := hz0.2.1
  have zv : va_OF "java/lang/String" "value" "[B" (.ref aV) aS A s s.heap := hz0.2.2.1
  have zt : va_T .byte aV 5 (fun j => .int (([115, 121, 103, 98, 116] : List Int32).getD j 0)) A s s.heap := hz0.2.2.2
  have zo : ∃ cell : Cell, s.heap[aS]? = some cell ∧ cell.vm.isStatics = false ∧ s.vm.findClass RJ0 = some cell.cls := vk_recv hZ.2.1 (i := 0) (by decide) hSz
  have hts := atoms_spec (ws := wsJ1_indexOfChar_4cfef) B.pre
  have E : CallFix p m cd cJ1_indexOfChar_4cfef 6 s _ wsJ1_indexOfChar_4cfef RJ1 := ⟨B.exec, B.bytes, hml, findClass_of_methodNamed B.named, hts⟩
  have hr := B.returns
  have hlocks := B.notSynchronized
  have hl := lv_entry ([.ref aV, .int p0, .int 0, .int 5]) (n := 6) (Nat.le_of_ble_eq_true rfl)
  rw [lg_entry_eq]
  generalize (lg_sl ([.ref aV, .int p0, .int 0, .int 5]) ++ List.replicate (6 - (lg_sl ([.ref aV, .int p0, .int 0, .int 5])).length) Slot.unset).toArray = ls at hl ⊢
  have hl : lv_has ls 6 [(0, .ref aV), (1, .int p0), (2, .int 0), (3, .int 5)] := hl
  refine lv_iload_n E.1 E.2.1 dJ1_indexOfChar_4cfef_0 rfl (lv_at hl 1 rfl) ?_
  refine lv_i2b E.1 E.2.1 dJ1_indexOfChar_4cfef_1 rfl ?_
  refine lv_istore (lv' := [(4, .int p0.toInt8.toInt32), (0, .ref aV), (1, .int p0), (2, .int 0), (3, .int 5)]) E.1 E.2.1 dJ1_indexOfChar_4cfef_2 hl (by decide) rfl (fun ls hl => ?_)
  refine lv_iload_n E.1 E.2.1 dJ1_indexOfChar_4cfef_4 rfl (lv_at hl 3 rfl) ?_
  refine lv_istore (lv' := [(5, .int 0), (4, .int p0.toInt8.toInt32), (0, .ref aV), (1, .int p0), (2, .int 0), (3, .int 5)]) E.1 E.2.1 dJ1_indexOfChar_4cfef_5 hl (by decide) rfl (fun ls hl => ?_)
  refine lv_iload E.1 E.2.1 dJ1_indexOfChar_4cfef_7 (lv_at hl 0 rfl) ?_
  refine lv_iload_n E.1 E.2.1 dJ1_indexOfChar_4cfef_9 rfl (lv_at hl 5 rfl) ?_
  refine lv_icmp_ge (x := 0) (y := 5) (tgt := 31) E.1 E.2.1 dJ1_indexOfChar_4cfef_10 (by decide) (fun h9 => absurd h9 (by decide)) (fun _ => ?_)
  refine lv_aload_n E.1 E.2.1 dJ1_indexOfChar_4cfef_13 rfl (lv_at hl 2 rfl) ?_
  refine lv_iload E.1 E.2.1 dJ1_indexOfChar_4cfef_14 (lv_at hl 0 rfl) ?_
  refine va_tb (i := 0) (v := .int 115) E.1 E.2.1 zt hSz (by unfold vp_in; decide) rfl dJ1_indexOfChar_4cfef_16 ?_
  refine lv_iload E.1 E.2.1 dJ1_indexOfChar_4cfef_17 (lv_at hl 1 rfl) ?_
  refine lv_icmp_ne (x := 115) (y := p0.toInt8.toInt32) (tgt := 25) E.1 E.2.1 dJ1_indexOfChar_4cfef_19 (by decide) (fun h19 => ?_) (fun h19 => ?_)
  · have h19 := h19
    refine lv_iinc (v := 1) (k := 0) (lv' := [(5, .int 1), (4, .int p0.toInt8.toInt32), (0, .ref aV), (1, .int p0), (2, .int 0), (3, .int 5)]) E.1 E.2.1 dJ1_indexOfChar_4cfef_25 hl rfl (by decide) (by decide) rfl (fun ls hl => ?_)
    refine lv_goto (tgt := 7) E.1 E.2.1 dJ1_indexOfChar_4cfef_28 (by decide) ?_
    refine lv_iload E.1 E.2.1 dJ1_indexOfChar_4cfef_7 (lv_at hl 0 rfl) ?_
    refine lv_iload_n E.1 E.2.1 dJ1_indexOfChar_4cfef_9 rfl (lv_at hl 5 rfl) ?_
    refine lv_icmp_ge (x := 1) (y := 5) (tgt := 31) E.1 E.2.1 dJ1_indexOfChar_4cfef_10 (by decide) (fun h9 => absurd h9 (by decide)) (fun _ => ?_)
    refine lv_aload_n E.1 E.2.1 dJ1_indexOfChar_4cfef_13 rfl (lv_at hl 2 rfl) ?_
    refine lv_iload E.1 E.2.1 dJ1_indexOfChar_4cfef_14 (lv_at hl 0 rfl) ?_
    refine va_tb (i := 1) (v := .int 121) E.1 E.2.1 zt hSz (by unfold vp_in; decide) rfl dJ1_indexOfChar_4cfef_16 ?_
    refine lv_iload E.1 E.2.1 dJ1_indexOfChar_4cfef_17 (lv_at hl 1 rfl) ?_
    refine lv_icmp_ne (x := 121) (y := p0.toInt8.toInt32) (tgt := 25) E.1 E.2.1 dJ1_indexOfChar_4cfef_19 (by decide) (fun h19q => ?_) (fun h19q => ?_)
    · have h19q := h19q
      refine lv_iinc (v := 2) (k := 0) (lv' := [(5, .int 2), (4, .int p0.toInt8.toInt32), (0, .ref aV), (1, .int p0), (2, .int 0), (3, .int 5)]) E.1 E.2.1 dJ1_indexOfChar_4cfef_25 hl rfl (by decide) (by decide) rfl (fun ls hl => ?_)
      refine lv_goto (tgt := 7) E.1 E.2.1 dJ1_indexOfChar_4cfef_28 (by decide) ?_
      refine lv_iload E.1 E.2.1 dJ1_indexOfChar_4cfef_7 (lv_at hl 0 rfl) ?_
      refine lv_iload_n E.1 E.2.1 dJ1_indexOfChar_4cfef_9 rfl (lv_at hl 5 rfl) ?_
      refine lv_icmp_ge (x := 2) (y := 5) (tgt := 31) E.1 E.2.1 dJ1_indexOfChar_4cfef_10 (by decide) (fun h9 => absurd h9 (by decide)) (fun _ => ?_)
      refine lv_aload_n E.1 E.2.1 dJ1_indexOfChar_4cfef_13 rfl (lv_at hl 2 rfl) ?_
      refine lv_iload E.1 E.2.1 dJ1_indexOfChar_4cfef_14 (lv_at hl 0 rfl) ?_
      refine va_tb (i := 2) (v := .int 103) E.1 E.2.1 zt hSz (by unfold vp_in; decide) rfl dJ1_indexOfChar_4cfef_16 ?_
      refine lv_iload E.1 E.2.1 dJ1_indexOfChar_4cfef_17 (lv_at hl 1 rfl) ?_
      refine lv_icmp_ne (x := 103) (y := p0.toInt8.toInt32) (tgt := 25) E.1 E.2.1 dJ1_indexOfChar_4cfef_19 (by decide) (fun h19qq => ?_) (fun h19qq => ?_)
      · have h19qq := h19qq
        refine lv_iinc (v := 3) (k := 0) (lv' := [(5, .int 3), (4, .int p0.toInt8.toInt32), (0, .ref aV), (1, .int p0), (2, .int 0), (3, .int 5)]) E.1 E.2.1 dJ1_indexOfChar_4cfef_25 hl rfl (by decide) (by decide) rfl (fun ls hl => ?_)
        refine lv_goto (tgt := 7) E.1 E.2.1 dJ1_indexOfChar_4cfef_28 (by decide) ?_
        refine lv_iload E.1 E.2.1 dJ1_indexOfChar_4cfef_7 (lv_at hl 0 rfl) ?_
        refine lv_iload_n E.1 E.2.1 dJ1_indexOfChar_4cfef_9 rfl (lv_at hl 5 rfl) ?_
        refine lv_icmp_ge (x := 3) (y := 5) (tgt := 31) E.1 E.2.1 dJ1_indexOfChar_4cfef_10 (by decide) (fun h9 => absurd h9 (by decide)) (fun _ => ?_)
        refine lv_aload_n E.1 E.2.1 dJ1_indexOfChar_4cfef_13 rfl (lv_at hl 2 rfl) ?_
        refine lv_iload E.1 E.2.1 dJ1_indexOfChar_4cfef_14 (lv_at hl 0 rfl) ?_
        refine va_tb (i := 3) (v := .int 98) E.1 E.2.1 zt hSz (by unfold vp_in; decide) rfl dJ1_indexOfChar_4cfef_16 ?_
        refine lv_iload E.1 E.2.1 dJ1_indexOfChar_4cfef_17 (lv_at hl 1 rfl) ?_
        refine lv_icmp_ne (x := 98) (y := p0.toInt8.toInt32) (tgt := 25) E.1 E.2.1 dJ1_indexOfChar_4cfef_19 (by decide) (fun h19qqq => ?_) (fun h19qqq => ?_)
        · have h19qqq := h19qqq
          refine lv_iinc (v := 4) (k := 0) (lv' := [(5, .int 4), (4, .int p0.toInt8.toInt32), (0, .ref aV), (1, .int p0), (2, .int 0), (3, .int 5)]) E.1 E.2.1 dJ1_indexOfChar_4cfef_25 hl rfl (by decide) (by decide) rfl (fun ls hl => ?_)
          refine lv_goto (tgt := 7) E.1 E.2.1 dJ1_indexOfChar_4cfef_28 (by decide) ?_
          refine lv_iload E.1 E.2.1 dJ1_indexOfChar_4cfef_7 (lv_at hl 0 rfl) ?_
          refine lv_iload_n E.1 E.2.1 dJ1_indexOfChar_4cfef_9 rfl (lv_at hl 5 rfl) ?_
          refine lv_icmp_ge (x := 4) (y := 5) (tgt := 31) E.1 E.2.1 dJ1_indexOfChar_4cfef_10 (by decide) (fun h9 => absurd h9 (by decide)) (fun _ => ?_)
          refine lv_aload_n E.1 E.2.1 dJ1_indexOfChar_4cfef_13 rfl (lv_at hl 2 rfl) ?_
          refine lv_iload E.1 E.2.1 dJ1_indexOfChar_4cfef_14 (lv_at hl 0 rfl) ?_
          refine va_tb (i := 4) (v := .int 116) E.1 E.2.1 zt hSz (by unfold vp_in; decide) rfl dJ1_indexOfChar_4cfef_16 ?_
          refine lv_iload E.1 E.2.1 dJ1_indexOfChar_4cfef_17 (lv_at hl 1 rfl) ?_
          refine lv_icmp_ne (x := 116) (y := p0.toInt8.toInt32) (tgt := 25) E.1 E.2.1 dJ1_indexOfChar_4cfef_19 (by decide) (fun h19qqqq => ?_) (fun h19qqqq => ?_)
          · have h19qqqq := h19qqqq
            refine lv_iinc (v := 5) (k := 0) (lv' := [(5, .int 5), (4, .int p0.toInt8.toInt32), (0, .ref aV), (1, .int p0), (2, .int 0), (3, .int 5)]) E.1 E.2.1 dJ1_indexOfChar_4cfef_25 hl rfl (by decide) (by decide) rfl (fun ls hl => ?_)
            refine lv_goto (tgt := 7) E.1 E.2.1 dJ1_indexOfChar_4cfef_28 (by decide) ?_
            refine lv_iload E.1 E.2.1 dJ1_indexOfChar_4cfef_7 (lv_at hl 0 rfl) ?_
            refine lv_iload_n E.1 E.2.1 dJ1_indexOfChar_4cfef_9 rfl (lv_at hl 5 rfl) ?_
            refine lv_icmp_ge (x := 5) (y := 5) (tgt := 31) E.1 E.2.1 dJ1_indexOfChar_4cfef_10 (by decide) (fun _ => ?_) (fun h9 => absurd (by decide) h9)
            refine lv_iconst (v := (-1)) E.1 E.2.1 dJ1_indexOfChar_4cfef_31 (by decide) ?_
            exact W.iret (v := (-1)) E.1 E.2.1 hr (fun t ht _ => ⟨congrArg (fun z : Int32 => Outcome.returned (some (Value.int z))) (show (-1) = FJ1_indexOfChar_4cfef p0 from by rw [FJ1_indexOfChar_4cfef, if_neg h19, if_neg h19q, if_neg h19qq, if_neg h19qqq, if_neg h19qqqq]), ht⟩) (fun q hq => by cases hq) dJ1_indexOfChar_4cfef_32
          · have h19qqqq := h19qqqq
            refine lv_iload E.1 E.2.1 dJ1_indexOfChar_4cfef_22 (lv_at hl 0 rfl) ?_
            exact W.iret (v := 4) E.1 E.2.1 hr (fun t ht _ => ⟨congrArg (fun z : Int32 => Outcome.returned (some (Value.int z))) (show 4 = FJ1_indexOfChar_4cfef p0 from by rw [FJ1_indexOfChar_4cfef, if_neg h19, if_neg h19q, if_neg h19qq, if_neg h19qqq, if_pos h19qqqq]), ht⟩) (fun q hq => by cases hq) dJ1_indexOfChar_4cfef_24
        · have h19qqq := h19qqq
          refine lv_iload E.1 E.2.1 dJ1_indexOfChar_4cfef_22 (lv_at hl 0 rfl) ?_
          exact W.iret (v := 3) E.1 E.2.1 hr (fun t ht _ => ⟨congrArg (fun z : Int32 => Outcome.returned (some (Value.int z))) (show 3 = FJ1_indexOfChar_4cfef p0 from by rw [FJ1_indexOfChar_4cfef, if_neg h19, if_neg h19q, if_neg h19qq, if_pos h19qqq]), ht⟩) (fun q hq => by cases hq) dJ1_indexOfChar_4cfef_24
      · have h19qq := h19qq
        refine lv_iload E.1 E.2.1 dJ1_indexOfChar_4cfef_22 (lv_at hl 0 rfl) ?_
        exact W.iret (v := 2) E.1 E.2.1 hr (fun t ht _ => ⟨congrArg (fun z : Int32 => Outcome.returned (some (Value.int z))) (show 2 = FJ1_indexOfChar_4cfef p0 from by rw [FJ1_indexOfChar_4cfef, if_neg h19, if_neg h19q, if_pos h19qq]), ht⟩) (fun q hq => by cases hq) dJ1_indexOfChar_4cfef_24
    · have h19q := h19q
      refine lv_iload E.1 E.2.1 dJ1_indexOfChar_4cfef_22 (lv_at hl 0 rfl) ?_
      exact W.iret (v := 1) E.1 E.2.1 hr (fun t ht _ => ⟨congrArg (fun z : Int32 => Outcome.returned (some (Value.int z))) (show 1 = FJ1_indexOfChar_4cfef p0 from by rw [FJ1_indexOfChar_4cfef, if_neg h19, if_pos h19q]), ht⟩) (fun q hq => by cases hq) dJ1_indexOfChar_4cfef_24
  · have h19 := h19
    refine lv_iload E.1 E.2.1 dJ1_indexOfChar_4cfef_22 (lv_at hl 0 rfl) ?_
    exact W.iret (v := 0) E.1 E.2.1 hr (fun t ht _ => ⟨congrArg (fun z : Int32 => Outcome.returned (some (Value.int z))) (show 0 = FJ1_indexOfChar_4cfef p0 from by rw [FJ1_indexOfChar_4cfef, if_pos h19]), ht⟩) (fun q hq => by cases hq) dJ1_indexOfChar_4cfef_24
def FJ1_indexOf_4cfef (p0 : Int32) : Int32 := (if FJ1_canEncode_9a6ad p0 = 0 then (-1) else FJ1_indexOfChar_4cfef p0)
set_option maxHeartbeats 4000000 in
set_option maxRecDepth 100000 in
/-- indexOf of bytes -/
theorem c_J1_indexOf_4cfef (l : Launch) (D : va_G) (cI cB : ClassId)  (aS aV : Nat) (A : Nat → Prop) (p0 : Int32) : Met l yJ1_indexOf_4cfef wsJ1_indexOf_4cfef ({ frames := 1, cells := 0, slots := 0, locals := 25 }) (GPs D cI cB aS aV A ([]) [.ref aV, .int p0, .int 0, .int 5]) (QcRead (FJ1_indexOf_4cfef p0)) 0 0 (fun _ => False) := by
  refine Met.ofW (cc := cJ1_indexOf_4cfef) (maxL := 4) (ret := (some .int)) (by decide) rfl ?_
  intro p e s m args below meth cd s₁ B hml hv
  obtain ⟨rfl, hP, hK, hZ⟩ := hv
  have hSz : va_S A s.heap s.heap [] := va_S.rf
  have hz0 := hZ.2.1.1 0 (by decide)
  have zc : va_OF "java/lang/String" "coder" "B" (.int 0) aS A s s.heap := hz0.2.1
  have zv : va_OF "java/lang/String" "value" "[B" (.ref aV) aS A s s.heap := hz0.2.2.1
  have zt : va_T .byte aV 5 (fun j => .int (([115, 121, 103, 98, 116] : List Int32).getD j 0)) A s s.heap := hz0.2.2.2
  have zo : ∃ cell : Cell, s.heap[aS]? = some cell ∧ cell.vm.isStatics = false ∧ s.vm.findClass RJ0 = some cell.cls := vk_recv hZ.2.1 (i := 0) (by decide) hSz
  have hts := atoms_spec (ws := wsJ1_indexOf_4cfef) B.pre
  have E : CallFix p m cd cJ1_indexOf_4cfef 4 s _ wsJ1_indexOf_4cfef RJ1 := ⟨B.exec, B.bytes, hml, findClass_of_methodNamed B.named, hts⟩
  have hr := B.returns
  have hlocks := B.notSynchronized
  have w_0 : (Cond.methodLink RJ1 92 Lib.Math.max.name).before _ s = true := hts _ (by decide +kernel)
  have w_1 : (Cond.static Lib.Math.max.name).before _ s = true := hts _ (by decide +kernel)
  have w_2 : (Cond.initialized "java/lang/Math").before _ s = true := hts _ (by decide +kernel)
  have w_3 : (Cond.code Lib.Math.max.name Lib.Math.max.code 2 (some .int)).before _ s = true := hts _ (by decide +kernel)
  have w_4 : (Cond.methodLink RJ1 38 Lib.Math.min.name).before _ s = true := hts _ (by decide +kernel)
  have w_5 : (Cond.static Lib.Math.min.name).before _ s = true := hts _ (by decide +kernel)
  have w_6 : (Cond.code Lib.Math.min.name Lib.Math.min.code 2 (some .int)).before _ s = true := hts _ (by decide +kernel)
  have hl := lv_entry ([.ref aV, .int p0, .int 0, .int 5]) (n := 4) (Nat.le_of_ble_eq_true rfl)
  rw [lg_entry_eq]
  generalize (lg_sl ([.ref aV, .int p0, .int 0, .int 5]) ++ List.replicate (4 - (lg_sl ([.ref aV, .int p0, .int 0, .int 5])).length) Slot.unset).toArray = ls at hl ⊢
  have hl : lv_has ls 4 [(0, .ref aV), (1, .int p0), (2, .int 0), (3, .int 5)] := hl
  refine lv_iload_n E.1 E.2.1 dJ1_indexOf_4cfef_0 rfl (lv_at hl 1 rfl) ?_
  refine g_SR (As := [.int p0]) (rest := []) E hK (c_J1_canEncode_9a6ad l D cI cB p0) (va_cwS 1 E.2.2.2.2 gJ1_indexOf_4cfef_J1_canEncode_9a6ad rfl rfl rfl (by decide +kernel) ⟨Nat.le_of_ble_eq_true rfl, Nat.le_of_ble_eq_true rfl⟩) rfl hl.1 rfl (Nat.le_of_ble_eq_true rfl) dJ1_indexOf_4cfef_1 ⟨Nat.zero_le _, Nat.zero_le _⟩ ?_
  refine lv_if_ne (x := FJ1_canEncode_9a6ad p0) (tgt := 9) E.1 E.2.1 dJ1_indexOf_4cfef_4 (by decide) (fun h4 => ?_) (fun h4 => ?_)
  · have h4 := h4
    refine lv_iload_n E.1 E.2.1 dJ1_indexOf_4cfef_9 rfl (lv_at hl 2 rfl) ?_
    refine lv_iconst (v := 0) E.1 E.2.1 dJ1_indexOf_4cfef_10 (by decide) ?_
    refine va_mmax (x := 0) (y := 0) E.1 E.2.1 (E.2.2.1.trans hl.1.symm) E.2.2.2.1 w_0 w_1 w_2 w_3 (Nat.le_of_ble_eq_true rfl) (Nat.le_of_ble_eq_true rfl) (Nat.zero_le _) (Nat.zero_le _) dJ1_indexOf_4cfef_11 ?_
    refine lv_topi (fun y_1 ey_1 => ?_)
    obtain rfl : y_1 = 0 := ey_1.trans (by decide)
    refine lv_istore_n (lv' := [(2, .int 0), (0, .ref aV), (1, .int p0), (3, .int 5)]) E.1 E.2.1 dJ1_indexOf_4cfef_14 rfl hl (by decide) rfl (fun ls hl => ?_)
    refine lv_iload_n E.1 E.2.1 dJ1_indexOf_4cfef_15 rfl (lv_at hl 3 rfl) ?_
    refine lv_aload_n E.1 E.2.1 dJ1_indexOf_4cfef_16 rfl (lv_at hl 1 rfl) ?_
    refine va_tlen (v := 5) E.1 E.2.1 zt hSz rfl dJ1_indexOf_4cfef_17 ?_
    refine va_mmin (x := 5) (y := 5) E.1 E.2.1 (E.2.2.1.trans hl.1.symm) E.2.2.2.1 w_4 w_5 w_2 w_6 (Nat.le_of_ble_eq_true rfl) (Nat.le_of_ble_eq_true rfl) (Nat.zero_le _) (Nat.zero_le _) dJ1_indexOf_4cfef_18 ?_
    refine lv_topi (fun y_2 ey_2 => ?_)
    obtain rfl : y_2 = 5 := ey_2.trans (by decide)
    refine lv_istore_n (lv' := [(3, .int 5), (2, .int 0), (0, .ref aV), (1, .int p0)]) E.1 E.2.1 dJ1_indexOf_4cfef_21 rfl hl (by decide) rfl (fun ls hl => ?_)
    refine lv_iload_n E.1 E.2.1 dJ1_indexOf_4cfef_22 rfl (lv_at hl 1 rfl) ?_
    refine lv_iload_n E.1 E.2.1 dJ1_indexOf_4cfef_23 rfl (lv_at hl 0 rfl) ?_
    refine lv_icmp_lt (x := 0) (y := 5) (tgt := 29) E.1 E.2.1 dJ1_indexOf_4cfef_24 (by decide) (fun _ => ?_) (fun h9 => absurd (by decide) h9)
    refine lv_aload_n E.1 E.2.1 dJ1_indexOf_4cfef_29 rfl (lv_at hl 2 rfl) ?_
    refine lv_iload_n E.1 E.2.1 dJ1_indexOf_4cfef_30 rfl (lv_at hl 3 rfl) ?_
    refine lv_iload_n E.1 E.2.1 dJ1_indexOf_4cfef_31 rfl (lv_at hl 1 rfl) ?_
    refine lv_iload_n E.1 E.2.1 dJ1_indexOf_4cfef_32 rfl (lv_at hl 0 rfl) ?_
    refine gs_SR (As := [.ref aV, .int p0, .int 0, .int 5]) (rest := []) E hK (fun _ _ h => by simp at h) hZ hSz (c_J1_indexOfChar_4cfef l D cI cB aS aV A p0) (va_cwS 4 E.2.2.2.2 gJ1_indexOf_4cfef_J1_indexOfChar_4cfef rfl rfl rfl (by decide +kernel) ⟨Nat.le_of_ble_eq_true rfl, Nat.le_of_ble_eq_true rfl⟩) rfl hl.1 rfl (Nat.le_of_ble_eq_true rfl) dJ1_indexOf_4cfef_33 ⟨Nat.zero_le _, Nat.zero_le _⟩ ?_
    exact W.iret (v := FJ1_indexOfChar_4cfef p0) E.1 E.2.1 hr (fun t ht _ => ⟨congrArg (fun z : Int32 => Outcome.returned (some (Value.int z))) (show FJ1_indexOfChar_4cfef p0 = FJ1_indexOf_4cfef p0 from by rw [FJ1_indexOf_4cfef, if_neg h4]), ht⟩) (fun q hq => by cases hq) dJ1_indexOf_4cfef_36
  · have h4 := h4
    refine lv_iconst (v := (-1)) E.1 E.2.1 dJ1_indexOf_4cfef_7 (by decide) ?_
    exact W.iret (v := (-1)) E.1 E.2.1 hr (fun t ht _ => ⟨congrArg (fun z : Int32 => Outcome.returned (some (Value.int z))) (show (-1) = FJ1_indexOf_4cfef p0 from by rw [FJ1_indexOf_4cfef, if_pos h4]), ht⟩) (fun q hq => by cases hq) dJ1_indexOf_4cfef_8
def FJ0_indexOf_7cf53 (p0 : Int32) : Int32 := FJ1_indexOf_4cfef p0
set_option maxHeartbeats 4000000 in
set_option maxRecDepth 100000 in
/-- indexOf -/
theorem c_J0_indexOf_7cf53 (l : Launch) (D : va_G) (cI cB : ClassId)  (aS aV : Nat) (A : Nat → Prop) (p0 : Int32) : Met l yJ0_indexOf_7cf53 wsJ0_indexOf_7cf53 ({ frames := 2, cells := 0, slots := 0, locals := 48 }) (GPs D cI cB aS aV A ([]) [.ref aS, .int p0, .int 0]) (QcRead (FJ0_indexOf_7cf53 p0)) 0 0 (fun _ => False) := by
  refine Met.ofW (cc := cJ0_indexOf_7cf53) (maxL := 3) (ret := (some .int)) (by decide) rfl ?_
  intro p e s m args below meth cd s₁ B hml hv
  obtain ⟨rfl, hP, hK, hZ⟩ := hv
  have hSz : va_S A s.heap s.heap [] := va_S.rf
  have hz0 := hZ.2.1.1 0 (by decide)
  have zc : va_OF "java/lang/String" "coder" "B" (.int 0) aS A s s.heap := hz0.2.1
  have zv : va_OF "java/lang/String" "value" "[B" (.ref aV) aS A s s.heap := hz0.2.2.1
  have zt : va_T .byte aV 5 (fun j => .int (([115, 121, 103, 98, 116] : List Int32).getD j 0)) A s s.heap := hz0.2.2.2
  have zo : ∃ cell : Cell, s.heap[aS]? = some cell ∧ cell.vm.isStatics = false ∧ s.vm.findClass RJ0 = some cell.cls := vk_recv hZ.2.1 (i := 0) (by decide) hSz
  have hts := atoms_spec (ws := wsJ0_indexOf_7cf53) B.pre
  have E : CallFix p m cd cJ0_indexOf_7cf53 3 s _ wsJ0_indexOf_7cf53 RJ0 := ⟨B.exec, B.bytes, hml, findClass_of_methodNamed B.named, hts⟩
  have hr := B.returns
  have hlocks := B.notSynchronized
  have w_0 : (Cond.fieldLink RJ0 9 "java/lang/String" "value" "[B").before _ s = true := hts _ (by decide +kernel)
  have hl := lv_entry ([.ref aS, .int p0, .int 0]) (n := 3) (Nat.le_of_ble_eq_true rfl)
  rw [lg_entry_eq]
  generalize (lg_sl ([.ref aS, .int p0, .int 0]) ++ List.replicate (3 - (lg_sl ([.ref aS, .int p0, .int 0])).length) Slot.unset).toArray = ls at hl ⊢
  have hl : lv_has ls 3 [(0, .ref aS), (1, .int p0), (2, .int 0)] := hl
  refine lv_aload_n E.1 E.2.1 dJ0_indexOf_7cf53_0 rfl (lv_at hl 0 rfl) ?_
  refine gs_VR (As := []) (rest := []) E hK (ws := []) (fun _ _ h => by simp at h) hZ hSz (c_J0_isLatin1_aae02 l D cI cB aS aV A) (cwV 0 E.2.2.2.2 gJ0_indexOf_7cf53_J0_isLatin1_aae02 rfl rfl rfl (by decide +kernel) ⟨Nat.le_of_ble_eq_true rfl, Nat.le_of_ble_eq_true rfl⟩) (zo) rfl hl.1 rfl (Nat.le_of_ble_eq_true rfl) dJ0_indexOf_7cf53_1 ⟨Nat.zero_le _, Nat.zero_le _⟩ ?_
  refine lv_if_eq (x := FJ0_isLatin1_aae02) (tgt := 23) E.1 E.2.1 dJ0_indexOf_7cf53_4 (by decide) (fun h9 => absurd h9 (by decide)) (fun _ => ?_)
  refine lv_aload_n E.1 E.2.1 dJ0_indexOf_7cf53_7 rfl (lv_at hl 0 rfl) ?_
  refine vk_getf (v := .ref aV) E.1 E.2.1 zv hSz E.2.2.2.1 w_0 (fun _ h => h) dJ0_indexOf_7cf53_8 ?_
  refine lv_iload_n E.1 E.2.1 dJ0_indexOf_7cf53_11 rfl (lv_at hl 1 rfl) ?_
  refine lv_iload_n E.1 E.2.1 dJ0_indexOf_7cf53_12 rfl (lv_at hl 2 rfl) ?_
  refine lv_aload_n E.1 E.2.1 dJ0_indexOf_7cf53_13 rfl (lv_at hl 0 rfl) ?_
  refine gs_VR (As := []) (rest := [.int 0, .int p0, .ref aV]) E hK (ws := []) (fun _ _ h => by simp at h) hZ hSz (c_J0_length_8abf5 l D cI cB aS aV A) (cwV 0 E.2.2.2.2 gJ0_indexOf_7cf53_J0_length_8abf5 rfl rfl rfl (by decide +kernel) ⟨Nat.le_of_ble_eq_true rfl, Nat.le_of_ble_eq_true rfl⟩) (zo) rfl hl.1 rfl (Nat.le_of_ble_eq_true rfl) dJ0_indexOf_7cf53_14 ⟨Nat.zero_le _, Nat.zero_le _⟩ ?_
  refine lv_topi (fun y_1 ey_1 => ?_)
  obtain rfl : y_1 = 5 := ey_1.trans (by decide)
  refine gs_SR (As := [.ref aV, .int p0, .int 0, .int 5]) (rest := []) E hK (fun _ _ h => by simp at h) hZ hSz (c_J1_indexOf_4cfef l D cI cB aS aV A p0) (va_cwS 4 E.2.2.2.2 gJ0_indexOf_7cf53_J1_indexOf_4cfef rfl rfl rfl (by decide +kernel) ⟨Nat.le_of_ble_eq_true rfl, Nat.le_of_ble_eq_true rfl⟩) rfl hl.1 rfl (Nat.le_of_ble_eq_true rfl) dJ0_indexOf_7cf53_17 ⟨Nat.zero_le _, Nat.zero_le _⟩ ?_
  refine lv_goto (tgt := 36) E.1 E.2.1 dJ0_indexOf_7cf53_20 (by decide) ?_
  exact W.iret (v := FJ1_indexOf_4cfef p0) E.1 E.2.1 hr (fun t ht _ => ⟨congrArg (fun z : Int32 => Outcome.returned (some (Value.int z))) (show FJ1_indexOf_4cfef p0 = FJ0_indexOf_7cf53 p0 from by rw [FJ0_indexOf_7cf53]), ht⟩) (fun q hq => by cases hq) dJ0_indexOf_7cf53_36
def FJ0_indexOf_0f7a4 (p0 : Int32) : Int32 := FJ0_indexOf_7cf53 p0
set_option maxHeartbeats 4000000 in
set_option maxRecDepth 100000 in
/-- indexOf -/
theorem c_J0_indexOf_0f7a4 (l : Launch) (D : va_G) (cI cB : ClassId)  (aS aV : Nat) (A : Nat → Prop) (p0 : Int32) : Met l yJ0_indexOf_0f7a4 wsJ0_indexOf_0f7a4 ({ frames := 3, cells := 0, slots := 0, locals := 70 }) (GPs D cI cB aS aV A ([]) [.ref aS, .int p0]) (QcRead (FJ0_indexOf_0f7a4 p0)) 0 0 (fun _ => False) := by
  refine Met.ofW (cc := cJ0_indexOf_0f7a4) (maxL := 2) (ret := (some .int)) (by decide) rfl ?_
  intro p e s m args below meth cd s₁ B hml hv
  obtain ⟨rfl, hP, hK, hZ⟩ := hv
  have hSz : va_S A s.heap s.heap [] := va_S.rf
  have hz0 := hZ.2.1.1 0 (by decide)
  have zc : va_OF "java/lang/String" "coder" "B" (.int 0) aS A s s.heap := hz0.2.1
  have zv : va_OF "java/lang/String" "value" "[B" (.ref aV) aS A s s.heap := hz0.2.2.1
  have zt : va_T .byte aV 5 (fun j => .int (([115, 121, 103, 98, 116] : List Int32).getD j 0)) A s s.heap := hz0.2.2.2
  have zo : ∃ cell : Cell, s.heap[aS]? = some cell ∧ cell.vm.isStatics = false ∧ s.vm.findClass RJ0 = some cell.cls := vk_recv hZ.2.1 (i := 0) (by decide) hSz
  have hts := atoms_spec (ws := wsJ0_indexOf_0f7a4) B.pre
  have E : CallFix p m cd cJ0_indexOf_0f7a4 2 s _ wsJ0_indexOf_0f7a4 RJ0 := ⟨B.exec, B.bytes, hml, findClass_of_methodNamed B.named, hts⟩
  have hr := B.returns
  have hlocks := B.notSynchronized
  have hl := lv_entry ([.ref aS, .int p0]) (n := 2) (Nat.le_of_ble_eq_true rfl)
  rw [lg_entry_eq]
  generalize (lg_sl ([.ref aS, .int p0]) ++ List.replicate (2 - (lg_sl ([.ref aS, .int p0])).length) Slot.unset).toArray = ls at hl ⊢
  have hl : lv_has ls 2 [(0, .ref aS), (1, .int p0)] := hl
  refine lv_aload_n E.1 E.2.1 dJ0_indexOf_0f7a4_0 rfl (lv_at hl 0 rfl) ?_
  refine lv_iload_n E.1 E.2.1 dJ0_indexOf_0f7a4_1 rfl (lv_at hl 1 rfl) ?_
  refine lv_iconst (v := 0) E.1 E.2.1 dJ0_indexOf_0f7a4_2 (by decide) ?_
  refine gs_VR (As := [.int p0, .int 0]) (rest := []) E hK (ws := []) (fun _ _ h => by simp at h) hZ hSz (c_J0_indexOf_7cf53 l D cI cB aS aV A p0) (cwV 2 E.2.2.2.2 gJ0_indexOf_0f7a4_J0_indexOf_7cf53 rfl rfl rfl (by decide +kernel) ⟨Nat.le_of_ble_eq_true rfl, Nat.le_of_ble_eq_true rfl⟩) (zo) rfl hl.1 rfl (Nat.le_of_ble_eq_true rfl) dJ0_indexOf_0f7a4_3 ⟨Nat.zero_le _, Nat.zero_le _⟩ ?_
  exact W.iret (v := FJ0_indexOf_7cf53 p0) E.1 E.2.1 hr (fun t ht _ => ⟨congrArg (fun z : Int32 => Outcome.returned (some (Value.int z))) (show FJ0_indexOf_7cf53 p0 = FJ0_indexOf_0f7a4 p0 from by rw [FJ0_indexOf_0f7a4]), ht⟩) (fun q hq => by cases hq) dJ0_indexOf_0f7a4_6
def FX0_kindAt (f : Nat → Int32) (a : Nat → Nat → Int32) (ta : Nat → Nat → Int32) (n : Nat) (z : Nat) (c : Nat) (p0 : Int32) : Int32 := FJ0_indexOf_0f7a4 (((FX0_codeAt f a ta n z c p0).toUInt32 % 65536).toInt32)
set_option maxHeartbeats 4000000 in
set_option maxRecDepth 100000 in
/-- the kind at a place -/
theorem c_X0_kindAt (l : Launch) (D : va_G) (cI cB : ClassId) (ad : Nat → Nat) (f : Nat → Int32) (a ta : Nat → Nat → Int32) (n z c : Nat) (hX : IX n z c f) (aS aV : Nat) (A : Nat → Prop) (p0 : Int32) : Met l yX0_kindAt wsX0_kindAt ({ frames := 4, cells := 0, slots := 0, locals := 91 }) (GPs D cI cB aS aV A (wX cI ad f a ta) [.ref (ad 1), .int p0]) (QcRead (FX0_kindAt f a ta n z c p0)) 0 0 (fun _ => False) := by
  refine Met.ofW (cc := cX0_kindAt) (maxL := 2) (ret := (some .int)) (by decide) rfl ?_
  intro p e s m args below meth cd s₁ B hml hv
  obtain ⟨rfl, hP, hK, hZ⟩ := hv
  have hSz : va_S A s.heap s.heap [] := va_S.rf
  have hz0 := hZ.2.1.1 0 (by decide)
  have zc : va_OF "java/lang/String" "coder" "B" (.int 0) aS A s s.heap := hz0.2.1
  have zv : va_OF "java/lang/String" "value" "[B" (.ref aV) aS A s s.heap := hz0.2.2.1
  have zt : va_T .byte aV 5 (fun j => .int (([115, 121, 103, 98, 116] : List Int32).getD j 0)) A s s.heap := hz0.2.2.2
  have zo : ∃ cell : Cell, s.heap[aS]? = some cell ∧ cell.vm.isStatics = false ∧ s.vm.findClass RJ0 = some cell.cls := vk_recv hZ.2.1 (i := 0) (by decide) hSz
  have hts := atoms_spec (ws := wsX0_kindAt) B.pre
  have E : CallFix p m cd cX0_kindAt 2 s _ wsX0_kindAt RX0 := ⟨B.exec, B.bytes, hml, findClass_of_methodNamed B.named, hts⟩
  have hr := B.returns
  have hlocks := B.notSynchronized
  have h2n := pow6 (n := n) (by have := hX.2.1; omega)
  obtain ⟨hn, hn6, hz, hz21, hc, hc6⟩ := id hX
  have hl := lv_entry ([.ref (ad 1), .int p0]) (n := 2) (Nat.le_of_ble_eq_true rfl)
  rw [lg_entry_eq]
  generalize (lg_sl ([.ref (ad 1), .int p0]) ++ List.replicate (2 - (lg_sl ([.ref (ad 1), .int p0])).length) Slot.unset).toArray = ls at hl ⊢
  have hl : lv_has ls 2 [(0, .ref (ad 1)), (1, .int p0)] := hl
  refine va_ldcS E.1 E.2.1 E.2.2.2.1 hZ.1 dX0_kindAt_0 ?_
  refine lv_aload_n E.1 E.2.1 dX0_kindAt_2 rfl (lv_at hl 0 rfl) ?_
  refine lv_iload_n E.1 E.2.1 dX0_kindAt_3 rfl (lv_at hl 1 rfl) ?_
  refine g_VR (As := [.int p0]) (rest := [.ref aS]) E hK hP (c_X0_codeAt l D cI cB ad f a ta n z c hX p0) (cwV 1 E.2.2.2.2 gX0_kindAt_X0_codeAt rfl rfl rfl (by decide +kernel) ⟨Nat.le_of_ble_eq_true rfl, Nat.le_of_ble_eq_true rfl⟩) (rxp hK hP) rfl hl.1 rfl (Nat.le_of_ble_eq_true rfl) dX0_kindAt_4 ⟨Nat.zero_le _, Nat.zero_le _⟩ ?_
  refine lv_i2c E.1 E.2.1 dX0_kindAt_7 rfl ?_
  refine gs_VR (As := [.int (((FX0_codeAt f a ta n z c p0).toUInt32 % 65536).toInt32)]) (rest := []) E hK (ws := []) (fun _ _ h => by simp at h) hZ hSz (c_J0_indexOf_0f7a4 l D cI cB aS aV A (((FX0_codeAt f a ta n z c p0).toUInt32 % 65536).toInt32)) (cwV 1 E.2.2.2.2 gX0_kindAt_J0_indexOf_0f7a4 rfl rfl rfl (by decide +kernel) ⟨Nat.le_of_ble_eq_true rfl, Nat.le_of_ble_eq_true rfl⟩) (zo) rfl hl.1 rfl (Nat.le_of_ble_eq_true rfl) dX0_kindAt_8 ⟨Nat.zero_le _, Nat.zero_le _⟩ ?_
  exact W.iret (v := FJ0_indexOf_0f7a4 (((FX0_codeAt f a ta n z c p0).toUInt32 % 65536).toInt32)) E.1 E.2.1 hr (fun t ht _ => ⟨congrArg (fun z : Int32 => Outcome.returned (some (Value.int z))) (show FJ0_indexOf_0f7a4 (((FX0_codeAt f a ta n z c p0).toUInt32 % 65536).toInt32) = FX0_kindAt f a ta n z c p0 from by rw [FX0_kindAt]), ht⟩) (fun q hq => by cases hq) dX0_kindAt_11
def FX0_digitAt (f : Nat → Int32) (a : Nat → Nat → Int32) (ta : Nat → Nat → Int32) (n : Nat) (z : Nat) (c : Nat) (p0 : Int32) : Int32 := (FX0_codeAt f a ta n z c p0) - 48
set_option maxHeartbeats 4000000 in
set_option maxRecDepth 100000 in
/-- the figure at a place -/
theorem c_X0_digitAt (l : Launch) (D : va_G) (cI cB : ClassId) (ad : Nat → Nat) (f : Nat → Int32) (a ta : Nat → Nat → Int32) (n z c : Nat) (hX : IX n z c f) (p0 : Int32) : Met l yX0_digitAt wsX0_digitAt ({ frames := 1, cells := 0, slots := 0, locals := 21 }) (GPc D cI cB (wX cI ad f a ta) [.ref (ad 1), .int p0]) (QcRead (FX0_digitAt f a ta n z c p0)) 0 0 (fun _ => False) := by
  refine Met.ofW (cc := cX0_digitAt) (maxL := 2) (ret := (some .int)) (by decide) rfl ?_
  intro p e s m args below meth cd s₁ B hml hv
  obtain ⟨rfl, hP, hK⟩ := hv
  have hts := atoms_spec (ws := wsX0_digitAt) B.pre
  have E : CallFix p m cd cX0_digitAt 2 s _ wsX0_digitAt RX0 := ⟨B.exec, B.bytes, hml, findClass_of_methodNamed B.named, hts⟩
  have hr := B.returns
  have hlocks := B.notSynchronized
  have h2n := pow6 (n := n) (by have := hX.2.1; omega)
  obtain ⟨hn, hn6, hz, hz21, hc, hc6⟩ := id hX
  have hl := lv_entry ([.ref (ad 1), .int p0]) (n := 2) (Nat.le_of_ble_eq_true rfl)
  rw [lg_entry_eq]
  generalize (lg_sl ([.ref (ad 1), .int p0]) ++ List.replicate (2 - (lg_sl ([.ref (ad 1), .int p0])).length) Slot.unset).toArray = ls at hl ⊢
  have hl : lv_has ls 2 [(0, .ref (ad 1)), (1, .int p0)] := hl
  refine lv_aload_n E.1 E.2.1 dX0_digitAt_0 rfl (lv_at hl 0 rfl) ?_
  refine lv_iload_n E.1 E.2.1 dX0_digitAt_1 rfl (lv_at hl 1 rfl) ?_
  refine g_VR (As := [.int p0]) (rest := []) E hK hP (c_X0_codeAt l D cI cB ad f a ta n z c hX p0) (cwV 1 E.2.2.2.2 gX0_digitAt_X0_codeAt rfl rfl rfl (by decide +kernel) ⟨Nat.le_of_ble_eq_true rfl, Nat.le_of_ble_eq_true rfl⟩) (rxp hK hP) rfl hl.1 rfl (Nat.le_of_ble_eq_true rfl) dX0_digitAt_2 ⟨Nat.zero_le _, Nat.zero_le _⟩ ?_
  refine lv_bipush (v := 48) E.1 E.2.1 dX0_digitAt_5 (by decide) ?_
  refine lv_isub (x := FX0_codeAt f a ta n z c p0) (y := 48) E.1 E.2.1 dX0_digitAt_7 ?_
  exact W.iret (v := (FX0_codeAt f a ta n z c p0) - 48) E.1 E.2.1 hr (fun t ht _ => ⟨congrArg (fun z : Int32 => Outcome.returned (some (Value.int z))) (show (FX0_codeAt f a ta n z c p0) - 48 = FX0_digitAt f a ta n z c p0 from by rw [FX0_digitAt]), ht⟩) (fun q hq => by cases hq) dX0_digitAt_8
theorem nar_bX {x : Int32} (h : x = 0 ∨ x = 1) : narrow .boolean (.int x) = .int x := by
  rcases h with rfl | rfl <;> rfl
theorem within_bX (x lo hi : Int32) : FX2_isWithin x lo hi = 0 ∨ FX2_isWithin x lo hi = 1 := by
  rw [FX2_isWithin]
  by_cases h1 : x < lo
  · rw [if_pos h1]; exact Or.inl rfl
  · rw [if_neg h1]
    by_cases h2 : hi < x
    · rw [if_pos h2]; exact Or.inl rfl
    · rw [if_neg h2]; exact Or.inr rfl

def FX0_isDigitFrom (f : Nat → Int32) (a : Nat → Nat → Int32) (ta : Nat → Nat → Int32) (n : Nat) (z : Nat) (c : Nat) (p0 : Int32) (p1 : Int32) : Int32 := FX2_isWithin (FX0_codeAt f a ta n z c p1) p0 57
set_option maxHeartbeats 4000000 in
set_option maxRecDepth 100000 in
/-- is it a figure from so much -/
theorem c_X0_isDigitFrom (l : Launch) (D : va_G) (cI cB : ClassId) (ad : Nat → Nat) (f : Nat → Int32) (a ta : Nat → Nat → Int32) (n z c : Nat) (hX : IX n z c f) (aS aV : Nat) (A : Nat → Prop) (p0 : Int32) (p1 : Int32) : Met l yX0_isDigitFrom wsX0_isDigitFrom ({ frames := 1, cells := 0, slots := 0, locals := 22 }) (GPs D cI cB aS aV A (wX cI ad f a ta) [.ref (ad 1), .int p0, .int p1]) (QcRead (FX0_isDigitFrom f a ta n z c p0 p1)) 0 0 (fun _ => False) := by
  refine Met.ofW (cc := cX0_isDigitFrom) (maxL := 3) (ret := (some .boolean)) (by decide) rfl ?_
  intro p e s m args below meth cd s₁ B hml hv
  obtain ⟨rfl, hP, hK, hZ⟩ := hv
  have hSz : va_S A s.heap s.heap [] := va_S.rf
  have hz0 := hZ.2.1.1 0 (by decide)
  have zc : va_OF "java/lang/String" "coder" "B" (.int 0) aS A s s.heap := hz0.2.1
  have zv : va_OF "java/lang/String" "value" "[B" (.ref aV) aS A s s.heap := hz0.2.2.1
  have zt : va_T .byte aV 5 (fun j => .int (([115, 121, 103, 98, 116] : List Int32).getD j 0)) A s s.heap := hz0.2.2.2
  have zo : ∃ cell : Cell, s.heap[aS]? = some cell ∧ cell.vm.isStatics = false ∧ s.vm.findClass RJ0 = some cell.cls := vk_recv hZ.2.1 (i := 0) (by decide) hSz
  have hts := atoms_spec (ws := wsX0_isDigitFrom) B.pre
  have E : CallFix p m cd cX0_isDigitFrom 3 s _ wsX0_isDigitFrom RX0 := ⟨B.exec, B.bytes, hml, findClass_of_methodNamed B.named, hts⟩
  have hr := B.returns
  have hlocks := B.notSynchronized
  have h2n := pow6 (n := n) (by have := hX.2.1; omega)
  obtain ⟨hn, hn6, hz, hz21, hc, hc6⟩ := id hX
  have w_0 : (Cond.initialized RX2).before _ s = true := hts _ (by decide +kernel)
  have w_1 : (Cond.static yX2_isWithin).before _ s = true := hts _ (by decide +kernel)
  have hl := lv_entry ([.ref (ad 1), .int p0, .int p1]) (n := 3) (Nat.le_of_ble_eq_true rfl)
  rw [lg_entry_eq]
  generalize (lg_sl ([.ref (ad 1), .int p0, .int p1]) ++ List.replicate (3 - (lg_sl ([.ref (ad 1), .int p0, .int p1])).length) Slot.unset).toArray = ls at hl ⊢
  have hl : lv_has ls 3 [(0, .ref (ad 1)), (1, .int p0), (2, .int p1)] := hl
  refine lv_aload_n E.1 E.2.1 dX0_isDigitFrom_0 rfl (lv_at hl 0 rfl) ?_
  refine lv_iload_n E.1 E.2.1 dX0_isDigitFrom_1 rfl (lv_at hl 2 rfl) ?_
  refine g_VR (As := [.int p1]) (rest := []) E hK hP (c_X0_codeAt l D cI cB ad f a ta n z c hX p1) (cwV 1 E.2.2.2.2 gX0_isDigitFrom_X0_codeAt rfl rfl rfl (by decide +kernel) ⟨Nat.le_of_ble_eq_true rfl, Nat.le_of_ble_eq_true rfl⟩) (rxp hK hP) rfl hl.1 rfl (Nat.le_of_ble_eq_true rfl) dX0_isDigitFrom_2 ⟨Nat.zero_le _, Nat.zero_le _⟩ ?_
  refine lv_iload_n E.1 E.2.1 dX0_isDigitFrom_5 rfl (lv_at hl 1 rfl) ?_
  refine lv_bipush (v := 57) E.1 E.2.1 dX0_isDigitFrom_6 (by decide) ?_
  refine g_NR (As := [.int (FX0_codeAt f a ta n z c p1), .int p0, .int 57]) (rest := []) E hK (c_X2_isWithin l D cI cB (FX0_codeAt f a ta n z c p1) p0 57) ⟨va_cnB 3 E.2.2.2.2 gX0_isDigitFrom_X2_isWithin_n45 rfl rfl rfl hZ.2.2.2 w_0 (by decide +kernel) ⟨Nat.le_of_ble_eq_true rfl, Nat.le_of_ble_eq_true rfl⟩, w_1, trivial⟩ rfl hl.1 rfl (Nat.le_of_ble_eq_true rfl) dX0_isDigitFrom_8 ⟨Nat.zero_le _, Nat.zero_le _⟩ ?_
  exact W.zret (v := FX2_isWithin (FX0_codeAt f a ta n z c p1) p0 57) E.1 E.2.1 hr (nar_bX (within_bX _ _ _)) (fun t ht _ => ⟨congrArg (fun z : Int32 => Outcome.returned (some (Value.int z))) (show FX2_isWithin (FX0_codeAt f a ta n z c p1) p0 57 = FX0_isDigitFrom f a ta n z c p0 p1 from by rw [FX0_isDigitFrom]), ht⟩) (fun q hq => by cases hq) dX0_isDigitFrom_11
theorem isDigit_b (f : Nat → Int32) (a ta : Nat → Nat → Int32) (n z c : Nat) (x y : Int32) : FX0_isDigitFrom f a ta n z c x y = 0 ∨ FX0_isDigitFrom f a ta n z c x y = 1 := by
  rw [FX0_isDigitFrom]
  exact within_bX _ _ _

def FX0_fitsBehindSites (f : Nat → Int32) (a : Nat → Nat → Int32) (ta : Nat → Nat → Int32) (n : Nat) (z : Nat) (c : Nat) (p0 : Int32) (p1 : Int32) : Int32 := (if FX0_codeAt f a ta n z c p0 = 44 then (if p1 < 6 then 1 else (if FX0_codeAt f a ta n z c p0 = 59 then (if p1 < 2 then 0 else 1) else 0)) else (if FX0_codeAt f a ta n z c p0 = 59 then (if p1 < 2 then 0 else 1) else 0))
set_option maxHeartbeats 4000000 in
set_option maxRecDepth 100000 in
/-- fits behind sites -/
theorem c_X0_fitsBehindSites (l : Launch) (D : va_G) (cI cB : ClassId) (ad : Nat → Nat) (f : Nat → Int32) (a ta : Nat → Nat → Int32) (n z c : Nat) (hX : IX n z c f) (p0 : Int32) (p1 : Int32) : Met l yX0_fitsBehindSites wsX0_fitsBehindSites ({ frames := 1, cells := 0, slots := 0, locals := 21 }) (GPc D cI cB (wX cI ad f a ta) [.ref (ad 1), .int p0, .int p1]) (QcRead (FX0_fitsBehindSites f a ta n z c p0 p1)) 0 0 (fun _ => False) := by
  refine Met.ofW (cc := cX0_fitsBehindSites) (maxL := 4) (ret := (some .boolean)) (by decide) rfl ?_
  intro p e s m args below meth cd s₁ B hml hv
  obtain ⟨rfl, hP, hK⟩ := hv
  have hts := atoms_spec (ws := wsX0_fitsBehindSites) B.pre
  have E : CallFix p m cd cX0_fitsBehindSites 4 s _ wsX0_fitsBehindSites RX0 := ⟨B.exec, B.bytes, hml, findClass_of_methodNamed B.named, hts⟩
  have hr := B.returns
  have hlocks := B.notSynchronized
  have h2n := pow6 (n := n) (by have := hX.2.1; omega)
  obtain ⟨hn, hn6, hz, hz21, hc, hc6⟩ := id hX
  have hl := lv_entry ([.ref (ad 1), .int p0, .int p1]) (n := 4) (Nat.le_of_ble_eq_true rfl)
  rw [lg_entry_eq]
  generalize (lg_sl ([.ref (ad 1), .int p0, .int p1]) ++ List.replicate (4 - (lg_sl ([.ref (ad 1), .int p0, .int p1])).length) Slot.unset).toArray = ls at hl ⊢
  have hl : lv_has ls 4 [(0, .ref (ad 1)), (1, .int p0), (2, .int p1)] := hl
  refine lv_aload_n E.1 E.2.1 dX0_fitsBehindSites_0 rfl (lv_at hl 0 rfl) ?_
  refine lv_iload_n E.1 E.2.1 dX0_fitsBehindSites_1 rfl (lv_at hl 1 rfl) ?_
  refine g_VR (As := [.int p0]) (rest := []) E hK hP (c_X0_codeAt l D cI cB ad f a ta n z c hX p0) (cwV 1 E.2.2.2.2 gX0_fitsBehindSites_X0_codeAt rfl rfl rfl (by decide +kernel) ⟨Nat.le_of_ble_eq_true rfl, Nat.le_of_ble_eq_true rfl⟩) (rxp hK hP) rfl hl.1 rfl (Nat.le_of_ble_eq_true rfl) dX0_fitsBehindSites_2 ⟨Nat.zero_le _, Nat.zero_le _⟩ ?_
  refine lv_istore_n (lv' := [(3, .int (FX0_codeAt f a ta n z c p0)), (0, .ref (ad 1)), (1, .int p0), (2, .int p1)]) E.1 E.2.1 dX0_fitsBehindSites_5 rfl hl (by decide) rfl (fun ls hl => ?_)
  refine lv_iload_n E.1 E.2.1 dX0_fitsBehindSites_6 rfl (lv_at hl 0 rfl) ?_
  refine lv_bipush (v := 44) E.1 E.2.1 dX0_fitsBehindSites_7 (by decide) ?_
  refine lv_icmp_ne (x := FX0_codeAt f a ta n z c p0) (y := 44) (tgt := 18) E.1 E.2.1 dX0_fitsBehindSites_9 (by decide) (fun h9 => ?_) (fun h9 => ?_)
  · have h9 := h9
    refine lv_iload_n E.1 E.2.1 dX0_fitsBehindSites_18 rfl (lv_at hl 0 rfl) ?_
    refine lv_bipush (v := 59) E.1 E.2.1 dX0_fitsBehindSites_19 (by decide) ?_
    refine lv_icmp_ne (x := FX0_codeAt f a ta n z c p0) (y := 59) (tgt := 33) E.1 E.2.1 dX0_fitsBehindSites_21 (by decide) (fun h21 => ?_) (fun h21 => ?_)
    · have h21 := h21
      refine lv_iconst (v := 0) E.1 E.2.1 dX0_fitsBehindSites_33 (by decide) ?_
      exact W.zret (v := 0) E.1 E.2.1 hr rfl (fun t ht _ => ⟨congrArg (fun z : Int32 => Outcome.returned (some (Value.int z))) (show 0 = FX0_fitsBehindSites f a ta n z c p0 p1 from by rw [FX0_fitsBehindSites, if_neg h9, if_neg h21]), ht⟩) (fun q hq => by cases hq) dX0_fitsBehindSites_34
    · have h21 := h21
      refine lv_iload_n E.1 E.2.1 dX0_fitsBehindSites_24 rfl (lv_at hl 3 rfl) ?_
      refine lv_iconst (v := 2) E.1 E.2.1 dX0_fitsBehindSites_25 (by decide) ?_
      refine lv_icmp_lt (x := p1) (y := 2) (tgt := 33) E.1 E.2.1 dX0_fitsBehindSites_26 (by decide) (fun h26 => ?_) (fun h26 => ?_)
      · have h26 := h26
        refine lv_iconst (v := 0) E.1 E.2.1 dX0_fitsBehindSites_33 (by decide) ?_
        exact W.zret (v := 0) E.1 E.2.1 hr rfl (fun t ht _ => ⟨congrArg (fun z : Int32 => Outcome.returned (some (Value.int z))) (show 0 = FX0_fitsBehindSites f a ta n z c p0 p1 from by rw [FX0_fitsBehindSites, if_neg h9, if_pos h21, if_pos h26]), ht⟩) (fun q hq => by cases hq) dX0_fitsBehindSites_34
      · have h26 := h26
        refine lv_iconst (v := 1) E.1 E.2.1 dX0_fitsBehindSites_29 (by decide) ?_
        refine lv_goto (tgt := 34) E.1 E.2.1 dX0_fitsBehindSites_30 (by decide) ?_
        exact W.zret (v := 1) E.1 E.2.1 hr rfl (fun t ht _ => ⟨congrArg (fun z : Int32 => Outcome.returned (some (Value.int z))) (show 1 = FX0_fitsBehindSites f a ta n z c p0 p1 from by rw [FX0_fitsBehindSites, if_neg h9, if_pos h21, if_neg h26]), ht⟩) (fun q hq => by cases hq) dX0_fitsBehindSites_34
  · have h9 := h9
    refine lv_iload_n E.1 E.2.1 dX0_fitsBehindSites_12 rfl (lv_at hl 3 rfl) ?_
    refine lv_bipush (v := 6) E.1 E.2.1 dX0_fitsBehindSites_13 (by decide) ?_
    refine lv_icmp_lt (x := p1) (y := 6) (tgt := 29) E.1 E.2.1 dX0_fitsBehindSites_15 (by decide) (fun h15 => ?_) (fun h15 => ?_)
    · have h15 := h15
      refine lv_iconst (v := 1) E.1 E.2.1 dX0_fitsBehindSites_29 (by decide) ?_
      refine lv_goto (tgt := 34) E.1 E.2.1 dX0_fitsBehindSites_30 (by decide) ?_
      exact W.zret (v := 1) E.1 E.2.1 hr rfl (fun t ht _ => ⟨congrArg (fun z : Int32 => Outcome.returned (some (Value.int z))) (show 1 = FX0_fitsBehindSites f a ta n z c p0 p1 from by rw [FX0_fitsBehindSites, if_pos h9, if_pos h15]), ht⟩) (fun q hq => by cases hq) dX0_fitsBehindSites_34
    · have h15 := h15
      refine lv_iload_n E.1 E.2.1 dX0_fitsBehindSites_18 rfl (lv_at hl 0 rfl) ?_
      refine lv_bipush (v := 59) E.1 E.2.1 dX0_fitsBehindSites_19 (by decide) ?_
      refine lv_icmp_ne (x := FX0_codeAt f a ta n z c p0) (y := 59) (tgt := 33) E.1 E.2.1 dX0_fitsBehindSites_21 (by decide) (fun h21 => ?_) (fun h21 => ?_)
      · have h21 := h21
        refine lv_iconst (v := 0) E.1 E.2.1 dX0_fitsBehindSites_33 (by decide) ?_
        exact W.zret (v := 0) E.1 E.2.1 hr rfl (fun t ht _ => ⟨congrArg (fun z : Int32 => Outcome.returned (some (Value.int z))) (show 0 = FX0_fitsBehindSites f a ta n z c p0 p1 from by rw [FX0_fitsBehindSites, if_pos h9, if_neg h15, if_neg h21]), ht⟩) (fun q hq => by cases hq) dX0_fitsBehindSites_34
      · have h21 := h21
        refine lv_iload_n E.1 E.2.1 dX0_fitsBehindSites_24 rfl (lv_at hl 3 rfl) ?_
        refine lv_iconst (v := 2) E.1 E.2.1 dX0_fitsBehindSites_25 (by decide) ?_
        refine lv_icmp_lt (x := p1) (y := 2) (tgt := 33) E.1 E.2.1 dX0_fitsBehindSites_26 (by decide) (fun h26 => ?_) (fun h26 => ?_)
        · have h26 := h26
          refine lv_iconst (v := 0) E.1 E.2.1 dX0_fitsBehindSites_33 (by decide) ?_
          exact W.zret (v := 0) E.1 E.2.1 hr rfl (fun t ht _ => ⟨congrArg (fun z : Int32 => Outcome.returned (some (Value.int z))) (show 0 = FX0_fitsBehindSites f a ta n z c p0 p1 from by rw [FX0_fitsBehindSites, if_pos h9, if_neg h15, if_pos h21, if_pos h26]), ht⟩) (fun q hq => by cases hq) dX0_fitsBehindSites_34
        · have h26 := h26
          refine lv_iconst (v := 1) E.1 E.2.1 dX0_fitsBehindSites_29 (by decide) ?_
          refine lv_goto (tgt := 34) E.1 E.2.1 dX0_fitsBehindSites_30 (by decide) ?_
          exact W.zret (v := 1) E.1 E.2.1 hr rfl (fun t ht _ => ⟨congrArg (fun z : Int32 => Outcome.returned (some (Value.int z))) (show 1 = FX0_fitsBehindSites f a ta n z c p0 p1 from by rw [FX0_fitsBehindSites, if_pos h9, if_neg h15, if_pos h21, if_neg h26]), ht⟩) (fun q hq => by cases hq) dX0_fitsBehindSites_34
theorem behind_b (f : Nat → Int32) (a ta : Nat → Nat → Int32) (n z c : Nat) (x y : Int32) : FX0_fitsBehindSites f a ta n z c x y = 0 ∨ FX0_fitsBehindSites f a ta n z c x y = 1 := by
  unfold FX0_fitsBehindSites
  repeat' split
  all_goals first | exact Or.inl rfl | exact Or.inr rfl

def FX0_fitsAmongSites (f : Nat → Int32) (a : Nat → Nat → Int32) (ta : Nat → Nat → Int32) (n : Nat) (z : Nat) (c : Nat) (p0 : Int32) : Int32 := (if p0 - p0 / 3 * 3 = 0 then (if FX0_kindAt f a ta n z c p0 < 0 then 0 else 1) else (if p0 - p0 / 3 * 3 = 1 then FX0_isDigitFrom f a ta n z c 49 p0 else FX0_fitsBehindSites f a ta n z c p0 ((p0 / 3) + 1)))
set_option maxHeartbeats 4000000 in
set_option maxRecDepth 100000 in
/-- fits among sites -/
theorem c_X0_fitsAmongSites (l : Launch) (D : va_G) (cI cB : ClassId) (ad : Nat → Nat) (f : Nat → Int32) (a ta : Nat → Nat → Int32) (n z c : Nat) (hX : IX n z c f) (aS aV : Nat) (A : Nat → Prop) (p0 : Int32) : Met l yX0_fitsAmongSites wsX0_fitsAmongSites ({ frames := 5, cells := 0, slots := 0, locals := 112 }) (GPs D cI cB aS aV A (wX cI ad f a ta) [.ref (ad 1), .int p0]) (QcRead (FX0_fitsAmongSites f a ta n z c p0)) 0 0 (fun _ => False) := by
  refine Met.ofW (cc := cX0_fitsAmongSites) (maxL := 2) (ret := (some .boolean)) (by decide) rfl ?_
  intro p e s m args below meth cd s₁ B hml hv
  obtain ⟨rfl, hP, hK, hZ⟩ := hv
  have hSz : va_S A s.heap s.heap [] := va_S.rf
  have hz0 := hZ.2.1.1 0 (by decide)
  have zc : va_OF "java/lang/String" "coder" "B" (.int 0) aS A s s.heap := hz0.2.1
  have zv : va_OF "java/lang/String" "value" "[B" (.ref aV) aS A s s.heap := hz0.2.2.1
  have zt : va_T .byte aV 5 (fun j => .int (([115, 121, 103, 98, 116] : List Int32).getD j 0)) A s s.heap := hz0.2.2.2
  have zo : ∃ cell : Cell, s.heap[aS]? = some cell ∧ cell.vm.isStatics = false ∧ s.vm.findClass RJ0 = some cell.cls := vk_recv hZ.2.1 (i := 0) (by decide) hSz
  have hts := atoms_spec (ws := wsX0_fitsAmongSites) B.pre
  have E : CallFix p m cd cX0_fitsAmongSites 2 s _ wsX0_fitsAmongSites RX0 := ⟨B.exec, B.bytes, hml, findClass_of_methodNamed B.named, hts⟩
  have hr := B.returns
  have hlocks := B.notSynchronized
  have h2n := pow6 (n := n) (by have := hX.2.1; omega)
  obtain ⟨hn, hn6, hz, hz21, hc, hc6⟩ := id hX
  have hl := lv_entry ([.ref (ad 1), .int p0]) (n := 2) (Nat.le_of_ble_eq_true rfl)
  rw [lg_entry_eq]
  generalize (lg_sl ([.ref (ad 1), .int p0]) ++ List.replicate (2 - (lg_sl ([.ref (ad 1), .int p0])).length) Slot.unset).toArray = ls at hl ⊢
  have hl : lv_has ls 2 [(0, .ref (ad 1)), (1, .int p0)] := hl
  refine lv_iload_n E.1 E.2.1 dX0_fitsAmongSites_0 rfl (lv_at hl 1 rfl) ?_
  refine lv_iconst (v := 3) E.1 E.2.1 dX0_fitsAmongSites_1 (by decide) ?_
  refine lv_irem (x := p0) (y := 3) E.1 E.2.1 dX0_fitsAmongSites_2 (by decide) ?_
  by_cases hs3_0 : p0 - p0 / 3 * 3 = 0
  · have hs3_0 := hs3_0
    refine lv_topi (fun y9 ey9 => ?_)
    obtain rfl : y9 = 0 := ey9.trans hs3_0
    refine lv_lookup (x := 0) (tgt := 28) E.1 E.2.1 dX0_fitsAmongSites_3 (by decide) rfl (by decide) ?_
    refine lv_aload_n E.1 E.2.1 dX0_fitsAmongSites_28 rfl (lv_at hl 0 rfl) ?_
    refine lv_iload_n E.1 E.2.1 dX0_fitsAmongSites_29 rfl (lv_at hl 1 rfl) ?_
    refine gs_VR (As := [.int p0]) (rest := []) E hK hP hZ hSz (c_X0_kindAt l D cI cB ad f a ta n z c hX aS aV A p0) (cwV 1 E.2.2.2.2 gX0_fitsAmongSites_X0_kindAt rfl rfl rfl (by decide +kernel) ⟨Nat.le_of_ble_eq_true rfl, Nat.le_of_ble_eq_true rfl⟩) (rxp hK hP) rfl hl.1 rfl (Nat.le_of_ble_eq_true rfl) dX0_fitsAmongSites_30 ⟨Nat.zero_le _, Nat.zero_le _⟩ ?_
    refine lv_if_lt (x := FX0_kindAt f a ta n z c p0) (tgt := 40) E.1 E.2.1 dX0_fitsAmongSites_33 (by decide) (fun h33 => ?_) (fun h33 => ?_)
    · have h33 := h33
      refine lv_iconst (v := 0) E.1 E.2.1 dX0_fitsAmongSites_40 (by decide) ?_
      exact W.zret (v := 0) E.1 E.2.1 hr rfl (fun t ht _ => ⟨congrArg (fun z : Int32 => Outcome.returned (some (Value.int z))) (show 0 = FX0_fitsAmongSites f a ta n z c p0 from by rw [FX0_fitsAmongSites, if_pos hs3_0, if_pos h33]), ht⟩) (fun q hq => by cases hq) dX0_fitsAmongSites_41
    · have h33 := h33
      refine lv_iconst (v := 1) E.1 E.2.1 dX0_fitsAmongSites_36 (by decide) ?_
      refine lv_goto (tgt := 41) E.1 E.2.1 dX0_fitsAmongSites_37 (by decide) ?_
      exact W.zret (v := 1) E.1 E.2.1 hr rfl (fun t ht _ => ⟨congrArg (fun z : Int32 => Outcome.returned (some (Value.int z))) (show 1 = FX0_fitsAmongSites f a ta n z c p0 from by rw [FX0_fitsAmongSites, if_pos hs3_0, if_neg h33]), ht⟩) (fun q hq => by cases hq) dX0_fitsAmongSites_41
  · have hs3_0 := hs3_0
    by_cases hs3_1 : p0 - p0 / 3 * 3 = 1
    · have hs3_1 := hs3_1
      refine lv_topi (fun y9 ey9 => ?_)
      obtain rfl : y9 = 1 := ey9.trans hs3_1
      refine lv_lookup (x := 1) (tgt := 42) E.1 E.2.1 dX0_fitsAmongSites_3 (by decide) rfl (by decide) ?_
      refine lv_aload_n E.1 E.2.1 dX0_fitsAmongSites_42 rfl (lv_at hl 0 rfl) ?_
      refine lv_bipush (v := 49) E.1 E.2.1 dX0_fitsAmongSites_43 (by decide) ?_
      refine lv_iload_n E.1 E.2.1 dX0_fitsAmongSites_45 rfl (lv_at hl 1 rfl) ?_
      refine gs_VR (As := [.int 49, .int p0]) (rest := []) E hK hP hZ hSz (c_X0_isDigitFrom l D cI cB ad f a ta n z c hX aS aV A 49 p0) (cwV 2 E.2.2.2.2 gX0_fitsAmongSites_X0_isDigitFrom rfl rfl rfl (by decide +kernel) ⟨Nat.le_of_ble_eq_true rfl, Nat.le_of_ble_eq_true rfl⟩) (rxp hK hP) rfl hl.1 rfl (Nat.le_of_ble_eq_true rfl) dX0_fitsAmongSites_46 ⟨Nat.zero_le _, Nat.zero_le _⟩ ?_
      exact W.zret (v := FX0_isDigitFrom f a ta n z c 49 p0) E.1 E.2.1 hr (nar_bX (isDigit_b _ _ _ _ _ _ _ _)) (fun t ht _ => ⟨congrArg (fun z : Int32 => Outcome.returned (some (Value.int z))) (show FX0_isDigitFrom f a ta n z c 49 p0 = FX0_fitsAmongSites f a ta n z c p0 from by rw [FX0_fitsAmongSites, if_neg hs3_0, if_pos hs3_1]), ht⟩) (fun q hq => by cases hq) dX0_fitsAmongSites_49
    · have hs3_1 := hs3_1
      refine lv_lookup (x := p0 - p0 / 3 * 3) (off := 47) (tgt := 50) E.1 E.2.1 dX0_fitsAmongSites_3 (by decide) ((lv_osw hs3_0 (by decide)).trans ((lv_osw hs3_1 (by decide)).trans (rfl))) (by decide) ?_
      refine lv_aload_n E.1 E.2.1 dX0_fitsAmongSites_50 rfl (lv_at hl 0 rfl) ?_
      refine lv_iload_n E.1 E.2.1 dX0_fitsAmongSites_51 rfl (lv_at hl 1 rfl) ?_
      refine lv_iload_n E.1 E.2.1 dX0_fitsAmongSites_52 rfl (lv_at hl 1 rfl) ?_
      refine lv_iconst (v := 3) E.1 E.2.1 dX0_fitsAmongSites_53 (by decide) ?_
      refine lv_idiv (x := p0) (y := 3) E.1 E.2.1 dX0_fitsAmongSites_54 (by decide) ?_
      refine lv_iconst (v := 1) E.1 E.2.1 dX0_fitsAmongSites_55 (by decide) ?_
      refine lv_iadd (x := p0 / 3) (y := 1) E.1 E.2.1 dX0_fitsAmongSites_56 ?_
      refine g_VR (As := [.int p0, .int ((p0 / 3) + 1)]) (rest := []) E hK hP (c_X0_fitsBehindSites l D cI cB ad f a ta n z c hX p0 ((p0 / 3) + 1)) (cwV 2 E.2.2.2.2 gX0_fitsAmongSites_X0_fitsBehindSites rfl rfl rfl (by decide +kernel) ⟨Nat.le_of_ble_eq_true rfl, Nat.le_of_ble_eq_true rfl⟩) (rxp hK hP) rfl hl.1 rfl (Nat.le_of_ble_eq_true rfl) dX0_fitsAmongSites_57 ⟨Nat.zero_le _, Nat.zero_le _⟩ ?_
      exact W.zret (v := FX0_fitsBehindSites f a ta n z c p0 ((p0 / 3) + 1)) E.1 E.2.1 hr (nar_bX (behind_b _ _ _ _ _ _ _ _)) (fun t ht _ => ⟨congrArg (fun z : Int32 => Outcome.returned (some (Value.int z))) (show FX0_fitsBehindSites f a ta n z c p0 ((p0 / 3) + 1) = FX0_fitsAmongSites f a ta n z c p0 from by rw [FX0_fitsAmongSites, if_neg hs3_0, if_neg hs3_1]), ht⟩) (fun q hq => by cases hq) dX0_fitsAmongSites_60
def FX0_faultPlace_L4 (f : Nat → Int32) (a : Nat → Nat → Int32) (ta : Nat → Nat → Int32) (n : Nat) (z : Nat) (c : Nat) : Nat → Nat → Int32 → Int32
  | 0, k_2, x1_1 => nI z
  | d_1 + 1, k_2, x1_1 => (if x1_1 = (-1) then (if FX0_fitsAmongSites f a ta n z c (nI k_2) = 0 then nI k_2 else (if FX0_codeAt f a ta n z c (nI k_2) = 59 then FX0_faultPlace_L4 f a ta n z c d_1 (k_2 + 1) (nI k_2) else FX0_faultPlace_L4 f a ta n z c d_1 (k_2 + 1) x1_1)) else (if nI k_2 = x1_1 + 1 then (if FX0_isDigitFrom f a ta n z c 48 (nI k_2) = 0 then nI k_2 else (if FX0_codeAt f a ta n z c (nI k_2) = 59 then FX0_faultPlace_L4 f a ta n z c d_1 (k_2 + 1) (nI k_2) else FX0_faultPlace_L4 f a ta n z c d_1 (k_2 + 1) x1_1)) else nI k_2))
def FX0_faultPlace (f : Nat → Int32) (a : Nat → Nat → Int32) (ta : Nat → Nat → Int32) (n : Nat) (z : Nat) (c : Nat) : Int32 := FX0_faultPlace_L4 f a ta n z c z 0 (-1)
set_option maxHeartbeats 4000000 in
set_option maxRecDepth 100000 in
/-- where the fault is -/
theorem c_X0_faultPlace (l : Launch) (D : va_G) (cI cB : ClassId) (ad : Nat → Nat) (f : Nat → Int32) (a ta : Nat → Nat → Int32) (n z c : Nat) (hX : IX n z c f) (aS aV : Nat) (A : Nat → Prop)  : Met l yX0_faultPlace wsX0_faultPlace ({ frames := 6, cells := 0, slots := 0, locals := 133 }) (GPs D cI cB aS aV A (wX cI ad f a ta) [.ref (ad 1)]) (QcRead (FX0_faultPlace f a ta n z c)) 0 0 (fun _ => False) := by
  refine Met.ofW (cc := cX0_faultPlace) (maxL := 4) (ret := (some .int)) (by decide) rfl ?_
  intro p e s m args below meth cd s₁ B hml hv
  obtain ⟨rfl, hP, hK, hZ⟩ := hv
  have hSz : va_S A s.heap s.heap [] := va_S.rf
  have hz0 := hZ.2.1.1 0 (by decide)
  have zc : va_OF "java/lang/String" "coder" "B" (.int 0) aS A s s.heap := hz0.2.1
  have zv : va_OF "java/lang/String" "value" "[B" (.ref aV) aS A s s.heap := hz0.2.2.1
  have zt : va_T .byte aV 5 (fun j => .int (([115, 121, 103, 98, 116] : List Int32).getD j 0)) A s s.heap := hz0.2.2.2
  have zo : ∃ cell : Cell, s.heap[aS]? = some cell ∧ cell.vm.isStatics = false ∧ s.vm.findClass RJ0 = some cell.cls := vk_recv hZ.2.1 (i := 0) (by decide) hSz
  have hts := atoms_spec (ws := wsX0_faultPlace) B.pre
  have E : CallFix p m cd cX0_faultPlace 4 s _ wsX0_faultPlace RX0 := ⟨B.exec, B.bytes, hml, findClass_of_methodNamed B.named, hts⟩
  have hr := B.returns
  have hlocks := B.notSynchronized
  have h2n := pow6 (n := n) (by have := hX.2.1; omega)
  obtain ⟨hn, hn6, hz, hz21, hc, hc6⟩ := id hX
  have in_0 : ∀ w ∈ wsX00, w ∈ wsX0_faultPlace := fun _ h => List.mem_cons_of_mem _ (List.mem_append_right _ h)
  have w_0 : (Cond.fieldLink RX0 15 "SnowTerm$Page" "size" "I").before _ s = true := hts _ (by decide +kernel)
  have hl := lv_entry ([.ref (ad 1)]) (n := 4) (Nat.le_of_ble_eq_true rfl)
  rw [lg_entry_eq]
  generalize (lg_sl ([.ref (ad 1)]) ++ List.replicate (4 - (lg_sl ([.ref (ad 1)])).length) Slot.unset).toArray = ls at hl ⊢
  have hl : lv_has ls 4 [(0, .ref (ad 1))] := hl
  refine lv_iconst (v := (-1)) E.1 E.2.1 dX0_faultPlace_0 (by decide) ?_
  refine lv_istore_n (lv' := [(1, .int (-1)), (0, .ref (ad 1))]) E.1 E.2.1 dX0_faultPlace_1 rfl hl (by decide) rfl (fun ls hl => ?_)
  refine lv_iconst (v := 0) E.1 E.2.1 dX0_faultPlace_2 (by decide) ?_
  refine lv_istore_n (lv' := [(2, .int 0), (1, .int (-1)), (0, .ref (ad 1))]) E.1 E.2.1 dX0_faultPlace_3 rfl hl (by decide) rfl (fun ls hl => ?_)
  have loop1 : ∀ (d_1 k_2 : Nat) (x1_1 : Int32) (ls : Array Slot), k_2 + d_1 = z → lv_has ls 4 [(2, .int (nI k_2)), (1, .int x1_1), (0, .ref (ad 1))] → W p l e (headSpec wsX0_faultPlace { frames := 6, cells := 0, slots := 0, locals := 133 }).room s m ([.ref (ad 1)] : List Value).toArray below meth cd s.heap [] 0 0 (MQ below (QcRead (FX0_faultPlace_L4 f a ta n z c d_1 k_2 x1_1)) ([.ref (ad 1)] : List Value).toArray s 0 0 (fun _ => False)) (F0 m 4 ls []) := by
    intro d_1
    induction d_1 with
    | zero =>
      intro k_2 x1_1 ls hk1 hl
      refine lv_iload_n E.1 E.2.1 dX0_faultPlace_4 rfl (lv_at hl 0 rfl) ?_
      refine lv_aload_n E.1 E.2.1 dX0_faultPlace_5 rfl (lv_at hl 2 rfl) ?_
      refine xg_1_1 E hK hP in_0 w_0 dX0_faultPlace_6 ?_
      refine lv_topi (fun y_3 ey_3 => ?_)
      obtain rfl : y_3 = nI z := ey_3.trans (hz)
      refine lv_icmp_ge (x := nI k_2) (y := nI z) (tgt := 72) E.1 E.2.1 dX0_faultPlace_9 (by decide) (fun _ => ?_) (fun h9 => absurd (nI_le (a := z) (b := k_2) (by omega) (by omega)) h9)
      refine lv_aload_n E.1 E.2.1 dX0_faultPlace_72 rfl (lv_at hl 2 rfl) ?_
      refine xg_1_1 E hK hP in_0 w_0 dX0_faultPlace_73 ?_
      refine lv_topi (fun y_4 ey_4 => ?_)
      obtain rfl : y_4 = nI z := ey_4.trans (hz)
      exact W.iret (v := nI z) E.1 E.2.1 hr (fun t ht _ => ⟨congrArg (fun z : Int32 => Outcome.returned (some (Value.int z))) (show nI z = FX0_faultPlace_L4 f a ta n z c 0 k_2 x1_1 from by rw [FX0_faultPlace_L4]), ht⟩) (fun q hq => by cases hq) dX0_faultPlace_76
    | succ d_1 ih1 =>
      intro k_2 x1_1 ls hk1 hl
      refine lv_iload_n E.1 E.2.1 dX0_faultPlace_4 rfl (lv_at hl 0 rfl) ?_
      refine lv_aload_n E.1 E.2.1 dX0_faultPlace_5 rfl (lv_at hl 2 rfl) ?_
      refine xg_1_1 E hK hP in_0 w_0 dX0_faultPlace_6 ?_
      refine lv_topi (fun y_5 ey_5 => ?_)
      obtain rfl : y_5 = nI z := ey_5.trans (hz)
      refine lv_icmp_ge (x := nI k_2) (y := nI z) (tgt := 72) E.1 E.2.1 dX0_faultPlace_9 (by decide) (fun h9 => absurd h9 (nI_ge (a := k_2) (b := z) (by omega) (by omega))) (fun _ => ?_)
      refine lv_iload_n E.1 E.2.1 dX0_faultPlace_12 rfl (lv_at hl 1 rfl) ?_
      refine lv_iconst (v := (-1)) E.1 E.2.1 dX0_faultPlace_13 (by decide) ?_
      refine lv_icmp_ne (x := x1_1) (y := (-1)) (tgt := 25) E.1 E.2.1 dX0_faultPlace_14 (by decide) (fun h14 => ?_) (fun h14 => ?_)
      · have h14 := h14
        refine lv_iload_n E.1 E.2.1 dX0_faultPlace_25 rfl (lv_at hl 0 rfl) ?_
        refine lv_iload_n E.1 E.2.1 dX0_faultPlace_26 rfl (lv_at hl 1 rfl) ?_
        refine lv_iconst (v := 1) E.1 E.2.1 dX0_faultPlace_27 (by decide) ?_
        refine lv_iadd (x := x1_1) (y := 1) E.1 E.2.1 dX0_faultPlace_28 ?_
        refine lv_icmp_ne (x := nI k_2) (y := x1_1 + 1) (tgt := 46) E.1 E.2.1 dX0_faultPlace_29 (by decide) (fun h29 => ?_) (fun h29 => ?_)
        · have h29 := h29
          refine lv_iconst (v := 0) E.1 E.2.1 dX0_faultPlace_46 (by decide) ?_
          refine lv_istore_n (lv' := [(3, .int 0), (2, .int (nI k_2)), (1, .int x1_1), (0, .ref (ad 1))]) E.1 E.2.1 dX0_faultPlace_47 rfl hl (by decide) rfl (fun ls hl => ?_)
          refine lv_iload_n E.1 E.2.1 dX0_faultPlace_48 rfl (lv_at hl 0 rfl) ?_
          refine lv_if_ne (x := 0) (tgt := 54) E.1 E.2.1 dX0_faultPlace_49 (by decide) (fun h9 => absurd (by decide) h9) (fun _ => ?_)
          refine lv_iload_n E.1 E.2.1 dX0_faultPlace_52 rfl (lv_at hl 1 rfl) ?_
          exact W.iret (v := nI k_2) E.1 E.2.1 hr (fun t ht _ => ⟨congrArg (fun z : Int32 => Outcome.returned (some (Value.int z))) (show nI k_2 = FX0_faultPlace_L4 f a ta n z c (d_1 + 1) k_2 x1_1 from by rw [FX0_faultPlace_L4, if_neg h14, if_neg h29]), ht⟩) (fun q hq => by cases hq) dX0_faultPlace_53
        · have h29 := h29
          refine lv_aload_n E.1 E.2.1 dX0_faultPlace_32 rfl (lv_at hl 2 rfl) ?_
          refine lv_bipush (v := 48) E.1 E.2.1 dX0_faultPlace_33 (by decide) ?_
          refine lv_iload_n E.1 E.2.1 dX0_faultPlace_35 rfl (lv_at hl 0 rfl) ?_
          refine gs_VR (As := [.int 48, .int (nI k_2)]) (rest := []) E hK hP hZ hSz (c_X0_isDigitFrom l D cI cB ad f a ta n z c hX aS aV A 48 (nI k_2)) (cwV 2 E.2.2.2.2 gX0_faultPlace_X0_isDigitFrom rfl rfl rfl (by decide +kernel) ⟨Nat.le_of_ble_eq_true rfl, Nat.le_of_ble_eq_true rfl⟩) (rxp hK hP) rfl hl.1 rfl (Nat.le_of_ble_eq_true rfl) dX0_faultPlace_36 ⟨Nat.zero_le _, Nat.zero_le _⟩ ?_
          refine lv_if_eq (x := FX0_isDigitFrom f a ta n z c 48 (nI k_2)) (tgt := 46) E.1 E.2.1 dX0_faultPlace_39 (by decide) (fun h39 => ?_) (fun h39 => ?_)
          · have h39 := h39
            refine lv_iconst (v := 0) E.1 E.2.1 dX0_faultPlace_46 (by decide) ?_
            refine lv_istore_n (lv' := [(3, .int 0), (2, .int (nI k_2)), (1, .int x1_1), (0, .ref (ad 1))]) E.1 E.2.1 dX0_faultPlace_47 rfl hl (by decide) rfl (fun ls hl => ?_)
            refine lv_iload_n E.1 E.2.1 dX0_faultPlace_48 rfl (lv_at hl 0 rfl) ?_
            refine lv_if_ne (x := 0) (tgt := 54) E.1 E.2.1 dX0_faultPlace_49 (by decide) (fun h9 => absurd (by decide) h9) (fun _ => ?_)
            refine lv_iload_n E.1 E.2.1 dX0_faultPlace_52 rfl (lv_at hl 1 rfl) ?_
            exact W.iret (v := nI k_2) E.1 E.2.1 hr (fun t ht _ => ⟨congrArg (fun z : Int32 => Outcome.returned (some (Value.int z))) (show nI k_2 = FX0_faultPlace_L4 f a ta n z c (d_1 + 1) k_2 x1_1 from by rw [FX0_faultPlace_L4, if_neg h14, if_pos h29, if_pos h39]), ht⟩) (fun q hq => by cases hq) dX0_faultPlace_53
          · have h39 := h39
            refine lv_iconst (v := 1) E.1 E.2.1 dX0_faultPlace_42 (by decide) ?_
            refine lv_goto (tgt := 47) E.1 E.2.1 dX0_faultPlace_43 (by decide) ?_
            refine lv_istore_n (lv' := [(3, .int 1), (2, .int (nI k_2)), (1, .int x1_1), (0, .ref (ad 1))]) E.1 E.2.1 dX0_faultPlace_47 rfl hl (by decide) rfl (fun ls hl => ?_)
            refine lv_iload_n E.1 E.2.1 dX0_faultPlace_48 rfl (lv_at hl 0 rfl) ?_
            refine lv_if_ne (x := 1) (tgt := 54) E.1 E.2.1 dX0_faultPlace_49 (by decide) (fun _ => ?_) (fun h9 => absurd h9 (by decide))
            refine lv_aload_n E.1 E.2.1 dX0_faultPlace_54 rfl (lv_at hl 3 rfl) ?_
            refine lv_iload_n E.1 E.2.1 dX0_faultPlace_55 rfl (lv_at hl 1 rfl) ?_
            refine g_VR (As := [.int (nI k_2)]) (rest := []) E hK hP (c_X0_codeAt l D cI cB ad f a ta n z c hX (nI k_2)) (cwV 1 E.2.2.2.2 gX0_faultPlace_X0_codeAt rfl rfl rfl (by decide +kernel) ⟨Nat.le_of_ble_eq_true rfl, Nat.le_of_ble_eq_true rfl⟩) (rxp hK hP) rfl hl.1 rfl (Nat.le_of_ble_eq_true rfl) dX0_faultPlace_56 ⟨Nat.zero_le _, Nat.zero_le _⟩ ?_
            refine lv_bipush (v := 59) E.1 E.2.1 dX0_faultPlace_59 (by decide) ?_
            refine lv_icmp_ne (x := FX0_codeAt f a ta n z c (nI k_2)) (y := 59) (tgt := 66) E.1 E.2.1 dX0_faultPlace_61 (by decide) (fun h61 => ?_) (fun h61 => ?_)
            · have h61 := h61
              refine lv_iinc (v := nI (k_2 + 1)) (k := 1) (lv' := [(2, .int (nI (k_2 + 1))), (3, .int 1), (1, .int x1_1), (0, .ref (ad 1))]) E.1 E.2.1 dX0_faultPlace_66 hl rfl (nI_1 k_2) (by decide) rfl (fun ls hl => ?_)
              refine lv_goto (tgt := 4) E.1 E.2.1 dX0_faultPlace_69 (by decide) ?_
              rw [show FX0_faultPlace_L4 f a ta n z c (d_1 + 1) k_2 x1_1 = FX0_faultPlace_L4 f a ta n z c d_1 (k_2 + 1) x1_1 from by rw [FX0_faultPlace_L4, if_neg h14, if_pos h29, if_neg h39, if_neg h61]]
              exact ih1 (k_2 + 1) x1_1 ls (by omega) (lv_sub hl [0, 2, 3] rfl)
            · have h61 := h61
              refine lv_iload_n E.1 E.2.1 dX0_faultPlace_64 rfl (lv_at hl 1 rfl) ?_
              refine lv_istore_n (lv' := [(1, .int (nI k_2)), (3, .int 1), (2, .int (nI k_2)), (0, .ref (ad 1))]) E.1 E.2.1 dX0_faultPlace_65 rfl hl (by decide) rfl (fun ls hl => ?_)
              refine lv_iinc (v := nI (k_2 + 1)) (k := 2) (lv' := [(2, .int (nI (k_2 + 1))), (1, .int (nI k_2)), (3, .int 1), (0, .ref (ad 1))]) E.1 E.2.1 dX0_faultPlace_66 hl rfl (nI_1 k_2) (by decide) rfl (fun ls hl => ?_)
              refine lv_goto (tgt := 4) E.1 E.2.1 dX0_faultPlace_69 (by decide) ?_
              rw [show FX0_faultPlace_L4 f a ta n z c (d_1 + 1) k_2 x1_1 = FX0_faultPlace_L4 f a ta n z c d_1 (k_2 + 1) (nI k_2) from by rw [FX0_faultPlace_L4, if_neg h14, if_pos h29, if_neg h39, if_pos h61]]
              exact ih1 (k_2 + 1) (nI k_2) ls (by omega) (lv_sub hl [0, 1, 3] rfl)
      · have h14 := h14
        refine lv_aload_n E.1 E.2.1 dX0_faultPlace_17 rfl (lv_at hl 2 rfl) ?_
        refine lv_iload_n E.1 E.2.1 dX0_faultPlace_18 rfl (lv_at hl 0 rfl) ?_
        refine gs_VR (As := [.int (nI k_2)]) (rest := []) E hK hP hZ hSz (c_X0_fitsAmongSites l D cI cB ad f a ta n z c hX aS aV A (nI k_2)) (cwV 1 E.2.2.2.2 gX0_faultPlace_X0_fitsAmongSites rfl rfl rfl (by decide +kernel) ⟨Nat.le_of_ble_eq_true rfl, Nat.le_of_ble_eq_true rfl⟩) (rxp hK hP) rfl hl.1 rfl (Nat.le_of_ble_eq_true rfl) dX0_faultPlace_19 ⟨Nat.zero_le _, Nat.zero_le _⟩ ?_
        refine lv_goto (tgt := 47) E.1 E.2.1 dX0_faultPlace_22 (by decide) ?_
        refine lv_istore_n (lv' := [(3, .int (FX0_fitsAmongSites f a ta n z c (nI k_2))), (2, .int (nI k_2)), (1, .int x1_1), (0, .ref (ad 1))]) E.1 E.2.1 dX0_faultPlace_47 rfl hl (by decide) rfl (fun ls hl => ?_)
        refine lv_iload_n E.1 E.2.1 dX0_faultPlace_48 rfl (lv_at hl 0 rfl) ?_
        refine lv_if_ne (x := FX0_fitsAmongSites f a ta n z c (nI k_2)) (tgt := 54) E.1 E.2.1 dX0_faultPlace_49 (by decide) (fun h49 => ?_) (fun h49 => ?_)
        · have h49 := h49
          refine lv_aload_n E.1 E.2.1 dX0_faultPlace_54 rfl (lv_at hl 3 rfl) ?_
          refine lv_iload_n E.1 E.2.1 dX0_faultPlace_55 rfl (lv_at hl 1 rfl) ?_
          refine g_VR (As := [.int (nI k_2)]) (rest := []) E hK hP (c_X0_codeAt l D cI cB ad f a ta n z c hX (nI k_2)) (cwV 1 E.2.2.2.2 gX0_faultPlace_X0_codeAt rfl rfl rfl (by decide +kernel) ⟨Nat.le_of_ble_eq_true rfl, Nat.le_of_ble_eq_true rfl⟩) (rxp hK hP) rfl hl.1 rfl (Nat.le_of_ble_eq_true rfl) dX0_faultPlace_56 ⟨Nat.zero_le _, Nat.zero_le _⟩ ?_
          refine lv_bipush (v := 59) E.1 E.2.1 dX0_faultPlace_59 (by decide) ?_
          refine lv_icmp_ne (x := FX0_codeAt f a ta n z c (nI k_2)) (y := 59) (tgt := 66) E.1 E.2.1 dX0_faultPlace_61 (by decide) (fun h61 => ?_) (fun h61 => ?_)
          · have h61 := h61
            refine lv_iinc (v := nI (k_2 + 1)) (k := 1) (lv' := [(2, .int (nI (k_2 + 1))), (3, .int (FX0_fitsAmongSites f a ta n z c (nI k_2))), (1, .int x1_1), (0, .ref (ad 1))]) E.1 E.2.1 dX0_faultPlace_66 hl rfl (nI_1 k_2) (by decide) rfl (fun ls hl => ?_)
            refine lv_goto (tgt := 4) E.1 E.2.1 dX0_faultPlace_69 (by decide) ?_
            rw [show FX0_faultPlace_L4 f a ta n z c (d_1 + 1) k_2 x1_1 = FX0_faultPlace_L4 f a ta n z c d_1 (k_2 + 1) x1_1 from by rw [FX0_faultPlace_L4, if_pos h14, if_neg h49, if_neg h61]]
            exact ih1 (k_2 + 1) x1_1 ls (by omega) (lv_sub hl [0, 2, 3] rfl)
          · have h61 := h61
            refine lv_iload_n E.1 E.2.1 dX0_faultPlace_64 rfl (lv_at hl 1 rfl) ?_
            refine lv_istore_n (lv' := [(1, .int (nI k_2)), (3, .int (FX0_fitsAmongSites f a ta n z c (nI k_2))), (2, .int (nI k_2)), (0, .ref (ad 1))]) E.1 E.2.1 dX0_faultPlace_65 rfl hl (by decide) rfl (fun ls hl => ?_)
            refine lv_iinc (v := nI (k_2 + 1)) (k := 2) (lv' := [(2, .int (nI (k_2 + 1))), (1, .int (nI k_2)), (3, .int (FX0_fitsAmongSites f a ta n z c (nI k_2))), (0, .ref (ad 1))]) E.1 E.2.1 dX0_faultPlace_66 hl rfl (nI_1 k_2) (by decide) rfl (fun ls hl => ?_)
            refine lv_goto (tgt := 4) E.1 E.2.1 dX0_faultPlace_69 (by decide) ?_
            rw [show FX0_faultPlace_L4 f a ta n z c (d_1 + 1) k_2 x1_1 = FX0_faultPlace_L4 f a ta n z c d_1 (k_2 + 1) (nI k_2) from by rw [FX0_faultPlace_L4, if_pos h14, if_neg h49, if_pos h61]]
            exact ih1 (k_2 + 1) (nI k_2) ls (by omega) (lv_sub hl [0, 1, 3] rfl)
        · have h49 := h49
          refine lv_iload_n E.1 E.2.1 dX0_faultPlace_52 rfl (lv_at hl 1 rfl) ?_
          exact W.iret (v := nI k_2) E.1 E.2.1 hr (fun t ht _ => ⟨congrArg (fun z : Int32 => Outcome.returned (some (Value.int z))) (show nI k_2 = FX0_faultPlace_L4 f a ta n z c (d_1 + 1) k_2 x1_1 from by rw [FX0_faultPlace_L4, if_pos h14, if_pos h49]), ht⟩) (fun q hq => by cases hq) dX0_faultPlace_53
  rw [show FX0_faultPlace f a ta n z c = FX0_faultPlace_L4 f a ta n z c z 0 (-1) from by rw [FX0_faultPlace]]
  have hl : lv_has ls 4 [(2, .int (nI 0)), (1, .int (-1)), (0, .ref (ad 1))] := lv_sub hl [0, 1, 2] rfl
  exact loop1 _ _ (-1) ls (by omega) (lv_sub hl [0, 1, 2] rfl)
def FX0_isWhole (f : Nat → Int32) (a : Nat → Nat → Int32) (ta : Nat → Nat → Int32) (n : Nat) (z : Nat) (c : Nat) : Int32 := (if nI z < 2 then 0 else (if FX0_faultPlace f a ta n z c = nI z then (if FX0_codeAt f a ta n z c ((nI z) - 2) = 59 then 1 else 0) else 0))
set_option maxHeartbeats 4000000 in
set_option maxRecDepth 100000 in
/-- is it whole -/
theorem c_X0_isWhole (l : Launch) (D : va_G) (cI cB : ClassId) (ad : Nat → Nat) (f : Nat → Int32) (a ta : Nat → Nat → Int32) (n z c : Nat) (hX : IX n z c f) (aS aV : Nat) (A : Nat → Prop)  : Met l yX0_isWhole wsX0_isWhole ({ frames := 7, cells := 0, slots := 0, locals := 156 }) (GPs D cI cB aS aV A (wX cI ad f a ta) [.ref (ad 1)]) (QcRead (FX0_isWhole f a ta n z c)) 0 0 (fun _ => False) := by
  refine Met.ofW (cc := cX0_isWhole) (maxL := 1) (ret := (some .boolean)) (by decide) rfl ?_
  intro p e s m args below meth cd s₁ B hml hv
  obtain ⟨rfl, hP, hK, hZ⟩ := hv
  have hSz : va_S A s.heap s.heap [] := va_S.rf
  have hz0 := hZ.2.1.1 0 (by decide)
  have zc : va_OF "java/lang/String" "coder" "B" (.int 0) aS A s s.heap := hz0.2.1
  have zv : va_OF "java/lang/String" "value" "[B" (.ref aV) aS A s s.heap := hz0.2.2.1
  have zt : va_T .byte aV 5 (fun j => .int (([115, 121, 103, 98, 116] : List Int32).getD j 0)) A s s.heap := hz0.2.2.2
  have zo : ∃ cell : Cell, s.heap[aS]? = some cell ∧ cell.vm.isStatics = false ∧ s.vm.findClass RJ0 = some cell.cls := vk_recv hZ.2.1 (i := 0) (by decide) hSz
  have hts := atoms_spec (ws := wsX0_isWhole) B.pre
  have E : CallFix p m cd cX0_isWhole 1 s _ wsX0_isWhole RX0 := ⟨B.exec, B.bytes, hml, findClass_of_methodNamed B.named, hts⟩
  have hr := B.returns
  have hlocks := B.notSynchronized
  have h2n := pow6 (n := n) (by have := hX.2.1; omega)
  obtain ⟨hn, hn6, hz, hz21, hc, hc6⟩ := id hX
  have in_0 : ∀ w ∈ wsX00, w ∈ wsX0_isWhole := fun _ h => List.mem_cons_of_mem _ (List.mem_append_right _ h)
  have w_0 : (Cond.fieldLink RX0 15 "SnowTerm$Page" "size" "I").before _ s = true := hts _ (by decide +kernel)
  have hl := lv_entry ([.ref (ad 1)]) (n := 1) (Nat.le_of_ble_eq_true rfl)
  rw [lg_entry_eq]
  generalize (lg_sl ([.ref (ad 1)]) ++ List.replicate (1 - (lg_sl ([.ref (ad 1)])).length) Slot.unset).toArray = ls at hl ⊢
  have hl : lv_has ls 1 [(0, .ref (ad 1))] := hl
  refine lv_aload_n E.1 E.2.1 dX0_isWhole_0 rfl (lv_at hl 0 rfl) ?_
  refine xg_1_1 E hK hP in_0 w_0 dX0_isWhole_1 ?_
  refine lv_topi (fun y_1 ey_1 => ?_)
  obtain rfl : y_1 = nI z := ey_1.trans (hz)
  refine lv_iconst (v := 2) E.1 E.2.1 dX0_isWhole_4 (by decide) ?_
  refine lv_icmp_lt (x := nI z) (y := 2) (tgt := 38) E.1 E.2.1 dX0_isWhole_5 (by decide) (fun h5 => ?_) (fun h5 => ?_)
  · have h5 := h5
    refine lv_iconst (v := 0) E.1 E.2.1 dX0_isWhole_38 (by decide) ?_
    exact W.zret (v := 0) E.1 E.2.1 hr rfl (fun t ht _ => ⟨congrArg (fun z : Int32 => Outcome.returned (some (Value.int z))) (show 0 = FX0_isWhole f a ta n z c from by rw [FX0_isWhole, if_pos h5]), ht⟩) (fun q hq => by cases hq) dX0_isWhole_39
  · have h5 := h5
    refine lv_aload_n E.1 E.2.1 dX0_isWhole_8 rfl (lv_at hl 0 rfl) ?_
    refine gs_VR (As := []) (rest := []) E hK hP hZ hSz (c_X0_faultPlace l D cI cB ad f a ta n z c hX aS aV A) (cwV 0 E.2.2.2.2 gX0_isWhole_X0_faultPlace rfl rfl rfl (by decide +kernel) ⟨Nat.le_of_ble_eq_true rfl, Nat.le_of_ble_eq_true rfl⟩) (rxp hK hP) rfl hl.1 rfl (Nat.le_of_ble_eq_true rfl) dX0_isWhole_9 ⟨Nat.zero_le _, Nat.zero_le _⟩ ?_
    refine lv_aload_n E.1 E.2.1 dX0_isWhole_12 rfl (lv_at hl 0 rfl) ?_
    refine xg_1_1 E hK hP in_0 w_0 dX0_isWhole_13 ?_
    refine lv_topi (fun y_2 ey_2 => ?_)
    obtain rfl : y_2 = nI z := ey_2.trans (hz)
    refine lv_icmp_ne (x := FX0_faultPlace f a ta n z c) (y := nI z) (tgt := 38) E.1 E.2.1 dX0_isWhole_16 (by decide) (fun h16 => ?_) (fun h16 => ?_)
    · have h16 := h16
      refine lv_iconst (v := 0) E.1 E.2.1 dX0_isWhole_38 (by decide) ?_
      exact W.zret (v := 0) E.1 E.2.1 hr rfl (fun t ht _ => ⟨congrArg (fun z : Int32 => Outcome.returned (some (Value.int z))) (show 0 = FX0_isWhole f a ta n z c from by rw [FX0_isWhole, if_neg h5, if_neg h16]), ht⟩) (fun q hq => by cases hq) dX0_isWhole_39
    · have h16 := h16
      refine lv_aload_n E.1 E.2.1 dX0_isWhole_19 rfl (lv_at hl 0 rfl) ?_
      refine lv_aload_n E.1 E.2.1 dX0_isWhole_20 rfl (lv_at hl 0 rfl) ?_
      refine xg_1_1 E hK hP in_0 w_0 dX0_isWhole_21 ?_
      refine lv_topi (fun y_3 ey_3 => ?_)
      obtain rfl : y_3 = nI z := ey_3.trans (hz)
      refine lv_iconst (v := 2) E.1 E.2.1 dX0_isWhole_24 (by decide) ?_
      refine lv_isub (x := nI z) (y := 2) E.1 E.2.1 dX0_isWhole_25 ?_
      refine g_VR (As := [.int ((nI z) - 2)]) (rest := []) E hK hP (c_X0_codeAt l D cI cB ad f a ta n z c hX ((nI z) - 2)) (cwV 1 E.2.2.2.2 gX0_isWhole_X0_codeAt rfl rfl rfl (by decide +kernel) ⟨Nat.le_of_ble_eq_true rfl, Nat.le_of_ble_eq_true rfl⟩) (rxp hK hP) rfl hl.1 rfl (Nat.le_of_ble_eq_true rfl) dX0_isWhole_26 ⟨Nat.zero_le _, Nat.zero_le _⟩ ?_
      refine lv_bipush (v := 59) E.1 E.2.1 dX0_isWhole_29 (by decide) ?_
      refine lv_icmp_ne (x := FX0_codeAt f a ta n z c ((nI z) - 2)) (y := 59) (tgt := 38) E.1 E.2.1 dX0_isWhole_31 (by decide) (fun h31 => ?_) (fun h31 => ?_)
      · have h31 := h31
        refine lv_iconst (v := 0) E.1 E.2.1 dX0_isWhole_38 (by decide) ?_
        exact W.zret (v := 0) E.1 E.2.1 hr rfl (fun t ht _ => ⟨congrArg (fun z : Int32 => Outcome.returned (some (Value.int z))) (show 0 = FX0_isWhole f a ta n z c from by rw [FX0_isWhole, if_neg h5, if_pos h16, if_neg h31]), ht⟩) (fun q hq => by cases hq) dX0_isWhole_39
      · have h31 := h31
        refine lv_iconst (v := 1) E.1 E.2.1 dX0_isWhole_34 (by decide) ?_
        refine lv_goto (tgt := 39) E.1 E.2.1 dX0_isWhole_35 (by decide) ?_
        exact W.zret (v := 1) E.1 E.2.1 hr rfl (fun t ht _ => ⟨congrArg (fun z : Int32 => Outcome.returned (some (Value.int z))) (show 1 = FX0_isWhole f a ta n z c from by rw [FX0_isWhole, if_neg h5, if_pos h16, if_pos h31]), ht⟩) (fun q hq => by cases hq) dX0_isWhole_39
def FX0_siteCount (f : Nat → Int32) (a : Nat → Nat → Int32) (ta : Nat → Nat → Int32) (n : Nat) (z : Nat) (c : Nat) : Int32 := ((nI z) - 1) / 3
set_option maxHeartbeats 4000000 in
set_option maxRecDepth 100000 in
/-- how many sites -/
theorem c_X0_siteCount (l : Launch) (D : va_G) (cI cB : ClassId) (ad : Nat → Nat) (f : Nat → Int32) (a ta : Nat → Nat → Int32) (n z c : Nat) (hX : IX n z c f)  : Met l yX0_siteCount wsX0_siteCount ({ frames := 0, cells := 0, slots := 0, locals := 0 }) (GPc D cI cB (wX cI ad f a ta) [.ref (ad 1)]) (QcRead (FX0_siteCount f a ta n z c)) 0 0 (fun _ => False) := by
  refine Met.ofW (cc := cX0_siteCount) (maxL := 1) (ret := (some .int)) (by decide) rfl ?_
  intro p e s m args below meth cd s₁ B hml hv
  obtain ⟨rfl, hP, hK⟩ := hv
  have hts := atoms_spec (ws := wsX0_siteCount) B.pre
  have E : CallFix p m cd cX0_siteCount 1 s _ wsX0_siteCount RX0 := ⟨B.exec, B.bytes, hml, findClass_of_methodNamed B.named, hts⟩
  have hr := B.returns
  have hlocks := B.notSynchronized
  have h2n := pow6 (n := n) (by have := hX.2.1; omega)
  obtain ⟨hn, hn6, hz, hz21, hc, hc6⟩ := id hX
  have in_0 : ∀ w ∈ wsX00, w ∈ wsX0_siteCount := fun _ h => List.mem_cons_of_mem _ (List.mem_append_right _ h)
  have w_0 : (Cond.fieldLink RX0 15 "SnowTerm$Page" "size" "I").before _ s = true := hts _ (by decide +kernel)
  have hl := lv_entry ([.ref (ad 1)]) (n := 1) (Nat.le_of_ble_eq_true rfl)
  rw [lg_entry_eq]
  generalize (lg_sl ([.ref (ad 1)]) ++ List.replicate (1 - (lg_sl ([.ref (ad 1)])).length) Slot.unset).toArray = ls at hl ⊢
  have hl : lv_has ls 1 [(0, .ref (ad 1))] := hl
  refine lv_aload_n E.1 E.2.1 dX0_siteCount_0 rfl (lv_at hl 0 rfl) ?_
  refine xg_1_1 E hK hP in_0 w_0 dX0_siteCount_1 ?_
  refine lv_topi (fun y_1 ey_1 => ?_)
  obtain rfl : y_1 = nI z := ey_1.trans (hz)
  refine lv_iconst (v := 1) E.1 E.2.1 dX0_siteCount_4 (by decide) ?_
  refine lv_isub (x := nI z) (y := 1) E.1 E.2.1 dX0_siteCount_5 ?_
  refine lv_iconst (v := 3) E.1 E.2.1 dX0_siteCount_6 (by decide) ?_
  refine lv_idiv (x := (nI z) - 1) (y := 3) E.1 E.2.1 dX0_siteCount_7 (by decide) ?_
  exact W.iret (v := ((nI z) - 1) / 3) E.1 E.2.1 hr (fun t ht _ => ⟨congrArg (fun z : Int32 => Outcome.returned (some (Value.int z))) (show ((nI z) - 1) / 3 = FX0_siteCount f a ta n z c from by rw [FX0_siteCount]), ht⟩) (fun q hq => by cases hq) dX0_siteCount_8
def FX0_kindOf (f : Nat → Int32) (a : Nat → Nat → Int32) (ta : Nat → Nat → Int32) (n : Nat) (z : Nat) (c : Nat) (p0 : Int32) : Int32 := FX0_kindAt f a ta n z c (p0 * 3)
set_option maxHeartbeats 4000000 in
set_option maxRecDepth 100000 in
/-- the kind of a site -/
theorem c_X0_kindOf (l : Launch) (D : va_G) (cI cB : ClassId) (ad : Nat → Nat) (f : Nat → Int32) (a ta : Nat → Nat → Int32) (n z c : Nat) (hX : IX n z c f) (aS aV : Nat) (A : Nat → Prop) (p0 : Int32) : Met l yX0_kindOf wsX0_kindOf ({ frames := 5, cells := 0, slots := 0, locals := 112 }) (GPs D cI cB aS aV A (wX cI ad f a ta) [.ref (ad 1), .int p0]) (QcRead (FX0_kindOf f a ta n z c p0)) 0 0 (fun _ => False) := by
  refine Met.ofW (cc := cX0_kindOf) (maxL := 2) (ret := (some .int)) (by decide) rfl ?_
  intro p e s m args below meth cd s₁ B hml hv
  obtain ⟨rfl, hP, hK, hZ⟩ := hv
  have hSz : va_S A s.heap s.heap [] := va_S.rf
  have hz0 := hZ.2.1.1 0 (by decide)
  have zc : va_OF "java/lang/String" "coder" "B" (.int 0) aS A s s.heap := hz0.2.1
  have zv : va_OF "java/lang/String" "value" "[B" (.ref aV) aS A s s.heap := hz0.2.2.1
  have zt : va_T .byte aV 5 (fun j => .int (([115, 121, 103, 98, 116] : List Int32).getD j 0)) A s s.heap := hz0.2.2.2
  have zo : ∃ cell : Cell, s.heap[aS]? = some cell ∧ cell.vm.isStatics = false ∧ s.vm.findClass RJ0 = some cell.cls := vk_recv hZ.2.1 (i := 0) (by decide) hSz
  have hts := atoms_spec (ws := wsX0_kindOf) B.pre
  have E : CallFix p m cd cX0_kindOf 2 s _ wsX0_kindOf RX0 := ⟨B.exec, B.bytes, hml, findClass_of_methodNamed B.named, hts⟩
  have hr := B.returns
  have hlocks := B.notSynchronized
  have h2n := pow6 (n := n) (by have := hX.2.1; omega)
  obtain ⟨hn, hn6, hz, hz21, hc, hc6⟩ := id hX
  have hl := lv_entry ([.ref (ad 1), .int p0]) (n := 2) (Nat.le_of_ble_eq_true rfl)
  rw [lg_entry_eq]
  generalize (lg_sl ([.ref (ad 1), .int p0]) ++ List.replicate (2 - (lg_sl ([.ref (ad 1), .int p0])).length) Slot.unset).toArray = ls at hl ⊢
  have hl : lv_has ls 2 [(0, .ref (ad 1)), (1, .int p0)] := hl
  refine lv_aload_n E.1 E.2.1 dX0_kindOf_0 rfl (lv_at hl 0 rfl) ?_
  refine lv_iload_n E.1 E.2.1 dX0_kindOf_1 rfl (lv_at hl 1 rfl) ?_
  refine lv_iconst (v := 3) E.1 E.2.1 dX0_kindOf_2 (by decide) ?_
  refine lv_imul (x := p0) (y := 3) E.1 E.2.1 dX0_kindOf_3 ?_
  refine gs_VR (As := [.int (p0 * 3)]) (rest := []) E hK hP hZ hSz (c_X0_kindAt l D cI cB ad f a ta n z c hX aS aV A (p0 * 3)) (cwV 1 E.2.2.2.2 gX0_kindOf_X0_kindAt rfl rfl rfl (by decide +kernel) ⟨Nat.le_of_ble_eq_true rfl, Nat.le_of_ble_eq_true rfl⟩) (rxp hK hP) rfl hl.1 rfl (Nat.le_of_ble_eq_true rfl) dX0_kindOf_4 ⟨Nat.zero_le _, Nat.zero_le _⟩ ?_
  exact W.iret (v := FX0_kindAt f a ta n z c (p0 * 3)) E.1 E.2.1 hr (fun t ht _ => ⟨congrArg (fun z : Int32 => Outcome.returned (some (Value.int z))) (show FX0_kindAt f a ta n z c (p0 * 3) = FX0_kindOf f a ta n z c p0 from by rw [FX0_kindOf]), ht⟩) (fun q hq => by cases hq) dX0_kindOf_7
def FX0_wantOf (f : Nat → Int32) (a : Nat → Nat → Int32) (ta : Nat → Nat → Int32) (n : Nat) (z : Nat) (c : Nat) (p0 : Int32) : Int32 := FX0_digitAt f a ta n z c ((p0 * 3) + 1)
set_option maxHeartbeats 4000000 in
set_option maxRecDepth 100000 in
/-- how deep it is wanted -/
theorem c_X0_wantOf (l : Launch) (D : va_G) (cI cB : ClassId) (ad : Nat → Nat) (f : Nat → Int32) (a ta : Nat → Nat → Int32) (n z c : Nat) (hX : IX n z c f) (p0 : Int32) : Met l yX0_wantOf wsX0_wantOf ({ frames := 2, cells := 0, slots := 0, locals := 42 }) (GPc D cI cB (wX cI ad f a ta) [.ref (ad 1), .int p0]) (QcRead (FX0_wantOf f a ta n z c p0)) 0 0 (fun _ => False) := by
  refine Met.ofW (cc := cX0_wantOf) (maxL := 2) (ret := (some .int)) (by decide) rfl ?_
  intro p e s m args below meth cd s₁ B hml hv
  obtain ⟨rfl, hP, hK⟩ := hv
  have hts := atoms_spec (ws := wsX0_wantOf) B.pre
  have E : CallFix p m cd cX0_wantOf 2 s _ wsX0_wantOf RX0 := ⟨B.exec, B.bytes, hml, findClass_of_methodNamed B.named, hts⟩
  have hr := B.returns
  have hlocks := B.notSynchronized
  have h2n := pow6 (n := n) (by have := hX.2.1; omega)
  obtain ⟨hn, hn6, hz, hz21, hc, hc6⟩ := id hX
  have hl := lv_entry ([.ref (ad 1), .int p0]) (n := 2) (Nat.le_of_ble_eq_true rfl)
  rw [lg_entry_eq]
  generalize (lg_sl ([.ref (ad 1), .int p0]) ++ List.replicate (2 - (lg_sl ([.ref (ad 1), .int p0])).length) Slot.unset).toArray = ls at hl ⊢
  have hl : lv_has ls 2 [(0, .ref (ad 1)), (1, .int p0)] := hl
  refine lv_aload_n E.1 E.2.1 dX0_wantOf_0 rfl (lv_at hl 0 rfl) ?_
  refine lv_iload_n E.1 E.2.1 dX0_wantOf_1 rfl (lv_at hl 1 rfl) ?_
  refine lv_iconst (v := 3) E.1 E.2.1 dX0_wantOf_2 (by decide) ?_
  refine lv_imul (x := p0) (y := 3) E.1 E.2.1 dX0_wantOf_3 ?_
  refine lv_iconst (v := 1) E.1 E.2.1 dX0_wantOf_4 (by decide) ?_
  refine lv_iadd (x := p0 * 3) (y := 1) E.1 E.2.1 dX0_wantOf_5 ?_
  refine g_VR (As := [.int ((p0 * 3) + 1)]) (rest := []) E hK hP (c_X0_digitAt l D cI cB ad f a ta n z c hX ((p0 * 3) + 1)) (cwV 1 E.2.2.2.2 gX0_wantOf_X0_digitAt rfl rfl rfl (by decide +kernel) ⟨Nat.le_of_ble_eq_true rfl, Nat.le_of_ble_eq_true rfl⟩) (rxp hK hP) rfl hl.1 rfl (Nat.le_of_ble_eq_true rfl) dX0_wantOf_6 ⟨Nat.zero_le _, Nat.zero_le _⟩ ?_
  exact W.iret (v := FX0_digitAt f a ta n z c ((p0 * 3) + 1)) E.1 E.2.1 hr (fun t ht _ => ⟨congrArg (fun z : Int32 => Outcome.returned (some (Value.int z))) (show FX0_digitAt f a ta n z c ((p0 * 3) + 1) = FX0_wantOf f a ta n z c p0 from by rw [FX0_wantOf]), ht⟩) (fun q hq => by cases hq) dX0_wantOf_9
def FX0_sunTold (f : Nat → Int32) (a : Nat → Nat → Int32) (ta : Nat → Nat → Int32) (n : Nat) (z : Nat) (c : Nat) : Int32 := FX0_digitAt f a ta n z c ((nI z) - 1)
set_option maxHeartbeats 4000000 in
set_option maxRecDepth 100000 in
/-- the sun told -/
theorem c_X0_sunTold (l : Launch) (D : va_G) (cI cB : ClassId) (ad : Nat → Nat) (f : Nat → Int32) (a ta : Nat → Nat → Int32) (n z c : Nat) (hX : IX n z c f)  : Met l yX0_sunTold wsX0_sunTold ({ frames := 2, cells := 0, slots := 0, locals := 42 }) (GPc D cI cB (wX cI ad f a ta) [.ref (ad 1)]) (QcRead (FX0_sunTold f a ta n z c)) 0 0 (fun _ => False) := by
  refine Met.ofW (cc := cX0_sunTold) (maxL := 1) (ret := (some .int)) (by decide) rfl ?_
  intro p e s m args below meth cd s₁ B hml hv
  obtain ⟨rfl, hP, hK⟩ := hv
  have hts := atoms_spec (ws := wsX0_sunTold) B.pre
  have E : CallFix p m cd cX0_sunTold 1 s _ wsX0_sunTold RX0 := ⟨B.exec, B.bytes, hml, findClass_of_methodNamed B.named, hts⟩
  have hr := B.returns
  have hlocks := B.notSynchronized
  have h2n := pow6 (n := n) (by have := hX.2.1; omega)
  obtain ⟨hn, hn6, hz, hz21, hc, hc6⟩ := id hX
  have in_0 : ∀ w ∈ wsX00, w ∈ wsX0_sunTold := fun _ h => List.mem_cons_of_mem _ (List.mem_append_right _ h)
  have w_0 : (Cond.fieldLink RX0 15 "SnowTerm$Page" "size" "I").before _ s = true := hts _ (by decide +kernel)
  have hl := lv_entry ([.ref (ad 1)]) (n := 1) (Nat.le_of_ble_eq_true rfl)
  rw [lg_entry_eq]
  generalize (lg_sl ([.ref (ad 1)]) ++ List.replicate (1 - (lg_sl ([.ref (ad 1)])).length) Slot.unset).toArray = ls at hl ⊢
  have hl : lv_has ls 1 [(0, .ref (ad 1))] := hl
  refine lv_aload_n E.1 E.2.1 dX0_sunTold_0 rfl (lv_at hl 0 rfl) ?_
  refine lv_aload_n E.1 E.2.1 dX0_sunTold_1 rfl (lv_at hl 0 rfl) ?_
  refine xg_1_1 E hK hP in_0 w_0 dX0_sunTold_2 ?_
  refine lv_topi (fun y_1 ey_1 => ?_)
  obtain rfl : y_1 = nI z := ey_1.trans (hz)
  refine lv_iconst (v := 1) E.1 E.2.1 dX0_sunTold_5 (by decide) ?_
  refine lv_isub (x := nI z) (y := 1) E.1 E.2.1 dX0_sunTold_6 ?_
  refine g_VR (As := [.int ((nI z) - 1)]) (rest := []) E hK hP (c_X0_digitAt l D cI cB ad f a ta n z c hX ((nI z) - 1)) (cwV 1 E.2.2.2.2 gX0_sunTold_X0_digitAt rfl rfl rfl (by decide +kernel) ⟨Nat.le_of_ble_eq_true rfl, Nat.le_of_ble_eq_true rfl⟩) (rxp hK hP) rfl hl.1 rfl (Nat.le_of_ble_eq_true rfl) dX0_sunTold_7 ⟨Nat.zero_le _, Nat.zero_le _⟩ ?_
  exact W.iret (v := FX0_digitAt f a ta n z c ((nI z) - 1)) E.1 E.2.1 hr (fun t ht _ => ⟨congrArg (fun z : Int32 => Outcome.returned (some (Value.int z))) (show FX0_digitAt f a ta n z c ((nI z) - 1) = FX0_sunTold f a ta n z c from by rw [FX0_sunTold]), ht⟩) (fun q hq => by cases hq) dX0_sunTold_10
