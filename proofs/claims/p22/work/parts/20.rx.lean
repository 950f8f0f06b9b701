def FX2_isWithin (p0 : Int32) (p1 : Int32) (p2 : Int32) : Int32 := (if p0 < p1 then 0 else (if p2 < p0 then 0 else 1))
set_option maxHeartbeats 4000000 in
set_option maxRecDepth 100000 in
/-- within -/
theorem c_X2_isWithin (l : Launch) (D : va_G) (cI cB : ClassId)  (p0 : Int32) (p1 : Int32) (p2 : Int32) : Met l yX2_isWithin wsX2_isWithin ({ frames := 0, cells := 0, slots := 0, locals := 0 }) (GPc D cI cB ([]) [.int p0, .int p1, .int p2]) (QcRead (FX2_isWithin p0 p1 p2)) 0 0 (fun _ => False) := by
  refine Met.ofW (cc := cX2_isWithin) (maxL := 3) (ret := (some .boolean)) (by decide) rfl ?_
  intro p e s m args below meth cd s₁ B hml hv
  obtain ⟨rfl, hP, hK⟩ := hv
  have hts := atoms_spec (ws := wsX2_isWithin) B.pre
  have E : CallFix p m cd cX2_isWithin 3 s _ wsX2_isWithin RX2 := ⟨B.exec, B.bytes, hml, findClass_of_methodNamed B.named, hts⟩
  have hr := B.returns
  have hlocks := B.notSynchronized
  have hl := lv_entry ([.int p0, .int p1, .int p2]) (n := 3) (Nat.le_of_ble_eq_true rfl)
  rw [lg_entry_eq]
  generalize (lg_sl ([.int p0, .int p1, .int p2]) ++ List.replicate (3 - (lg_sl ([.int p0, .int p1, .int p2])).length) Slot.unset).toArray = ls at hl ⊢
  have hl : lv_has ls 3 [(0, .int p0), (1, .int p1), (2, .int p2)] := hl
  refine lv_iload_n E.1 E.2.1 dX2_isWithin_0 rfl (lv_at hl 0 rfl) ?_
  refine lv_iload_n E.1 E.2.1 dX2_isWithin_1 rfl (lv_at hl 1 rfl) ?_
  refine lv_icmp_lt (x := p0) (y := p1) (tgt := 14) E.1 E.2.1 dX2_isWithin_2 (by decide) (fun h2 => ?_) (fun h2 => ?_)
  · have h2 := h2
    refine lv_iconst (v := 0) E.1 E.2.1 dX2_isWithin_14 (by decide) ?_
    exact W.zret (v := 0) E.1 E.2.1 hr rfl (fun t ht _ => ⟨congrArg (fun z : Int32 => Outcome.returned (some (Value.int z))) (show 0 = FX2_isWithin p0 p1 p2 from by rw [FX2_isWithin, if_pos h2]), ht⟩) (fun q hq => by cases hq) dX2_isWithin_15
  · have h2 := h2
    refine lv_iload_n E.1 E.2.1 dX2_isWithin_5 rfl (lv_at hl 0 rfl) ?_
    refine lv_iload_n E.1 E.2.1 dX2_isWithin_6 rfl (lv_at hl 2 rfl) ?_
    refine lv_icmp_gt (x := p0) (y := p2) (tgt := 14) E.1 E.2.1 dX2_isWithin_7 (by decide) (fun h7 => ?_) (fun h7 => ?_)
    · have h7 := h7
      refine lv_iconst (v := 0) E.1 E.2.1 dX2_isWithin_14 (by decide) ?_
      exact W.zret (v := 0) E.1 E.2.1 hr rfl (fun t ht _ => ⟨congrArg (fun z : Int32 => Outcome.returned (some (Value.int z))) (show 0 = FX2_isWithin p0 p1 p2 from by rw [FX2_isWithin, if_neg h2, if_pos h7]), ht⟩) (fun q hq => by cases hq) dX2_isWithin_15
    · have h7 := h7
      refine lv_iconst (v := 1) E.1 E.2.1 dX2_isWithin_10 (by decide) ?_
      refine lv_goto (tgt := 15) E.1 E.2.1 dX2_isWithin_11 (by decide) ?_
      exact W.zret (v := 1) E.1 E.2.1 hr rfl (fun t ht _ => ⟨congrArg (fun z : Int32 => Outcome.returned (some (Value.int z))) (show 1 = FX2_isWithin p0 p1 p2 from by rw [FX2_isWithin, if_neg h2, if_neg h7]), ht⟩) (fun q hq => by cases hq) dX2_isWithin_15
def FX2_hasBit (p0 : Int32) (p1 : Int32) : Int32 := (if (p0 >>> (p1 &&& 31)) &&& 1 = 1 then 1 else 0)
set_option maxHeartbeats 4000000 in
set_option maxRecDepth 100000 in
/-- a bit -/
theorem c_X2_hasBit (l : Launch) (D : va_G) (cI cB : ClassId)  (p0 : Int32) (p1 : Int32) : Met l yX2_hasBit wsX2_hasBit ({ frames := 0, cells := 0, slots := 0, locals := 0 }) (GPc D cI cB ([]) [.int p0, .int p1]) (QcRead (FX2_hasBit p0 p1)) 0 0 (fun _ => False) := by
  refine Met.ofW (cc := cX2_hasBit) (maxL := 2) (ret := (some .boolean)) (by decide) rfl ?_
  intro p e s m args below meth cd s₁ B hml hv
  obtain ⟨rfl, hP, hK⟩ := hv
  have hts := atoms_spec (ws := wsX2_hasBit) B.pre
  have E : CallFix p m cd cX2_hasBit 2 s _ wsX2_hasBit RX2 := ⟨B.exec, B.bytes, hml, findClass_of_methodNamed B.named, hts⟩
  have hr := B.returns
  have hlocks := B.notSynchronized
  have hl := lv_entry ([.int p0, .int p1]) (n := 2) (Nat.le_of_ble_eq_true rfl)
  rw [lg_entry_eq]
  generalize (lg_sl ([.int p0, .int p1]) ++ List.replicate (2 - (lg_sl ([.int p0, .int p1])).length) Slot.unset).toArray = ls at hl ⊢
  have hl : lv_has ls 2 [(0, .int p0), (1, .int p1)] := hl
  refine lv_iload_n E.1 E.2.1 dX2_hasBit_0 rfl (lv_at hl 0 rfl) ?_
  refine lv_iload_n E.1 E.2.1 dX2_hasBit_1 rfl (lv_at hl 1 rfl) ?_
  refine lv_ishr (x := p0) (y := p1) E.1 E.2.1 dX2_hasBit_2 ?_
  refine lv_iconst (v := 1) E.1 E.2.1 dX2_hasBit_3 (by decide) ?_
  refine lv_iand (x := p0 >>> (p1 &&& 31)) (y := 1) E.1 E.2.1 dX2_hasBit_4 ?_
  refine lv_iconst (v := 1) E.1 E.2.1 dX2_hasBit_5 (by decide) ?_
  refine lv_icmp_ne (x := (p0 >>> (p1 &&& 31)) &&& 1) (y := 1) (tgt := 13) E.1 E.2.1 dX2_hasBit_6 (by decide) (fun h6 => ?_) (fun h6 => ?_)
  · have h6 := h6
    refine lv_iconst (v := 0) E.1 E.2.1 dX2_hasBit_13 (by decide) ?_
    exact W.zret (v := 0) E.1 E.2.1 hr rfl (fun t ht _ => ⟨congrArg (fun z : Int32 => Outcome.returned (some (Value.int z))) (show 0 = FX2_hasBit p0 p1 from by rw [FX2_hasBit, if_neg h6]), ht⟩) (fun q hq => by cases hq) dX2_hasBit_14
  · have h6 := h6
    refine lv_iconst (v := 1) E.1 E.2.1 dX2_hasBit_9 (by decide) ?_
    refine lv_goto (tgt := 14) E.1 E.2.1 dX2_hasBit_10 (by decide) ?_
    exact W.zret (v := 1) E.1 E.2.1 hr rfl (fun t ht _ => ⟨congrArg (fun z : Int32 => Outcome.returned (some (Value.int z))) (show 1 = FX2_hasBit p0 p1 from by rw [FX2_hasBit, if_pos h6]), ht⟩) (fun q hq => by cases hq) dX2_hasBit_14
def FX2_mixed (p0 : Int64) (p1 : Int32) : Int64 := (31 * p0) + p1.toInt64
set_option maxHeartbeats 4000000 in
set_option maxRecDepth 100000 in
/-- 31 h + n -/
theorem c_X2_mixed (l : Launch) (D : va_G) (cI cB : ClassId)  (p0 : Int64) (p1 : Int32) : Met l yX2_mixed wsX2_mixed ({ frames := 0, cells := 0, slots := 0, locals := 0 }) (GPc D cI cB ([]) [.long p0, .int p1]) (QcL (FX2_mixed p0 p1)) 0 0 (fun _ => False) := by
  refine Met.ofW (cc := cX2_mixed) (maxL := 3) (ret := (some .long)) (by decide) rfl ?_
  intro p e s m args below meth cd s₁ B hml hv
  obtain ⟨rfl, hP, hK⟩ := hv
  have hts := atoms_spec (ws := wsX2_mixed) B.pre
  have E : CallFix p m cd cX2_mixed 3 s _ wsX2_mixed RX2 := ⟨B.exec, B.bytes, hml, findClass_of_methodNamed B.named, hts⟩
  have hr := B.returns
  have hlocks := B.notSynchronized
  have w_0 : (Cond.constantLong RX2 234 31).before _ s = true := hts _ (by decide +kernel)
  have hl := lv_entry ([.long p0, .int p1]) (n := 3) (Nat.le_of_ble_eq_true rfl)
  rw [lg_entry_eq]
  generalize (lg_sl ([.long p0, .int p1]) ++ List.replicate (3 - (lg_sl ([.long p0, .int p1])).length) Slot.unset).toArray = ls at hl ⊢
  have hl : lv_has ls 3 [(0, .long p0), (2, .int p1)] := hl
  refine lv_ldc2 (v := 31) E.1 E.2.1 E.2.2.2.1 w_0 dX2_mixed_0 ?_
  refine lv_lload_n E.1 E.2.1 dX2_mixed_3 rfl (lv_at hl 0 rfl) ?_
  refine lv_lmul (x := 31) (y := p0) E.1 E.2.1 dX2_mixed_4 ?_
  refine lv_iload_n E.1 E.2.1 dX2_mixed_5 rfl (lv_at hl 1 rfl) ?_
  refine lv_i2l E.1 E.2.1 dX2_mixed_6 rfl ?_
  refine lv_ladd (x := 31 * p0) (y := p1.toInt64) E.1 E.2.1 dX2_mixed_7 ?_
  exact W.lret (v := (31 * p0) + p1.toInt64) E.1 E.2.1 hr (fun t ht _ => ⟨(31 * p0) + p1.toInt64, rfl, (by rw [FX2_mixed]), ht⟩) (fun q hq => by cases hq) dX2_mixed_8
def FX2_seedAfter (p0 : Int32) : Int32 := (((1103515245 * p0.toInt64) + 12345) - ((1103515245 * p0.toInt64) + 12345) / 2147483648 * 2147483648).toInt32
set_option maxHeartbeats 4000000 in
set_option maxRecDepth 100000 in
/-- the next seed -/
theorem c_X2_seedAfter (l : Launch) (D : va_G) (cI cB : ClassId)  (p0 : Int32) : Met l yX2_seedAfter wsX2_seedAfter ({ frames := 0, cells := 0, slots := 0, locals := 0 }) (GPc D cI cB ([]) [.int p0]) (QcRead (FX2_seedAfter p0)) 0 0 (fun _ => False) := by
  refine Met.ofW (cc := cX2_seedAfter) (maxL := 1) (ret := (some .int)) (by decide) rfl ?_
  intro p e s m args below meth cd s₁ B hml hv
  obtain ⟨rfl, hP, hK⟩ := hv
  have hts := atoms_spec (ws := wsX2_seedAfter) B.pre
  have E : CallFix p m cd cX2_seedAfter 1 s _ wsX2_seedAfter RX2 := ⟨B.exec, B.bytes, hml, findClass_of_methodNamed B.named, hts⟩
  have hr := B.returns
  have hlocks := B.notSynchronized
  have w_0 : (Cond.constantLong RX2 236 1103515245).before _ s = true := hts _ (by decide +kernel)
  have w_1 : (Cond.constantLong RX2 238 12345).before _ s = true := hts _ (by decide +kernel)
  have w_2 : (Cond.constantLong RX2 240 2147483648).before _ s = true := hts _ (by decide +kernel)
  have hl := lv_entry ([.int p0]) (n := 1) (Nat.le_of_ble_eq_true rfl)
  rw [lg_entry_eq]
  generalize (lg_sl ([.int p0]) ++ List.replicate (1 - (lg_sl ([.int p0])).length) Slot.unset).toArray = ls at hl ⊢
  have hl : lv_has ls 1 [(0, .int p0)] := hl
  refine lv_ldc2 (v := 1103515245) E.1 E.2.1 E.2.2.2.1 w_0 dX2_seedAfter_0 ?_
  refine lv_iload_n E.1 E.2.1 dX2_seedAfter_3 rfl (lv_at hl 0 rfl) ?_
  refine lv_i2l E.1 E.2.1 dX2_seedAfter_4 rfl ?_
  refine lv_lmul (x := 1103515245) (y := p0.toInt64) E.1 E.2.1 dX2_seedAfter_5 ?_
  refine lv_ldc2 (v := 12345) E.1 E.2.1 E.2.2.2.1 w_1 dX2_seedAfter_6 ?_
  refine lv_ladd (x := 1103515245 * p0.toInt64) (y := 12345) E.1 E.2.1 dX2_seedAfter_9 ?_
  refine lv_ldc2 (v := 2147483648) E.1 E.2.1 E.2.2.2.1 w_2 dX2_seedAfter_10 ?_
  refine lv_lrem (x := (1103515245 * p0.toInt64) + 12345) (y := 2147483648) E.1 E.2.1 dX2_seedAfter_13 (by decide) ?_
  refine lv_l2i E.1 E.2.1 dX2_seedAfter_14 rfl ?_
  exact W.iret (v := (((1103515245 * p0.toInt64) + 12345) - ((1103515245 * p0.toInt64) + 12345) / 2147483648 * 2147483648).toInt32) E.1 E.2.1 hr (fun t ht _ => ⟨congrArg (fun z : Int32 => Outcome.returned (some (Value.int z))) (show (((1103515245 * p0.toInt64) + 12345) - ((1103515245 * p0.toInt64) + 12345) / 2147483648 * 2147483648).toInt32 = FX2_seedAfter p0 from by rw [FX2_seedAfter]), ht⟩) (fun q hq => by cases hq) dX2_seedAfter_15
def FX2_drawOf (p0 : Int32) (p1 : Int32) : Int32 := (if p0 ≤ 0 then 0 else (p1 / 65536) - (p1 / 65536) / p0 * p0)
set_option maxHeartbeats 4000000 in
set_option maxRecDepth 100000 in
/-- a draw -/
theorem c_X2_drawOf (l : Launch) (D : va_G) (cI cB : ClassId)  (p0 : Int32) (p1 : Int32) : Met l yX2_drawOf wsX2_drawOf ({ frames := 0, cells := 0, slots := 0, locals := 0 }) (GPc D cI cB ([]) [.int p0, .int p1]) (QcRead (FX2_drawOf p0 p1)) 0 0 (fun _ => False) := by
  refine Met.ofW (cc := cX2_drawOf) (maxL := 2) (ret := (some .int)) (by decide) rfl ?_
  intro p e s m args below meth cd s₁ B hml hv
  obtain ⟨rfl, hP, hK⟩ := hv
  have hts := atoms_spec (ws := wsX2_drawOf) B.pre
  have E : CallFix p m cd cX2_drawOf 2 s _ wsX2_drawOf RX2 := ⟨B.exec, B.bytes, hml, findClass_of_methodNamed B.named, hts⟩
  have hr := B.returns
  have hlocks := B.notSynchronized
  have w_0 : (Cond.constant RX2 242 65536).before _ s = true := hts _ (by decide +kernel)
  have hl := lv_entry ([.int p0, .int p1]) (n := 2) (Nat.le_of_ble_eq_true rfl)
  rw [lg_entry_eq]
  generalize (lg_sl ([.int p0, .int p1]) ++ List.replicate (2 - (lg_sl ([.int p0, .int p1])).length) Slot.unset).toArray = ls at hl ⊢
  have hl : lv_has ls 2 [(0, .int p0), (1, .int p1)] := hl
  refine lv_iload_n E.1 E.2.1 dX2_drawOf_0 rfl (lv_at hl 0 rfl) ?_
  refine lv_if_le (x := p0) (tgt := 13) E.1 E.2.1 dX2_drawOf_1 (by decide) (fun h1 => ?_) (fun h1 => ?_)
  · have h1 := h1
    refine lv_iconst (v := 0) E.1 E.2.1 dX2_drawOf_13 (by decide) ?_
    exact W.iret (v := 0) E.1 E.2.1 hr (fun t ht _ => ⟨congrArg (fun z : Int32 => Outcome.returned (some (Value.int z))) (show 0 = FX2_drawOf p0 p1 from by rw [FX2_drawOf, if_pos h1]), ht⟩) (fun q hq => by cases hq) dX2_drawOf_14
  · have h1 := h1
    refine lv_iload_n E.1 E.2.1 dX2_drawOf_4 rfl (lv_at hl 1 rfl) ?_
    refine lv_ldc (v := 65536) E.1 E.2.1 E.2.2.2.1 w_0 dX2_drawOf_5 ?_
    refine lv_idiv (x := p1) (y := 65536) E.1 E.2.1 dX2_drawOf_7 (by decide) ?_
    refine lv_iload_n E.1 E.2.1 dX2_drawOf_8 rfl (lv_at hl 0 rfl) ?_
    refine lv_irem (x := p1 / 65536) (y := p0) E.1 E.2.1 dX2_drawOf_9 (fun h8 => h1 (by rw [h8]; exact Int32.le_refl 0)) ?_
    refine lv_goto (tgt := 14) E.1 E.2.1 dX2_drawOf_10 (by decide) ?_
    exact W.iret (v := (p1 / 65536) - (p1 / 65536) / p0 * p0) E.1 E.2.1 hr (fun t ht _ => ⟨congrArg (fun z : Int32 => Outcome.returned (some (Value.int z))) (show (p1 / 65536) - (p1 / 65536) / p0 * p0 = FX2_drawOf p0 p1 from by rw [FX2_drawOf, if_neg h1]), ht⟩) (fun q hq => by cases hq) dX2_drawOf_14
def FX2_isOfKind (p0 : Int32) (p1 : Int32) : Int32 := (if p1 = 0 then 1 else (if p1 = p0 then 1 else (if p1 = 2 then (if p0 = 4 then 1 else 0) else 0)))
set_option maxHeartbeats 4000000 in
set_option maxRecDepth 100000 in
/-- is it of the kind -/
theorem c_X2_isOfKind (l : Launch) (D : va_G) (cI cB : ClassId)  (p0 : Int32) (p1 : Int32) : Met l yX2_isOfKind wsX2_isOfKind ({ frames := 0, cells := 0, slots := 0, locals := 0 }) (GPc D cI cB ([]) [.int p0, .int p1]) (QcRead (FX2_isOfKind p0 p1)) 0 0 (fun _ => False) := by
  refine Met.ofW (cc := cX2_isOfKind) (maxL := 2) (ret := (some .boolean)) (by decide) rfl ?_
  intro p e s m args below meth cd s₁ B hml hv
  obtain ⟨rfl, hP, hK⟩ := hv
  have hts := atoms_spec (ws := wsX2_isOfKind) B.pre
  have E : CallFix p m cd cX2_isOfKind 2 s _ wsX2_isOfKind RX2 := ⟨B.exec, B.bytes, hml, findClass_of_methodNamed B.named, hts⟩
  have hr := B.returns
  have hlocks := B.notSynchronized
  have hl := lv_entry ([.int p0, .int p1]) (n := 2) (Nat.le_of_ble_eq_true rfl)
  rw [lg_entry_eq]
  generalize (lg_sl ([.int p0, .int p1]) ++ List.replicate (2 - (lg_sl ([.int p0, .int p1])).length) Slot.unset).toArray = ls at hl ⊢
  have hl : lv_has ls 2 [(0, .int p0), (1, .int p1)] := hl
  refine lv_iload_n E.1 E.2.1 dX2_isOfKind_0 rfl (lv_at hl 1 rfl) ?_
  refine lv_if_eq (x := p1) (tgt := 19) E.1 E.2.1 dX2_isOfKind_1 (by decide) (fun h1 => ?_) (fun h1 => ?_)
  · have h1 := h1
    refine lv_iconst (v := 1) E.1 E.2.1 dX2_isOfKind_19 (by decide) ?_
    refine lv_goto (tgt := 24) E.1 E.2.1 dX2_isOfKind_20 (by decide) ?_
    exact W.zret (v := 1) E.1 E.2.1 hr rfl (fun t ht _ => ⟨congrArg (fun z : Int32 => Outcome.returned (some (Value.int z))) (show 1 = FX2_isOfKind p0 p1 from by rw [FX2_isOfKind, if_pos h1]), ht⟩) (fun q hq => by cases hq) dX2_isOfKind_24
  · have h1 := h1
    refine lv_iload_n E.1 E.2.1 dX2_isOfKind_4 rfl (lv_at hl 1 rfl) ?_
    refine lv_iload_n E.1 E.2.1 dX2_isOfKind_5 rfl (lv_at hl 0 rfl) ?_
    refine lv_icmp_eq (x := p1) (y := p0) (tgt := 19) E.1 E.2.1 dX2_isOfKind_6 (by decide) (fun h6 => ?_) (fun h6 => ?_)
    · have h6 := h6
      refine lv_iconst (v := 1) E.1 E.2.1 dX2_isOfKind_19 (by decide) ?_
      refine lv_goto (tgt := 24) E.1 E.2.1 dX2_isOfKind_20 (by decide) ?_
      exact W.zret (v := 1) E.1 E.2.1 hr rfl (fun t ht _ => ⟨congrArg (fun z : Int32 => Outcome.returned (some (Value.int z))) (show 1 = FX2_isOfKind p0 p1 from by rw [FX2_isOfKind, if_neg h1, if_pos h6]), ht⟩) (fun q hq => by cases hq) dX2_isOfKind_24
    · have h6 := h6
      refine lv_iload_n E.1 E.2.1 dX2_isOfKind_9 rfl (lv_at hl 1 rfl) ?_
      refine lv_iconst (v := 2) E.1 E.2.1 dX2_isOfKind_10 (by decide) ?_
      refine lv_icmp_ne (x := p1) (y := 2) (tgt := 23) E.1 E.2.1 dX2_isOfKind_11 (by decide) (fun h11 => ?_) (fun h11 => ?_)
      · have h11 := h11
        refine lv_iconst (v := 0) E.1 E.2.1 dX2_isOfKind_23 (by decide) ?_
        exact W.zret (v := 0) E.1 E.2.1 hr rfl (fun t ht _ => ⟨congrArg (fun z : Int32 => Outcome.returned (some (Value.int z))) (show 0 = FX2_isOfKind p0 p1 from by rw [FX2_isOfKind, if_neg h1, if_neg h6, if_neg h11]), ht⟩) (fun q hq => by cases hq) dX2_isOfKind_24
      · have h11 := h11
        refine lv_iload_n E.1 E.2.1 dX2_isOfKind_14 rfl (lv_at hl 0 rfl) ?_
        refine lv_iconst (v := 4) E.1 E.2.1 dX2_isOfKind_15 (by decide) ?_
        refine lv_icmp_ne (x := p0) (y := 4) (tgt := 23) E.1 E.2.1 dX2_isOfKind_16 (by decide) (fun h16 => ?_) (fun h16 => ?_)
        · have h16 := h16
          refine lv_iconst (v := 0) E.1 E.2.1 dX2_isOfKind_23 (by decide) ?_
          exact W.zret (v := 0) E.1 E.2.1 hr rfl (fun t ht _ => ⟨congrArg (fun z : Int32 => Outcome.returned (some (Value.int z))) (show 0 = FX2_isOfKind p0 p1 from by rw [FX2_isOfKind, if_neg h1, if_neg h6, if_pos h11, if_neg h16]), ht⟩) (fun q hq => by cases hq) dX2_isOfKind_24
        · have h16 := h16
          refine lv_iconst (v := 1) E.1 E.2.1 dX2_isOfKind_19 (by decide) ?_
          refine lv_goto (tgt := 24) E.1 E.2.1 dX2_isOfKind_20 (by decide) ?_
          exact W.zret (v := 1) E.1 E.2.1 hr rfl (fun t ht _ => ⟨congrArg (fun z : Int32 => Outcome.returned (some (Value.int z))) (show 1 = FX2_isOfKind p0 p1 from by rw [FX2_isOfKind, if_neg h1, if_neg h6, if_pos h11, if_pos h16]), ht⟩) (fun q hq => by cases hq) dX2_isOfKind_24
def FX2_melting (p0 : Int32) (p1 : Int32) (p2 : Int32) : Int32 := (if p0 = 1 then (if p1 + p2 ≤ 2 then 0 else (p1 + p2) - 2) else (if p0 = 2 then (p1 + p2) / 2 else (if p0 = 3 then p1 else (if p0 = 4 then (if p1 + p2 ≤ 2 then 0 else ((p1 + p2) / 2) - 1) else p1 + p2))))
set_option maxHeartbeats 4000000 in
set_option maxRecDepth 100000 in
/-- how much melts -/
theorem c_X2_melting (l : Launch) (D : va_G) (cI cB : ClassId)  (p0 : Int32) (p1 : Int32) (p2 : Int32) : Met l yX2_melting wsX2_melting ({ frames := 0, cells := 0, slots := 0, locals := 0 }) (GPc D cI cB ([]) [.int p0, .int p1, .int p2]) (QcRead (FX2_melting p0 p1 p2)) 0 0 (fun _ => False) := by
  refine Met.ofW (cc := cX2_melting) (maxL := 4) (ret := (some .int)) (by decide) rfl ?_
  intro p e s m args below meth cd s₁ B hml hv
  obtain ⟨rfl, hP, hK⟩ := hv
  have hts := atoms_spec (ws := wsX2_melting) B.pre
  have E : CallFix p m cd cX2_melting 4 s _ wsX2_melting RX2 := ⟨B.exec, B.bytes, hml, findClass_of_methodNamed B.named, hts⟩
  have hr := B.returns
  have hlocks := B.notSynchronized
  have hl := lv_entry ([.int p0, .int p1, .int p2]) (n := 4) (Nat.le_of_ble_eq_true rfl)
  rw [lg_entry_eq]
  generalize (lg_sl ([.int p0, .int p1, .int p2]) ++ List.replicate (4 - (lg_sl ([.int p0, .int p1, .int p2])).length) Slot.unset).toArray = ls at hl ⊢
  have hl : lv_has ls 4 [(0, .int p0), (1, .int p1), (2, .int p2)] := hl
  refine lv_iload_n E.1 E.2.1 dX2_melting_0 rfl (lv_at hl 1 rfl) ?_
  refine lv_iload_n E.1 E.2.1 dX2_melting_1 rfl (lv_at hl 2 rfl) ?_
  refine lv_iadd (x := p1) (y := p2) E.1 E.2.1 dX2_melting_2 ?_
  refine lv_istore_n (lv' := [(3, .int (p1 + p2)), (0, .int p0), (1, .int p1), (2, .int p2)]) E.1 E.2.1 dX2_melting_3 rfl hl (by decide) rfl (fun ls hl => ?_)
  refine lv_iload_n E.1 E.2.1 dX2_melting_4 rfl (lv_at hl 1 rfl) ?_
  by_cases hs5_1 : p0 = 1
  · have hs5_1 := hs5_1
    refine lv_topi (fun y9 ey9 => ?_)
    obtain rfl : y9 = 1 := ey9.trans hs5_1
    refine lv_tableIn (x := 1) (off := 31) (tgt := 36) E.1 E.2.1 dX2_melting_5 (by decide) (by decide) (by decide) (by decide) ?_
    refine lv_iload_n E.1 E.2.1 dX2_melting_36 rfl (lv_at hl 0 rfl) ?_
    refine lv_iconst (v := 2) E.1 E.2.1 dX2_melting_37 (by decide) ?_
    refine lv_icmp_le (x := p1 + p2) (y := 2) (tgt := 47) E.1 E.2.1 dX2_melting_38 (by decide) (fun h38 => ?_) (fun h38 => ?_)
    · have h38 := h38
      refine lv_iconst (v := 0) E.1 E.2.1 dX2_melting_47 (by decide) ?_
      exact W.iret (v := 0) E.1 E.2.1 hr (fun t ht _ => ⟨congrArg (fun z : Int32 => Outcome.returned (some (Value.int z))) (show 0 = FX2_melting p0 p1 p2 from by rw [FX2_melting, if_pos hs5_1, if_pos h38]), ht⟩) (fun q hq => by cases hq) dX2_melting_48
    · have h38 := h38
      refine lv_iload_n E.1 E.2.1 dX2_melting_41 rfl (lv_at hl 0 rfl) ?_
      refine lv_iconst (v := 2) E.1 E.2.1 dX2_melting_42 (by decide) ?_
      refine lv_isub (x := p1 + p2) (y := 2) E.1 E.2.1 dX2_melting_43 ?_
      refine lv_goto (tgt := 48) E.1 E.2.1 dX2_melting_44 (by decide) ?_
      exact W.iret (v := (p1 + p2) - 2) E.1 E.2.1 hr (fun t ht _ => ⟨congrArg (fun z : Int32 => Outcome.returned (some (Value.int z))) (show (p1 + p2) - 2 = FX2_melting p0 p1 p2 from by rw [FX2_melting, if_pos hs5_1, if_neg h38]), ht⟩) (fun q hq => by cases hq) dX2_melting_48
  · have hs5_1 := hs5_1
    by_cases hs5_2 : p0 = 2
    · have hs5_2 := hs5_2
      refine lv_topi (fun y9 ey9 => ?_)
      obtain rfl : y9 = 2 := ey9.trans hs5_2
      refine lv_tableIn (x := 2) (off := 44) (tgt := 49) E.1 E.2.1 dX2_melting_5 (by decide) (by decide) (by decide) (by decide) ?_
      refine lv_iload_n E.1 E.2.1 dX2_melting_49 rfl (lv_at hl 0 rfl) ?_
      refine lv_iconst (v := 2) E.1 E.2.1 dX2_melting_50 (by decide) ?_
      refine lv_idiv (x := p1 + p2) (y := 2) E.1 E.2.1 dX2_melting_51 (by decide) ?_
      exact W.iret (v := (p1 + p2) / 2) E.1 E.2.1 hr (fun t ht _ => ⟨congrArg (fun z : Int32 => Outcome.returned (some (Value.int z))) (show (p1 + p2) / 2 = FX2_melting p0 p1 p2 from by rw [FX2_melting, if_neg hs5_1, if_pos hs5_2]), ht⟩) (fun q hq => by cases hq) dX2_melting_52
    · have hs5_2 := hs5_2
      by_cases hs5_3 : p0 = 3
      · have hs5_3 := hs5_3
        refine lv_topi (fun y9 ey9 => ?_)
        obtain rfl : y9 = 3 := ey9.trans hs5_3
        refine lv_tableIn (x := 3) (off := 48) (tgt := 53) E.1 E.2.1 dX2_melting_5 (by decide) (by decide) (by decide) (by decide) ?_
        refine lv_iload_n E.1 E.2.1 dX2_melting_53 rfl (lv_at hl 2 rfl) ?_
        exact W.iret (v := p1) E.1 E.2.1 hr (fun t ht _ => ⟨congrArg (fun z : Int32 => Outcome.returned (some (Value.int z))) (show p1 = FX2_melting p0 p1 p2 from by rw [FX2_melting, if_neg hs5_1, if_neg hs5_2, if_pos hs5_3]), ht⟩) (fun q hq => by cases hq) dX2_melting_54
      · have hs5_3 := hs5_3
        by_cases hs5_4 : p0 = 4
        · have hs5_4 := hs5_4
          refine lv_topi (fun y9 ey9 => ?_)
          obtain rfl : y9 = 4 := ey9.trans hs5_4
          refine lv_tableIn (x := 4) (off := 50) (tgt := 55) E.1 E.2.1 dX2_melting_5 (by decide) (by decide) (by decide) (by decide) ?_
          refine lv_iload_n E.1 E.2.1 dX2_melting_55 rfl (lv_at hl 0 rfl) ?_
          refine lv_iconst (v := 2) E.1 E.2.1 dX2_melting_56 (by decide) ?_
          refine lv_icmp_le (x := p1 + p2) (y := 2) (tgt := 68) E.1 E.2.1 dX2_melting_57 (by decide) (fun h57 => ?_) (fun h57 => ?_)
          · have h57 := h57
            refine lv_iconst (v := 0) E.1 E.2.1 dX2_melting_68 (by decide) ?_
            exact W.iret (v := 0) E.1 E.2.1 hr (fun t ht _ => ⟨congrArg (fun z : Int32 => Outcome.returned (some (Value.int z))) (show 0 = FX2_melting p0 p1 p2 from by rw [FX2_melting, if_neg hs5_1, if_neg hs5_2, if_neg hs5_3, if_pos hs5_4, if_pos h57]), ht⟩) (fun q hq => by cases hq) dX2_melting_69
          · have h57 := h57
            refine lv_iload_n E.1 E.2.1 dX2_melting_60 rfl (lv_at hl 0 rfl) ?_
            refine lv_iconst (v := 2) E.1 E.2.1 dX2_melting_61 (by decide) ?_
            refine lv_idiv (x := p1 + p2) (y := 2) E.1 E.2.1 dX2_melting_62 (by decide) ?_
            refine lv_iconst (v := 1) E.1 E.2.1 dX2_melting_63 (by decide) ?_
            refine lv_isub (x := (p1 + p2) / 2) (y := 1) E.1 E.2.1 dX2_melting_64 ?_
            refine lv_goto (tgt := 69) E.1 E.2.1 dX2_melting_65 (by decide) ?_
            exact W.iret (v := ((p1 + p2) / 2) - 1) E.1 E.2.1 hr (fun t ht _ => ⟨congrArg (fun z : Int32 => Outcome.returned (some (Value.int z))) (show ((p1 + p2) / 2) - 1 = FX2_melting p0 p1 p2 from by rw [FX2_melting, if_neg hs5_1, if_neg hs5_2, if_neg hs5_3, if_pos hs5_4, if_neg h57]), ht⟩) (fun q hq => by cases hq) dX2_melting_69
        · have hs5_4 := hs5_4
          refine lv_tableOut (x := p0) (tgt := 70) E.1 E.2.1 dX2_melting_5 (by have q0 := lv_neT hs5_1 (a := 1) (by decide); have q1 := lv_neT hs5_2 (a := 2) (by decide); have q2 := lv_neT hs5_3 (a := 3) (by decide); have q3 := lv_neT hs5_4 (a := 4) (by decide); omega) (by decide) ?_
          refine lv_iload_n E.1 E.2.1 dX2_melting_70 rfl (lv_at hl 0 rfl) ?_
          exact W.iret (v := p1 + p2) E.1 E.2.1 hr (fun t ht _ => ⟨congrArg (fun z : Int32 => Outcome.returned (some (Value.int z))) (show p1 + p2 = FX2_melting p0 p1 p2 from by rw [FX2_melting, if_neg hs5_1, if_neg hs5_2, if_neg hs5_3, if_neg hs5_4]), ht⟩) (fun q hq => by cases hq) dX2_melting_71
def FX2_deepened (p0 : Int32) (p1 : Int32) : Int32 := (if p0 + p1 < 30 then p0 + p1 else 30)
set_option maxHeartbeats 4000000 in
set_option maxRecDepth 100000 in
/-- deeper by loads -/
theorem c_X2_deepened (l : Launch) (D : va_G) (cI cB : ClassId)  (p0 : Int32) (p1 : Int32) : Met l yX2_deepened wsX2_deepened ({ frames := 1, cells := 0, slots := 0, locals := 13 }) (GPc D cI cB ([]) [.int p0, .int p1]) (QcRead (FX2_deepened p0 p1)) 0 0 (fun _ => False) := by
  refine Met.ofW (cc := cX2_deepened) (maxL := 2) (ret := (some .int)) (by decide) rfl ?_
  intro p e s m args below meth cd s₁ B hml hv
  obtain ⟨rfl, hP, hK⟩ := hv
  have hts := atoms_spec (ws := wsX2_deepened) B.pre
  have E : CallFix p m cd cX2_deepened 2 s _ wsX2_deepened RX2 := ⟨B.exec, B.bytes, hml, findClass_of_methodNamed B.named, hts⟩
  have hr := B.returns
  have hlocks := B.notSynchronized
  have w_0 : (Cond.methodLink RX2 246 Lib.Math.min.name).before _ s = true := hts _ (by decide +kernel)
  have w_1 : (Cond.static Lib.Math.min.name).before _ s = true := hts _ (by decide +kernel)
  have w_2 : (Cond.initialized "java/lang/Math").before _ s = true := hts _ (by decide +kernel)
  have w_3 : (Cond.code Lib.Math.min.name Lib.Math.min.code 2 (some .int)).before _ s = true := hts _ (by decide +kernel)
  have hl := lv_entry ([.int p0, .int p1]) (n := 2) (Nat.le_of_ble_eq_true rfl)
  rw [lg_entry_eq]
  generalize (lg_sl ([.int p0, .int p1]) ++ List.replicate (2 - (lg_sl ([.int p0, .int p1])).length) Slot.unset).toArray = ls at hl ⊢
  have hl : lv_has ls 2 [(0, .int p0), (1, .int p1)] := hl
  refine lv_bipush (v := 30) E.1 E.2.1 dX2_deepened_0 (by decide) ?_
  refine lv_iload_n E.1 E.2.1 dX2_deepened_2 rfl (lv_at hl 0 rfl) ?_
  refine lv_iload_n E.1 E.2.1 dX2_deepened_3 rfl (lv_at hl 1 rfl) ?_
  refine lv_iadd (x := p0) (y := p1) E.1 E.2.1 dX2_deepened_4 ?_
  refine va_mmin (x := 30) (y := p0 + p1) E.1 E.2.1 (E.2.2.1.trans hl.1.symm) E.2.2.2.1 w_0 w_1 w_2 w_3 (Nat.le_of_ble_eq_true rfl) (Nat.le_of_ble_eq_true rfl) (Nat.zero_le _) (Nat.zero_le _) dX2_deepened_5 ?_
  exact W.iret (v := (if p0 + p1 < 30 then p0 + p1 else 30)) E.1 E.2.1 hr (fun t ht _ => ⟨congrArg (fun z : Int32 => Outcome.returned (some (Value.int z))) (show (if p0 + p1 < 30 then p0 + p1 else 30) = FX2_deepened p0 p1 from by rw [FX2_deepened]), ht⟩) (fun q hq => by cases hq) dX2_deepened_8
def FX2_leftOf (p0 : Int32) (p1 : Int32) : Int32 := (if p0 ≤ p1 then 0 else p0 - p1)
set_option maxHeartbeats 4000000 in
set_option maxRecDepth 100000 in
/-- what is left -/
theorem c_X2_leftOf (l : Launch) (D : va_G) (cI cB : ClassId)  (p0 : Int32) (p1 : Int32) : Met l yX2_leftOf wsX2_leftOf ({ frames := 0, cells := 0, slots := 0, locals := 0 }) (GPc D cI cB ([]) [.int p0, .int p1]) (QcRead (FX2_leftOf p0 p1)) 0 0 (fun _ => False) := by
  refine Met.ofW (cc := cX2_leftOf) (maxL := 2) (ret := (some .int)) (by decide) rfl ?_
  intro p e s m args below meth cd s₁ B hml hv
  obtain ⟨rfl, hP, hK⟩ := hv
  have hts := atoms_spec (ws := wsX2_leftOf) B.pre
  have E : CallFix p m cd cX2_leftOf 2 s _ wsX2_leftOf RX2 := ⟨B.exec, B.bytes, hml, findClass_of_methodNamed B.named, hts⟩
  have hr := B.returns
  have hlocks := B.notSynchronized
  have hl := lv_entry ([.int p0, .int p1]) (n := 2) (Nat.le_of_ble_eq_true rfl)
  rw [lg_entry_eq]
  generalize (lg_sl ([.int p0, .int p1]) ++ List.replicate (2 - (lg_sl ([.int p0, .int p1])).length) Slot.unset).toArray = ls at hl ⊢
  have hl : lv_has ls 2 [(0, .int p0), (1, .int p1)] := hl
  refine lv_iload_n E.1 E.2.1 dX2_leftOf_0 rfl (lv_at hl 0 rfl) ?_
  refine lv_iload_n E.1 E.2.1 dX2_leftOf_1 rfl (lv_at hl 1 rfl) ?_
  refine lv_icmp_le (x := p0) (y := p1) (tgt := 11) E.1 E.2.1 dX2_leftOf_2 (by decide) (fun h2 => ?_) (fun h2 => ?_)
  · have h2 := h2
    refine lv_iconst (v := 0) E.1 E.2.1 dX2_leftOf_11 (by decide) ?_
    exact W.iret (v := 0) E.1 E.2.1 hr (fun t ht _ => ⟨congrArg (fun z : Int32 => Outcome.returned (some (Value.int z))) (show 0 = FX2_leftOf p0 p1 from by rw [FX2_leftOf, if_pos h2]), ht⟩) (fun q hq => by cases hq) dX2_leftOf_12
  · have h2 := h2
    refine lv_iload_n E.1 E.2.1 dX2_leftOf_5 rfl (lv_at hl 0 rfl) ?_
    refine lv_iload_n E.1 E.2.1 dX2_leftOf_6 rfl (lv_at hl 1 rfl) ?_
    refine lv_isub (x := p0) (y := p1) E.1 E.2.1 dX2_leftOf_7 ?_
    refine lv_goto (tgt := 12) E.1 E.2.1 dX2_leftOf_8 (by decide) ?_
    exact W.iret (v := p0 - p1) E.1 E.2.1 hr (fun t ht _ => ⟨congrArg (fun z : Int32 => Outcome.returned (some (Value.int z))) (show p0 - p1 = FX2_leftOf p0 p1 from by rw [FX2_leftOf, if_neg h2]), ht⟩) (fun q hq => by cases hq) dX2_leftOf_12
def FX2_priceAt (p0 : Int32) : Int32 := p0 + 1
set_option maxHeartbeats 4000000 in
set_option maxRecDepth 100000 in
/-- a site's price -/
theorem c_X2_priceAt (l : Launch) (D : va_G) (cI cB : ClassId)  (p0 : Int32) : Met l yX2_priceAt wsX2_priceAt ({ frames := 0, cells := 0, slots := 0, locals := 0 }) (GPc D cI cB ([]) [.int p0]) (QcRead (FX2_priceAt p0)) 0 0 (fun _ => False) := by
  refine Met.ofW (cc := cX2_priceAt) (maxL := 1) (ret := (some .int)) (by decide) rfl ?_
  intro p e s m args below meth cd s₁ B hml hv
  obtain ⟨rfl, hP, hK⟩ := hv
  have hts := atoms_spec (ws := wsX2_priceAt) B.pre
  have E : CallFix p m cd cX2_priceAt 1 s _ wsX2_priceAt RX2 := ⟨B.exec, B.bytes, hml, findClass_of_methodNamed B.named, hts⟩
  have hr := B.returns
  have hlocks := B.notSynchronized
  have hl := lv_entry ([.int p0]) (n := 1) (Nat.le_of_ble_eq_true rfl)
  rw [lg_entry_eq]
  generalize (lg_sl ([.int p0]) ++ List.replicate (1 - (lg_sl ([.int p0])).length) Slot.unset).toArray = ls at hl ⊢
  have hl : lv_has ls 1 [(0, .int p0)] := hl
  refine lv_iload_n E.1 E.2.1 dX2_priceAt_0 rfl (lv_at hl 0 rfl) ?_
  refine lv_iconst (v := 1) E.1 E.2.1 dX2_priceAt_1 (by decide) ?_
  refine lv_iadd (x := p0) (y := 1) E.1 E.2.1 dX2_priceAt_2 ?_
  exact W.iret (v := p0 + 1) E.1 E.2.1 hr (fun t ht _ => ⟨congrArg (fun z : Int32 => Outcome.returned (some (Value.int z))) (show p0 + 1 = FX2_priceAt p0 from by rw [FX2_priceAt]), ht⟩) (fun q hq => by cases hq) dX2_priceAt_3
def FJ6_bitCount_0f7a4 (p0 : Int32) : Int32 := (bcE (bcD (bcC (bcB (bcA p0))))) &&& 63
set_option maxHeartbeats 4000000 in
set_option maxRecDepth 100000 in
/-- bits -/
theorem c_J6_bitCount_0f7a4 (l : Launch) (D : va_G) (cI cB : ClassId)  (p0 : Int32) : Met l yJ6_bitCount_0f7a4 wsJ6_bitCount_0f7a4 ({ frames := 0, cells := 0, slots := 0, locals := 0 }) (GPc D cI cB ([]) [.int p0]) (QcRead (FJ6_bitCount_0f7a4 p0)) 0 0 (fun _ => False) := by
  refine Met.ofW (cc := cJ6_bitCount_0f7a4) (maxL := 1) (ret := (some .int)) (by decide) rfl ?_
  intro p e s m args below meth cd s₁ B hml hv
  obtain ⟨rfl, hP, hK⟩ := hv
  have hts := atoms_spec (ws := wsJ6_bitCount_0f7a4) B.pre
  have E : CallFix p m cd cJ6_bitCount_0f7a4 1 s _ wsJ6_bitCount_0f7a4 RJ6 := ⟨B.exec, B.bytes, hml, findClass_of_methodNamed B.named, hts⟩
  have hr := B.returns
  have hlocks := B.notSynchronized
  have w_0 : (Cond.constant RJ6 265 1431655765).before _ s = true := hts _ (by decide +kernel)
  have w_1 : (Cond.constant RJ6 266 858993459).before _ s = true := hts _ (by decide +kernel)
  have w_2 : (Cond.constant RJ6 267 252645135).before _ s = true := hts _ (by decide +kernel)
  have hl := lv_entry ([.int p0]) (n := 1) (Nat.le_of_ble_eq_true rfl)
  rw [lg_entry_eq]
  generalize (lg_sl ([.int p0]) ++ List.replicate (1 - (lg_sl ([.int p0])).length) Slot.unset).toArray = ls at hl ⊢
  have hl : lv_has ls 1 [(0, .int p0)] := hl
  refine lv_iload_n E.1 E.2.1 dJ6_bitCount_0f7a4_0 rfl (lv_at hl 0 rfl) ?_
  refine lv_iload_n E.1 E.2.1 dJ6_bitCount_0f7a4_1 rfl (lv_at hl 0 rfl) ?_
  refine lv_iconst (v := 1) E.1 E.2.1 dJ6_bitCount_0f7a4_2 (by decide) ?_
  refine lv_iushr (x := p0) (y := 1) E.1 E.2.1 dJ6_bitCount_0f7a4_3 rfl ?_
  refine lv_ldcw (v := 1431655765) E.1 E.2.1 E.2.2.2.1 w_0 dJ6_bitCount_0f7a4_4 ?_
  refine lv_iand (x := (Int32.toUInt32 p0 >>> (Int32.toUInt32 1 &&& Int32.toUInt32 31)).toInt32) (y := 1431655765) E.1 E.2.1 dJ6_bitCount_0f7a4_7 ?_
  refine lv_isub (x := p0) (y := ((Int32.toUInt32 p0 >>> (Int32.toUInt32 1 &&& Int32.toUInt32 31)).toInt32) &&& 1431655765) E.1 E.2.1 dJ6_bitCount_0f7a4_8 ?_
  refine lv_topi (fun y_1 ey_1 => ?_)
  obtain rfl : y_1 = bcA p0 := ey_1.trans (rfl)
  refine lv_istore_n (lv' := [(0, .int (bcA p0))]) E.1 E.2.1 dJ6_bitCount_0f7a4_9 rfl hl (by decide) rfl (fun ls hl => ?_)
  refine lv_iload_n E.1 E.2.1 dJ6_bitCount_0f7a4_10 rfl (lv_at hl 0 rfl) ?_
  refine lv_ldcw (v := 858993459) E.1 E.2.1 E.2.2.2.1 w_1 dJ6_bitCount_0f7a4_11 ?_
  refine lv_iand (x := bcA p0) (y := 858993459) E.1 E.2.1 dJ6_bitCount_0f7a4_14 ?_
  refine lv_iload_n E.1 E.2.1 dJ6_bitCount_0f7a4_15 rfl (lv_at hl 0 rfl) ?_
  refine lv_iconst (v := 2) E.1 E.2.1 dJ6_bitCount_0f7a4_16 (by decide) ?_
  refine lv_iushr (x := bcA p0) (y := 2) E.1 E.2.1 dJ6_bitCount_0f7a4_17 rfl ?_
  refine lv_ldcw (v := 858993459) E.1 E.2.1 E.2.2.2.1 w_1 dJ6_bitCount_0f7a4_18 ?_
  refine lv_iand (x := (Int32.toUInt32 (bcA p0) >>> (Int32.toUInt32 2 &&& Int32.toUInt32 31)).toInt32) (y := 858993459) E.1 E.2.1 dJ6_bitCount_0f7a4_21 ?_
  refine lv_iadd (x := (bcA p0) &&& 858993459) (y := ((Int32.toUInt32 (bcA p0) >>> (Int32.toUInt32 2 &&& Int32.toUInt32 31)).toInt32) &&& 858993459) E.1 E.2.1 dJ6_bitCount_0f7a4_22 ?_
  refine lv_topi (fun y_2 ey_2 => ?_)
  obtain rfl : y_2 = bcB (bcA p0) := ey_2.trans (rfl)
  refine lv_istore_n (lv' := [(0, .int (bcB (bcA p0)))]) E.1 E.2.1 dJ6_bitCount_0f7a4_23 rfl hl (by decide) rfl (fun ls hl => ?_)
  refine lv_iload_n E.1 E.2.1 dJ6_bitCount_0f7a4_24 rfl (lv_at hl 0 rfl) ?_
  refine lv_iload_n E.1 E.2.1 dJ6_bitCount_0f7a4_25 rfl (lv_at hl 0 rfl) ?_
  refine lv_iconst (v := 4) E.1 E.2.1 dJ6_bitCount_0f7a4_26 (by decide) ?_
  refine lv_iushr (x := bcB (bcA p0)) (y := 4) E.1 E.2.1 dJ6_bitCount_0f7a4_27 rfl ?_
  refine lv_iadd (x := bcB (bcA p0)) (y := (Int32.toUInt32 (bcB (bcA p0)) >>> (Int32.toUInt32 4 &&& Int32.toUInt32 31)).toInt32) E.1 E.2.1 dJ6_bitCount_0f7a4_28 ?_
  refine lv_ldcw (v := 252645135) E.1 E.2.1 E.2.2.2.1 w_2 dJ6_bitCount_0f7a4_29 ?_
  refine lv_iand (x := (bcB (bcA p0)) + ((Int32.toUInt32 (bcB (bcA p0)) >>> (Int32.toUInt32 4 &&& Int32.toUInt32 31)).toInt32)) (y := 252645135) E.1 E.2.1 dJ6_bitCount_0f7a4_32 ?_
  refine lv_topi (fun y_3 ey_3 => ?_)
  obtain rfl : y_3 = bcC (bcB (bcA p0)) := ey_3.trans (rfl)
  refine lv_istore_n (lv' := [(0, .int (bcC (bcB (bcA p0))))]) E.1 E.2.1 dJ6_bitCount_0f7a4_33 rfl hl (by decide) rfl (fun ls hl => ?_)
  refine lv_iload_n E.1 E.2.1 dJ6_bitCount_0f7a4_34 rfl (lv_at hl 0 rfl) ?_
  refine lv_iload_n E.1 E.2.1 dJ6_bitCount_0f7a4_35 rfl (lv_at hl 0 rfl) ?_
  refine lv_bipush (v := 8) E.1 E.2.1 dJ6_bitCount_0f7a4_36 (by decide) ?_
  refine lv_iushr (x := bcC (bcB (bcA p0))) (y := 8) E.1 E.2.1 dJ6_bitCount_0f7a4_38 rfl ?_
  refine lv_iadd (x := bcC (bcB (bcA p0))) (y := (Int32.toUInt32 (bcC (bcB (bcA p0))) >>> (Int32.toUInt32 8 &&& Int32.toUInt32 31)).toInt32) E.1 E.2.1 dJ6_bitCount_0f7a4_39 ?_
  refine lv_topi (fun y_4 ey_4 => ?_)
  obtain rfl : y_4 = bcD (bcC (bcB (bcA p0))) := ey_4.trans (rfl)
  refine lv_istore_n (lv' := [(0, .int (bcD (bcC (bcB (bcA p0)))))]) E.1 E.2.1 dJ6_bitCount_0f7a4_40 rfl hl (by decide) rfl (fun ls hl => ?_)
  refine lv_iload_n E.1 E.2.1 dJ6_bitCount_0f7a4_41 rfl (lv_at hl 0 rfl) ?_
  refine lv_iload_n E.1 E.2.1 dJ6_bitCount_0f7a4_42 rfl (lv_at hl 0 rfl) ?_
  refine lv_bipush (v := 16) E.1 E.2.1 dJ6_bitCount_0f7a4_43 (by decide) ?_
  refine lv_iushr (x := bcD (bcC (bcB (bcA p0)))) (y := 16) E.1 E.2.1 dJ6_bitCount_0f7a4_45 rfl ?_
  refine lv_iadd (x := bcD (bcC (bcB (bcA p0)))) (y := (Int32.toUInt32 (bcD (bcC (bcB (bcA p0)))) >>> (Int32.toUInt32 16 &&& Int32.toUInt32 31)).toInt32) E.1 E.2.1 dJ6_bitCount_0f7a4_46 ?_
  refine lv_topi (fun y_5 ey_5 => ?_)
  obtain rfl : y_5 = bcE (bcD (bcC (bcB (bcA p0)))) := ey_5.trans (rfl)
  refine lv_istore_n (lv' := [(0, .int (bcE (bcD (bcC (bcB (bcA p0))))))]) E.1 E.2.1 dJ6_bitCount_0f7a4_47 rfl hl (by decide) rfl (fun ls hl => ?_)
  refine lv_iload_n E.1 E.2.1 dJ6_bitCount_0f7a4_48 rfl (lv_at hl 0 rfl) ?_
  refine lv_bipush (v := 63) E.1 E.2.1 dJ6_bitCount_0f7a4_49 (by decide) ?_
  refine lv_iand (x := bcE (bcD (bcC (bcB (bcA p0))))) (y := 63) E.1 E.2.1 dJ6_bitCount_0f7a4_51 ?_
  exact W.iret (v := (bcE (bcD (bcC (bcB (bcA p0))))) &&& 63) E.1 E.2.1 hr (fun t ht _ => ⟨congrArg (fun z : Int32 => Outcome.returned (some (Value.int z))) (show (bcE (bcD (bcC (bcB (bcA p0))))) &&& 63 = FJ6_bitCount_0f7a4 p0 from by rw [FJ6_bitCount_0f7a4]), ht⟩) (fun q hq => by cases hq) dJ6_bitCount_0f7a4_52
def FX2_isSite (f : Nat → Int32) (a : Nat → Nat → Int32) (ta : Nat → Nat → Int32) (n : Nat) (z : Nat) (c : Nat) (p0 : Int32) : Int32 := (if p0 < 0 then 0 else (if nI n ≤ p0 then 0 else 1))
set_option maxHeartbeats 4000000 in
set_option maxRecDepth 100000 in
/-- is it a site -/
theorem c_X2_isSite (l : Launch) (D : va_G) (cI cB : ClassId) (ad : Nat → Nat) (f : Nat → Int32) (a ta : Nat → Nat → Int32) (n z c : Nat) (hX : IX n z c f) (p0 : Int32) : Met l yX2_isSite wsX2_isSite ({ frames := 0, cells := 0, slots := 0, locals := 0 }) (GPc D cI cB (wX cI ad f a ta) [.ref (ad 0), .int p0]) (QcRead (FX2_isSite f a ta n z c p0)) 0 0 (fun _ => False) := by
  refine Met.ofW (cc := cX2_isSite) (maxL := 2) (ret := (some .boolean)) (by decide) rfl ?_
  intro p e s m args below meth cd s₁ B hml hv
  obtain ⟨rfl, hP, hK⟩ := hv
  have hts := atoms_spec (ws := wsX2_isSite) B.pre
  have E : CallFix p m cd cX2_isSite 2 s _ wsX2_isSite RX2 := ⟨B.exec, B.bytes, hml, findClass_of_methodNamed B.named, hts⟩
  have hr := B.returns
  have hlocks := B.notSynchronized
  have h2n := pow6 (n := n) (by have := hX.2.1; omega)
  obtain ⟨hn, hn6, hz, hz21, hc, hc6⟩ := id hX
  have in_2 : ∀ w ∈ wsX20, w ∈ wsX2_isSite := fun _ h => List.mem_cons_of_mem _ (List.mem_append_right _ h)
  have w_0 : (Cond.fieldLink RX2 39 "SnowTerm" "sites" "I").before _ s = true := hts _ (by decide +kernel)
  have hl := lv_entry ([.ref (ad 0), .int p0]) (n := 2) (Nat.le_of_ble_eq_true rfl)
  rw [lg_entry_eq]
  generalize (lg_sl ([.ref (ad 0), .int p0]) ++ List.replicate (2 - (lg_sl ([.ref (ad 0), .int p0])).length) Slot.unset).toArray = ls at hl ⊢
  have hl : lv_has ls 2 [(0, .ref (ad 0)), (1, .int p0)] := hl
  refine lv_iload_n E.1 E.2.1 dX2_isSite_0 rfl (lv_at hl 1 rfl) ?_
  refine lv_if_lt (x := p0) (tgt := 16) E.1 E.2.1 dX2_isSite_1 (by decide) (fun h1 => ?_) (fun h1 => ?_)
  · have h1 := h1
    refine lv_iconst (v := 0) E.1 E.2.1 dX2_isSite_16 (by decide) ?_
    exact W.zret (v := 0) E.1 E.2.1 hr rfl (fun t ht _ => ⟨congrArg (fun z : Int32 => Outcome.returned (some (Value.int z))) (show 0 = FX2_isSite f a ta n z c p0 from by rw [FX2_isSite, if_pos h1]), ht⟩) (fun q hq => by cases hq) dX2_isSite_17
  · have h1 := h1
    refine lv_iload_n E.1 E.2.1 dX2_isSite_4 rfl (lv_at hl 1 rfl) ?_
    refine lv_aload_n E.1 E.2.1 dX2_isSite_5 rfl (lv_at hl 0 rfl) ?_
    refine xg_0_7 E hK hP in_2 w_0 dX2_isSite_6 ?_
    refine lv_topi (fun y_1 ey_1 => ?_)
    obtain rfl : y_1 = nI n := ey_1.trans (hn)
    refine lv_icmp_ge (x := p0) (y := nI n) (tgt := 16) E.1 E.2.1 dX2_isSite_9 (by decide) (fun h9 => ?_) (fun h9 => ?_)
    · have h9 := h9
      refine lv_iconst (v := 0) E.1 E.2.1 dX2_isSite_16 (by decide) ?_
      exact W.zret (v := 0) E.1 E.2.1 hr rfl (fun t ht _ => ⟨congrArg (fun z : Int32 => Outcome.returned (some (Value.int z))) (show 0 = FX2_isSite f a ta n z c p0 from by rw [FX2_isSite, if_neg h1, if_pos h9]), ht⟩) (fun q hq => by cases hq) dX2_isSite_17
    · have h9 := h9
      refine lv_iconst (v := 1) E.1 E.2.1 dX2_isSite_12 (by decide) ?_
      refine lv_goto (tgt := 17) E.1 E.2.1 dX2_isSite_13 (by decide) ?_
      exact W.zret (v := 1) E.1 E.2.1 hr rfl (fun t ht _ => ⟨congrArg (fun z : Int32 => Outcome.returned (some (Value.int z))) (show 1 = FX2_isSite f a ta n z c p0 from by rw [FX2_isSite, if_neg h1, if_neg h9]), ht⟩) (fun q hq => by cases hq) dX2_isSite_17
theorem site_X {f : Nat → Int32} {a ta : Nat → Nat → Int32} {n z c : Nat} {x : Int32} (hX : IX n z c f) (h : ¬ FX2_isSite f a ta n z c x = 0) : vp_in x 6 := by
  rw [FX2_isSite] at h
  by_cases h1 : x < 0
  · rw [if_pos h1] at h; exact absurd rfl h
  · rw [if_neg h1] at h
    by_cases h2 : nI n ≤ x
    · rw [if_pos h2] at h; exact absurd rfl h
    · exact in_lt h1 h2 hX.2.1 (by omega)

def FX2_isKeptWith (f : Nat → Int32) (a : Nat → Nat → Int32) (ta : Nat → Nat → Int32) (n : Nat) (z : Nat) (c : Nat) (p0 : Int32) (p1 : Int32) : Int32 := (if p1 < a 3 p0.toNatClampNeg then 0 else 1)
set_option maxHeartbeats 4000000 in
set_option maxRecDepth 100000 in
/-- is it kept so deep -/
theorem c_X2_isKeptWith (l : Launch) (D : va_G) (cI cB : ClassId) (ad : Nat → Nat) (f : Nat → Int32) (a ta : Nat → Nat → Int32) (n z c : Nat) (hX : IX n z c f) (p0 : Int32) (p1 : Int32) (hs0 : vp_in p0 6) : Met l yX2_isKeptWith wsX2_isKeptWith ({ frames := 0, cells := 0, slots := 0, locals := 0 }) (GPc D cI cB (wX cI ad f a ta) [.ref (ad 0), .int p0, .int p1]) (QcRead (FX2_isKeptWith f a ta n z c p0 p1)) 0 0 (fun _ => False) := by
  refine Met.ofW (cc := cX2_isKeptWith) (maxL := 3) (ret := (some .boolean)) (by decide) rfl ?_
  intro p e s m args below meth cd s₁ B hml hv
  obtain ⟨rfl, hP, hK⟩ := hv
  have hts := atoms_spec (ws := wsX2_isKeptWith) B.pre
  have E : CallFix p m cd cX2_isKeptWith 3 s _ wsX2_isKeptWith RX2 := ⟨B.exec, B.bytes, hml, findClass_of_methodNamed B.named, hts⟩
  have hr := B.returns
  have hlocks := B.notSynchronized
  have h2n := pow6 (n := n) (by have := hX.2.1; omega)
  obtain ⟨hn, hn6, hz, hz21, hc, hc6⟩ := id hX
  have in_2 : ∀ w ∈ wsX20, w ∈ wsX2_isKeptWith := fun _ h => List.mem_cons_of_mem _ (List.mem_append_right _ h)
  have w_0 : (Cond.fieldLink RX2 20 "SnowTerm" "wants" "[I").before _ s = true := hts _ (by decide +kernel)
  have hl := lv_entry ([.ref (ad 0), .int p0, .int p1]) (n := 3) (Nat.le_of_ble_eq_true rfl)
  rw [lg_entry_eq]
  generalize (lg_sl ([.ref (ad 0), .int p0, .int p1]) ++ List.replicate (3 - (lg_sl ([.ref (ad 0), .int p0, .int p1])).length) Slot.unset).toArray = ls at hl ⊢
  have hl : lv_has ls 3 [(0, .ref (ad 0)), (1, .int p0), (2, .int p1)] := hl
  refine lv_iload_n E.1 E.2.1 dX2_isKeptWith_0 rfl (lv_at hl 2 rfl) ?_
  refine lv_aload_n E.1 E.2.1 dX2_isKeptWith_1 rfl (lv_at hl 0 rfl) ?_
  refine xg_0_2 E hK hP in_2 w_0 dX2_isKeptWith_2 ?_
  refine lv_iload_n E.1 E.2.1 dX2_isKeptWith_5 rfl (lv_at hl 1 rfl) ?_
  refine xl_3 (i := p0) E hK hP (hs0) dX2_isKeptWith_6 ?_
  refine lv_icmp_lt (x := p1) (y := a 3 p0.toNatClampNeg) (tgt := 14) E.1 E.2.1 dX2_isKeptWith_7 (by decide) (fun h7 => ?_) (fun h7 => ?_)
  · have h7 := h7
    refine lv_iconst (v := 0) E.1 E.2.1 dX2_isKeptWith_14 (by decide) ?_
    exact W.zret (v := 0) E.1 E.2.1 hr rfl (fun t ht _ => ⟨congrArg (fun z : Int32 => Outcome.returned (some (Value.int z))) (show 0 = FX2_isKeptWith f a ta n z c p0 p1 from by rw [FX2_isKeptWith, if_pos h7]), ht⟩) (fun q hq => by cases hq) dX2_isKeptWith_15
  · have h7 := h7
    refine lv_iconst (v := 1) E.1 E.2.1 dX2_isKeptWith_10 (by decide) ?_
    refine lv_goto (tgt := 15) E.1 E.2.1 dX2_isKeptWith_11 (by decide) ?_
    exact W.zret (v := 1) E.1 E.2.1 hr rfl (fun t ht _ => ⟨congrArg (fun z : Int32 => Outcome.returned (some (Value.int z))) (show 1 = FX2_isKeptWith f a ta n z c p0 p1 from by rw [FX2_isKeptWith, if_neg h7]), ht⟩) (fun q hq => by cases hq) dX2_isKeptWith_15
def FX2_meltsNow (f : Nat → Int32) (a : Nat → Nat → Int32) (ta : Nat → Nat → Int32) (n : Nat) (z : Nat) (c : Nat) (p0 : Int32) : Int32 := FX2_melting (a 2 p0.toNatClampNeg) (f 5) (a 11 p0.toNatClampNeg)
set_option maxHeartbeats 4000000 in
set_option maxRecDepth 100000 in
/-- what melts there -/
theorem c_X2_meltsNow (l : Launch) (D : va_G) (cI cB : ClassId) (ad : Nat → Nat) (f : Nat → Int32) (a ta : Nat → Nat → Int32) (n z c : Nat) (hX : IX n z c f) (p0 : Int32) (hs0 : vp_in p0 6) : Met l yX2_meltsNow wsX2_meltsNow ({ frames := 1, cells := 0, slots := 0, locals := 23 }) (GPc D cI cB (wX cI ad f a ta) [.ref (ad 0), .int p0]) (QcRead (FX2_meltsNow f a ta n z c p0)) 0 0 (fun _ => False) := by
  refine Met.ofW (cc := cX2_meltsNow) (maxL := 2) (ret := (some .int)) (by decide) rfl ?_
  intro p e s m args below meth cd s₁ B hml hv
  obtain ⟨rfl, hP, hK⟩ := hv
  have hts := atoms_spec (ws := wsX2_meltsNow) B.pre
  have E : CallFix p m cd cX2_meltsNow 2 s _ wsX2_meltsNow RX2 := ⟨B.exec, B.bytes, hml, findClass_of_methodNamed B.named, hts⟩
  have hr := B.returns
  have hlocks := B.notSynchronized
  have h2n := pow6 (n := n) (by have := hX.2.1; omega)
  obtain ⟨hn, hn6, hz, hz21, hc, hc6⟩ := id hX
  have in_1 : ∀ w ∈ wsX10, w ∈ wsX2_meltsNow := fun _ h => List.mem_cons_of_mem _ (List.mem_append_right _ h)
  have in_2 : ∀ w ∈ wsX20, w ∈ wsX2_meltsNow := fun _ h => List.mem_cons_of_mem _ (List.mem_append_left _ (List.mem_append_right _ h))
  have w_0 : (Cond.fieldLink RX2 16 "SnowTerm" "kinds" "[I").before _ s = true := hts _ (by decide +kernel)
  have w_1 : (Cond.fieldLink RX2 26 "SnowTerm" "now" "LSnowTerm$Term;").before _ s = true := hts _ (by decide +kernel)
  have w_2 : (Cond.fieldLink RX2 121 "SnowTerm$Term" "sun" "I").before _ s = true := hts _ (by decide +kernel)
  have w_3 : (Cond.fieldLink RX2 95 "SnowTerm$Term" "feet" "[I").before _ s = true := hts _ (by decide +kernel)
  have hl := lv_entry ([.ref (ad 0), .int p0]) (n := 2) (Nat.le_of_ble_eq_true rfl)
  rw [lg_entry_eq]
  generalize (lg_sl ([.ref (ad 0), .int p0]) ++ List.replicate (2 - (lg_sl ([.ref (ad 0), .int p0])).length) Slot.unset).toArray = ls at hl ⊢
  have hl : lv_has ls 2 [(0, .ref (ad 0)), (1, .int p0)] := hl
  refine lv_aload_n E.1 E.2.1 dX2_meltsNow_0 rfl (lv_at hl 0 rfl) ?_
  refine xg_0_1 E hK hP in_2 w_0 dX2_meltsNow_1 ?_
  refine lv_iload_n E.1 E.2.1 dX2_meltsNow_4 rfl (lv_at hl 1 rfl) ?_
  refine xl_2 (i := p0) E hK hP (hs0) dX2_meltsNow_5 ?_
  refine lv_aload_n E.1 E.2.1 dX2_meltsNow_6 rfl (lv_at hl 0 rfl) ?_
  refine xg_0_3 E hK hP in_2 w_1 dX2_meltsNow_7 ?_
  refine xg_4_1 E hK hP in_1 w_2 dX2_meltsNow_10 ?_
  refine lv_aload_n E.1 E.2.1 dX2_meltsNow_13 rfl (lv_at hl 0 rfl) ?_
  refine xg_0_3 E hK hP in_2 w_1 dX2_meltsNow_14 ?_
  refine xg_4_6 E hK hP in_1 w_3 dX2_meltsNow_17 ?_
  refine lv_iload_n E.1 E.2.1 dX2_meltsNow_20 rfl (lv_at hl 1 rfl) ?_
  refine xl_11 (i := p0) E hK hP (hs0) dX2_meltsNow_21 ?_
  refine g_SR (As := [.int (a 2 p0.toNatClampNeg), .int (f 5), .int (a 11 p0.toNatClampNeg)]) (rest := []) E hK (c_X2_melting l D cI cB (a 2 p0.toNatClampNeg) (f 5) (a 11 p0.toNatClampNeg)) (va_cwS 3 E.2.2.2.2 gX2_meltsNow_X2_melting rfl rfl rfl (by decide +kernel) ⟨Nat.le_of_ble_eq_true rfl, Nat.le_of_ble_eq_true rfl⟩) rfl hl.1 rfl (Nat.le_of_ble_eq_true rfl) dX2_meltsNow_22 ⟨Nat.zero_le _, Nat.zero_le _⟩ ?_
  exact W.iret (v := FX2_melting (a 2 p0.toNatClampNeg) (f 5) (a 11 p0.toNatClampNeg)) E.1 E.2.1 hr (fun t ht _ => ⟨congrArg (fun z : Int32 => Outcome.returned (some (Value.int z))) (show FX2_melting (a 2 p0.toNatClampNeg) (f 5) (a 11 p0.toNatClampNeg) = FX2_meltsNow f a ta n z c p0 from by rw [FX2_meltsNow]), ht⟩) (fun q hq => by cases hq) dX2_meltsNow_25
def FX2_loadsNeeded (f : Nat → Int32) (a : Nat → Nat → Int32) (ta : Nat → Nat → Int32) (n : Nat) (z : Nat) (c : Nat) (p0 : Int32) (p1 : Int32) : Int32 := (if (a 3 p0.toNatClampNeg) + (p1 * (FX2_meltsNow f a ta n z c p0)) ≤ 30 then (if 0 < ((a 3 p0.toNatClampNeg) + (p1 * (FX2_meltsNow f a ta n z c p0))) - (a 9 p0.toNatClampNeg) then ((a 3 p0.toNatClampNeg) + (p1 * (FX2_meltsNow f a ta n z c p0))) - (a 9 p0.toNatClampNeg) else 0) else (-1))
set_option maxHeartbeats 4000000 in
set_option maxRecDepth 100000 in
/-- what a site needs -/
theorem c_X2_loadsNeeded (l : Launch) (D : va_G) (cI cB : ClassId) (ad : Nat → Nat) (f : Nat → Int32) (a ta : Nat → Nat → Int32) (n z c : Nat) (hX : IX n z c f) (p0 : Int32) (p1 : Int32) (hs0 : vp_in p0 6) : Met l yX2_loadsNeeded wsX2_loadsNeeded ({ frames := 2, cells := 0, slots := 0, locals := 44 }) (GPc D cI cB (wX cI ad f a ta) [.ref (ad 0), .int p0, .int p1]) (QcRead (FX2_loadsNeeded f a ta n z c p0 p1)) 0 0 (fun _ => False) := by
  refine Met.ofW (cc := cX2_loadsNeeded) (maxL := 4) (ret := (some .int)) (by decide) rfl ?_
  intro p e s m args below meth cd s₁ B hml hv
  obtain ⟨rfl, hP, hK⟩ := hv
  have hts := atoms_spec (ws := wsX2_loadsNeeded) B.pre
  have E : CallFix p m cd cX2_loadsNeeded 4 s _ wsX2_loadsNeeded RX2 := ⟨B.exec, B.bytes, hml, findClass_of_methodNamed B.named, hts⟩
  have hr := B.returns
  have hlocks := B.notSynchronized
  have h2n := pow6 (n := n) (by have := hX.2.1; omega)
  obtain ⟨hn, hn6, hz, hz21, hc, hc6⟩ := id hX
  have in_1 : ∀ w ∈ wsX10, w ∈ wsX2_loadsNeeded := fun _ h => List.mem_cons_of_mem _ (List.mem_append_right _ h)
  have in_2 : ∀ w ∈ wsX20, w ∈ wsX2_loadsNeeded := fun _ h => List.mem_cons_of_mem _ (List.mem_append_left _ (List.mem_append_right _ h))
  have w_0 : (Cond.fieldLink RX2 20 "SnowTerm" "wants" "[I").before _ s = true := hts _ (by decide +kernel)
  have w_1 : (Cond.fieldLink RX2 26 "SnowTerm" "now" "LSnowTerm$Term;").before _ s = true := hts _ (by decide +kernel)
  have w_2 : (Cond.fieldLink RX2 92 "SnowTerm$Term" "snow" "[I").before _ s = true := hts _ (by decide +kernel)
  have w_3 : (Cond.methodLink RX2 254 Lib.Math.max.name).before _ s = true := hts _ (by decide +kernel)
  have w_4 : (Cond.static Lib.Math.max.name).before _ s = true := hts _ (by decide +kernel)
  have w_5 : (Cond.initialized "java/lang/Math").before _ s = true := hts _ (by decide +kernel)
  have w_6 : (Cond.code Lib.Math.max.name Lib.Math.max.code 2 (some .int)).before _ s = true := hts _ (by decide +kernel)
  have hl := lv_entry ([.ref (ad 0), .int p0, .int p1]) (n := 4) (Nat.le_of_ble_eq_true rfl)
  rw [lg_entry_eq]
  generalize (lg_sl ([.ref (ad 0), .int p0, .int p1]) ++ List.replicate (4 - (lg_sl ([.ref (ad 0), .int p0, .int p1])).length) Slot.unset).toArray = ls at hl ⊢
  have hl : lv_has ls 4 [(0, .ref (ad 0)), (1, .int p0), (2, .int p1)] := hl
  refine lv_aload_n E.1 E.2.1 dX2_loadsNeeded_0 rfl (lv_at hl 0 rfl) ?_
  refine xg_0_2 E hK hP in_2 w_0 dX2_loadsNeeded_1 ?_
  refine lv_iload_n E.1 E.2.1 dX2_loadsNeeded_4 rfl (lv_at hl 1 rfl) ?_
  refine xl_3 (i := p0) E hK hP (hs0) dX2_loadsNeeded_5 ?_
  refine lv_iload_n E.1 E.2.1 dX2_loadsNeeded_6 rfl (lv_at hl 2 rfl) ?_
  refine lv_aload_n E.1 E.2.1 dX2_loadsNeeded_7 rfl (lv_at hl 0 rfl) ?_
  refine lv_iload_n E.1 E.2.1 dX2_loadsNeeded_8 rfl (lv_at hl 1 rfl) ?_
  refine g_VR (As := [.int p0]) (rest := [.int p1, .int (a 3 p0.toNatClampNeg)]) E hK hP (c_X2_meltsNow l D cI cB ad f a ta n z c hX p0 (hs0)) (cwV 1 E.2.2.2.2 gX2_loadsNeeded_X2_meltsNow rfl rfl rfl (by decide +kernel) ⟨Nat.le_of_ble_eq_true rfl, Nat.le_of_ble_eq_true rfl⟩) (rx hK hP) rfl hl.1 rfl (Nat.le_of_ble_eq_true rfl) dX2_loadsNeeded_9 ⟨Nat.zero_le _, Nat.zero_le _⟩ ?_
  refine lv_imul (x := p1) (y := FX2_meltsNow f a ta n z c p0) E.1 E.2.1 dX2_loadsNeeded_12 ?_
  refine lv_iadd (x := a 3 p0.toNatClampNeg) (y := p1 * (FX2_meltsNow f a ta n z c p0)) E.1 E.2.1 dX2_loadsNeeded_13 ?_
  refine lv_istore_n (lv' := [(3, .int ((a 3 p0.toNatClampNeg) + (p1 * (FX2_meltsNow f a ta n z c p0)))), (0, .ref (ad 0)), (1, .int p0), (2, .int p1)]) E.1 E.2.1 dX2_loadsNeeded_14 rfl hl (by decide) rfl (fun ls hl => ?_)
  refine lv_iload_n E.1 E.2.1 dX2_loadsNeeded_15 rfl (lv_at hl 0 rfl) ?_
  refine lv_bipush (v := 30) E.1 E.2.1 dX2_loadsNeeded_16 (by decide) ?_
  refine lv_icmp_le (x := (a 3 p0.toNatClampNeg) + (p1 * (FX2_meltsNow f a ta n z c p0))) (y := 30) (tgt := 25) E.1 E.2.1 dX2_loadsNeeded_18 (by decide) (fun h18 => ?_) (fun h18 => ?_)
  · have h18 := h18
    refine lv_iconst (v := 0) E.1 E.2.1 dX2_loadsNeeded_25 (by decide) ?_
    refine lv_iload_n E.1 E.2.1 dX2_loadsNeeded_26 rfl (lv_at hl 0 rfl) ?_
    refine lv_aload_n E.1 E.2.1 dX2_loadsNeeded_27 rfl (lv_at hl 1 rfl) ?_
    refine xg_0_3 E hK hP in_2 w_1 dX2_loadsNeeded_28 ?_
    refine xg_4_4 E hK hP in_1 w_2 dX2_loadsNeeded_31 ?_
    refine lv_iload_n E.1 E.2.1 dX2_loadsNeeded_34 rfl (lv_at hl 2 rfl) ?_
    refine xl_9 (i := p0) E hK hP (hs0) dX2_loadsNeeded_35 ?_
    refine lv_isub (x := (a 3 p0.toNatClampNeg) + (p1 * (FX2_meltsNow f a ta n z c p0))) (y := a 9 p0.toNatClampNeg) E.1 E.2.1 dX2_loadsNeeded_36 ?_
    refine va_mmax (x := 0) (y := ((a 3 p0.toNatClampNeg) + (p1 * (FX2_meltsNow f a ta n z c p0))) - (a 9 p0.toNatClampNeg)) E.1 E.2.1 (E.2.2.1.trans hl.1.symm) E.2.2.2.1 w_3 w_4 w_5 w_6 (Nat.le_of_ble_eq_true rfl) (Nat.le_of_ble_eq_true rfl) (Nat.zero_le _) (Nat.zero_le _) dX2_loadsNeeded_37 ?_
    exact W.iret (v := (if 0 < ((a 3 p0.toNatClampNeg) + (p1 * (FX2_meltsNow f a ta n z c p0))) - (a 9 p0.toNatClampNeg) then ((a 3 p0.toNatClampNeg) + (p1 * (FX2_meltsNow f a ta n z c p0))) - (a 9 p0.toNatClampNeg) else 0)) E.1 E.2.1 hr (fun t ht _ => ⟨congrArg (fun z : Int32 => Outcome.returned (some (Value.int z))) (show (if 0 < ((a 3 p0.toNatClampNeg) + (p1 * (FX2_meltsNow f a ta n z c p0))) - (a 9 p0.toNatClampNeg) then ((a 3 p0.toNatClampNeg) + (p1 * (FX2_meltsNow f a ta n z c p0))) - (a 9 p0.toNatClampNeg) else 0) = FX2_loadsNeeded f a ta n z c p0 p1 from by rw [FX2_loadsNeeded, if_pos h18]), ht⟩) (fun q hq => by cases hq) dX2_loadsNeeded_40
  · have h18 := h18
    refine lv_iconst (v := (-1)) E.1 E.2.1 dX2_loadsNeeded_21 (by decide) ?_
    refine lv_goto (tgt := 40) E.1 E.2.1 dX2_loadsNeeded_22 (by decide) ?_
    exact W.iret (v := (-1)) E.1 E.2.1 hr (fun t ht _ => ⟨congrArg (fun z : Int32 => Outcome.returned (some (Value.int z))) (show (-1) = FX2_loadsNeeded f a ta n z c p0 p1 from by rw [FX2_loadsNeeded, if_neg h18]), ht⟩) (fun q hq => by cases hq) dX2_loadsNeeded_40
def FX2_keptIn_at9_L4 (f : Nat → Int32) (a : Nat → Nat → Int32) (ta : Nat → Nat → Int32) (n : Nat) (z : Nat) (c : Nat) : Nat → Nat → Int32 → Int32
  | 0, k_2, x2_1 => x2_1
  | d_1 + 1, k_2, x2_1 => (if FX2_isKeptWith f a ta n z c (nI k_2) (a 9 k_2) = 0 then FX2_keptIn_at9_L4 f a ta n z c d_1 (k_2 + 1) x2_1 else FX2_keptIn_at9_L4 f a ta n z c d_1 (k_2 + 1) (x2_1 + 1))
def FX2_keptIn_at9 (f : Nat → Int32) (a : Nat → Nat → Int32) (ta : Nat → Nat → Int32) (n : Nat) (z : Nat) (c : Nat) : Int32 := FX2_keptIn_at9_L4 f a ta n z c n 0 0
set_option maxHeartbeats 4000000 in
set_option maxRecDepth 100000 in
/-- how many are kept -/
theorem c_X2_keptIn_at9 (l : Launch) (D : va_G) (cI cB : ClassId) (ad : Nat → Nat) (f : Nat → Int32) (a ta : Nat → Nat → Int32) (n z c : Nat) (hX : IX n z c f)  : Met l yX2_keptIn wsX2_keptIn ({ frames := 1, cells := 0, slots := 0, locals := 22 }) (GPc D cI cB (wX cI ad f a ta) [.ref (ad 0), .ref (ad 9)]) (QcRead (FX2_keptIn_at9 f a ta n z c)) 0 0 (fun _ => False) := by
  refine Met.ofW (cc := cX2_keptIn) (maxL := 4) (ret := (some .int)) (by decide) rfl ?_
  intro p e s m args below meth cd s₁ B hml hv
  obtain ⟨rfl, hP, hK⟩ := hv
  have hts := atoms_spec (ws := wsX2_keptIn) B.pre
  have E : CallFix p m cd cX2_keptIn 4 s _ wsX2_keptIn RX2 := ⟨B.exec, B.bytes, hml, findClass_of_methodNamed B.named, hts⟩
  have hr := B.returns
  have hlocks := B.notSynchronized
  have h2n := pow6 (n := n) (by have := hX.2.1; omega)
  obtain ⟨hn, hn6, hz, hz21, hc, hc6⟩ := id hX
  have in_2 : ∀ w ∈ wsX20, w ∈ wsX2_keptIn := fun _ h => List.mem_cons_of_mem _ (List.mem_append_right _ h)
  have w_0 : (Cond.fieldLink RX2 39 "SnowTerm" "sites" "I").before _ s = true := hts _ (by decide +kernel)
  have hl := lv_entry ([.ref (ad 0), .ref (ad 9)]) (n := 4) (Nat.le_of_ble_eq_true rfl)
  rw [lg_entry_eq]
  generalize (lg_sl ([.ref (ad 0), .ref (ad 9)]) ++ List.replicate (4 - (lg_sl ([.ref (ad 0), .ref (ad 9)])).length) Slot.unset).toArray = ls at hl ⊢
  have hl : lv_has ls 4 [(0, .ref (ad 0)), (1, .ref (ad 9))] := hl
  refine lv_iconst (v := 0) E.1 E.2.1 dX2_keptIn_0 (by decide) ?_
  refine lv_istore_n (lv' := [(2, .int 0), (0, .ref (ad 0)), (1, .ref (ad 9))]) E.1 E.2.1 dX2_keptIn_1 rfl hl (by decide) rfl (fun ls hl => ?_)
  refine lv_iconst (v := 0) E.1 E.2.1 dX2_keptIn_2 (by decide) ?_
  refine lv_istore_n (lv' := [(3, .int 0), (2, .int 0), (0, .ref (ad 0)), (1, .ref (ad 9))]) E.1 E.2.1 dX2_keptIn_3 rfl hl (by decide) rfl (fun ls hl => ?_)
  have loop1 : ∀ (d_1 k_2 : Nat) (x2_1 : Int32) (ls : Array Slot), k_2 + d_1 = n → lv_has ls 4 [(3, .int (nI k_2)), (2, .int x2_1), (0, .ref (ad 0)), (1, .ref (ad 9))] → W p l e (headSpec wsX2_keptIn { frames := 1, cells := 0, slots := 0, locals := 22 }).room s m ([.ref (ad 0), .ref (ad 9)] : List Value).toArray below meth cd s.heap [] 0 0 (MQ below (QcRead (FX2_keptIn_at9_L4 f a ta n z c d_1 k_2 x2_1)) ([.ref (ad 0), .ref (ad 9)] : List Value).toArray s 0 0 (fun _ => False)) (F0 m 4 ls []) := by
    intro d_1
    induction d_1 with
    | zero =>
      intro k_2 x2_1 ls hk1 hl
      refine lv_iload_n E.1 E.2.1 dX2_keptIn_4 rfl (lv_at hl 0 rfl) ?_
      refine lv_aload_n E.1 E.2.1 dX2_keptIn_5 rfl (lv_at hl 2 rfl) ?_
      refine xg_0_7 E hK hP in_2 w_0 dX2_keptIn_6 ?_
      refine lv_topi (fun y_3 ey_3 => ?_)
      obtain rfl : y_3 = nI n := ey_3.trans (hn)
      refine lv_icmp_ge (x := nI k_2) (y := nI n) (tgt := 32) E.1 E.2.1 dX2_keptIn_9 (by decide) (fun _ => ?_) (fun h9 => absurd (nI_le (a := n) (b := k_2) (by omega) (by omega)) h9)
      refine lv_iload_n E.1 E.2.1 dX2_keptIn_32 rfl (lv_at hl 1 rfl) ?_
      exact W.iret (v := x2_1) E.1 E.2.1 hr (fun t ht _ => ⟨congrArg (fun z : Int32 => Outcome.returned (some (Value.int z))) (show x2_1 = FX2_keptIn_at9_L4 f a ta n z c 0 k_2 x2_1 from by rw [FX2_keptIn_at9_L4]), ht⟩) (fun q hq => by cases hq) dX2_keptIn_33
    | succ d_1 ih1 =>
      intro k_2 x2_1 ls hk1 hl
      refine lv_iload_n E.1 E.2.1 dX2_keptIn_4 rfl (lv_at hl 0 rfl) ?_
      refine lv_aload_n E.1 E.2.1 dX2_keptIn_5 rfl (lv_at hl 2 rfl) ?_
      refine xg_0_7 E hK hP in_2 w_0 dX2_keptIn_6 ?_
      refine lv_topi (fun y_4 ey_4 => ?_)
      obtain rfl : y_4 = nI n := ey_4.trans (hn)
      refine lv_icmp_ge (x := nI k_2) (y := nI n) (tgt := 32) E.1 E.2.1 dX2_keptIn_9 (by decide) (fun h9 => absurd h9 (nI_ge (a := k_2) (b := n) (by omega) (by omega))) (fun _ => ?_)
      refine lv_aload_n E.1 E.2.1 dX2_keptIn_12 rfl (lv_at hl 2 rfl) ?_
      refine lv_iload_n E.1 E.2.1 dX2_keptIn_13 rfl (lv_at hl 0 rfl) ?_
      refine lv_aload_n E.1 E.2.1 dX2_keptIn_14 rfl (lv_at hl 3 rfl) ?_
      refine lv_iload_n E.1 E.2.1 dX2_keptIn_15 rfl (lv_at hl 0 rfl) ?_
      refine xl_9 (i := nI k_2) E hK hP (vp_in_nI (by omega) (by omega)) dX2_keptIn_16 ?_
      refine lv_topi (fun y_5 ey_5 => ?_)
      obtain rfl : y_5 = a 9 k_2 := ey_5.trans (by rw [nI_clamp (show k_2 < 2 ^ 31 by omega)] <;> rfl)
      refine g_VR (As := [.int (nI k_2), .int (a 9 k_2)]) (rest := []) E hK hP (c_X2_isKeptWith l D cI cB ad f a ta n z c hX (nI k_2) (a 9 k_2) (vp_in_nI (by omega) (by omega))) (cwV 2 E.2.2.2.2 gX2_keptIn_X2_isKeptWith rfl rfl rfl (by decide +kernel) ⟨Nat.le_of_ble_eq_true rfl, Nat.le_of_ble_eq_true rfl⟩) (rx hK hP) rfl hl.1 rfl (Nat.le_of_ble_eq_true rfl) dX2_keptIn_17 ⟨Nat.zero_le _, Nat.zero_le _⟩ ?_
      refine lv_if_eq (x := FX2_isKeptWith f a ta n z c (nI k_2) (a 9 k_2)) (tgt := 26) E.1 E.2.1 dX2_keptIn_20 (by decide) (fun h20 => ?_) (fun h20 => ?_)
      · have h20 := h20
        refine lv_iinc (v := nI (k_2 + 1)) (k := 0) (lv' := [(3, .int (nI (k_2 + 1))), (2, .int x2_1), (0, .ref (ad 0)), (1, .ref (ad 9))]) E.1 E.2.1 dX2_keptIn_26 hl rfl (nI_1 k_2) (by decide) rfl (fun ls hl => ?_)
        refine lv_goto (tgt := 4) E.1 E.2.1 dX2_keptIn_29 (by decide) ?_
        rw [show FX2_keptIn_at9_L4 f a ta n z c (d_1 + 1) k_2 x2_1 = FX2_keptIn_at9_L4 f a ta n z c d_1 (k_2 + 1) x2_1 from by rw [FX2_keptIn_at9_L4, if_pos h20]]
        exact ih1 (k_2 + 1) x2_1 ls (by omega) (lv_sub hl [0, 1, 2, 3] rfl)
      · have h20 := h20
        refine lv_iinc (v := x2_1 + 1) (k := 1) (lv' := [(2, .int (x2_1 + 1)), (3, .int (nI k_2)), (0, .ref (ad 0)), (1, .ref (ad 9))]) E.1 E.2.1 dX2_keptIn_23 hl rfl (rfl) (by decide) rfl (fun ls hl => ?_)
        refine lv_iinc (v := nI (k_2 + 1)) (k := 1) (lv' := [(3, .int (nI (k_2 + 1))), (2, .int (x2_1 + 1)), (0, .ref (ad 0)), (1, .ref (ad 9))]) E.1 E.2.1 dX2_keptIn_26 hl rfl (nI_1 k_2) (by decide) rfl (fun ls hl => ?_)
        refine lv_goto (tgt := 4) E.1 E.2.1 dX2_keptIn_29 (by decide) ?_
        rw [show FX2_keptIn_at9_L4 f a ta n z c (d_1 + 1) k_2 x2_1 = FX2_keptIn_at9_L4 f a ta n z c d_1 (k_2 + 1) (x2_1 + 1) from by rw [FX2_keptIn_at9_L4, if_neg h20]]
        exact ih1 (k_2 + 1) (x2_1 + 1) ls (by omega) (lv_sub hl [0, 1, 2, 3] rfl)
  rw [show FX2_keptIn_at9 f a ta n z c = FX2_keptIn_at9_L4 f a ta n z c n 0 0 from by rw [FX2_keptIn_at9]]
  have hl : lv_has ls 4 [(3, .int (nI 0)), (2, .int 0), (0, .ref (ad 0)), (1, .ref (ad 9))] := lv_sub hl [0, 1, 2, 3] rfl
  exact loop1 _ _ 0 ls (by omega) (lv_sub hl [0, 1, 2, 3] rfl)
def FX2_snowIn_at9_L4 (f : Nat → Int32) (a : Nat → Nat → Int32) (ta : Nat → Nat → Int32) (n : Nat) (z : Nat) (c : Nat) : Nat → Nat → Int32 → Int32
  | 0, k_2, x2_1 => x2_1
  | d_1 + 1, k_2, x2_1 => FX2_snowIn_at9_L4 f a ta n z c d_1 (k_2 + 1) (x2_1 + (a 9 k_2))
def FX2_snowIn_at9 (f : Nat → Int32) (a : Nat → Nat → Int32) (ta : Nat → Nat → Int32) (n : Nat) (z : Nat) (c : Nat) : Int32 := FX2_snowIn_at9_L4 f a ta n z c n 0 0
set_option maxHeartbeats 4000000 in
set_option maxRecDepth 100000 in
/-- the snow in all -/
theorem c_X2_snowIn_at9 (l : Launch) (D : va_G) (cI cB : ClassId) (ad : Nat → Nat) (f : Nat → Int32) (a ta : Nat → Nat → Int32) (n z c : Nat) (hX : IX n z c f)  : Met l yX2_snowIn wsX2_snowIn ({ frames := 0, cells := 0, slots := 0, locals := 0 }) (GPc D cI cB (wX cI ad f a ta) [.ref (ad 0), .ref (ad 9)]) (QcRead (FX2_snowIn_at9 f a ta n z c)) 0 0 (fun _ => False) := by
  refine Met.ofW (cc := cX2_snowIn) (maxL := 4) (ret := (some .int)) (by decide) rfl ?_
  intro p e s m args below meth cd s₁ B hml hv
  obtain ⟨rfl, hP, hK⟩ := hv
  have hts := atoms_spec (ws := wsX2_snowIn) B.pre
  have E : CallFix p m cd cX2_snowIn 4 s _ wsX2_snowIn RX2 := ⟨B.exec, B.bytes, hml, findClass_of_methodNamed B.named, hts⟩
  have hr := B.returns
  have hlocks := B.notSynchronized
  have h2n := pow6 (n := n) (by have := hX.2.1; omega)
  obtain ⟨hn, hn6, hz, hz21, hc, hc6⟩ := id hX
  have in_2 : ∀ w ∈ wsX20, w ∈ wsX2_snowIn := fun _ h => List.mem_cons_of_mem _ (List.mem_append_right _ h)
  have w_0 : (Cond.fieldLink RX2 39 "SnowTerm" "sites" "I").before _ s = true := hts _ (by decide +kernel)
  have hl := lv_entry ([.ref (ad 0), .ref (ad 9)]) (n := 4) (Nat.le_of_ble_eq_true rfl)
  rw [lg_entry_eq]
  generalize (lg_sl ([.ref (ad 0), .ref (ad 9)]) ++ List.replicate (4 - (lg_sl ([.ref (ad 0), .ref (ad 9)])).length) Slot.unset).toArray = ls at hl ⊢
  have hl : lv_has ls 4 [(0, .ref (ad 0)), (1, .ref (ad 9))] := hl
  refine lv_iconst (v := 0) E.1 E.2.1 dX2_snowIn_0 (by decide) ?_
  refine lv_istore_n (lv' := [(2, .int 0), (0, .ref (ad 0)), (1, .ref (ad 9))]) E.1 E.2.1 dX2_snowIn_1 rfl hl (by decide) rfl (fun ls hl => ?_)
  refine lv_iconst (v := 0) E.1 E.2.1 dX2_snowIn_2 (by decide) ?_
  refine lv_istore_n (lv' := [(3, .int 0), (2, .int 0), (0, .ref (ad 0)), (1, .ref (ad 9))]) E.1 E.2.1 dX2_snowIn_3 rfl hl (by decide) rfl (fun ls hl => ?_)
  have loop1 : ∀ (d_1 k_2 : Nat) (x2_1 : Int32) (ls : Array Slot), k_2 + d_1 = n → lv_has ls 4 [(3, .int (nI k_2)), (2, .int x2_1), (0, .ref (ad 0)), (1, .ref (ad 9))] → W p l e (headSpec wsX2_snowIn { frames := 0, cells := 0, slots := 0, locals := 0 }).room s m ([.ref (ad 0), .ref (ad 9)] : List Value).toArray below meth cd s.heap [] 0 0 (MQ below (QcRead (FX2_snowIn_at9_L4 f a ta n z c d_1 k_2 x2_1)) ([.ref (ad 0), .ref (ad 9)] : List Value).toArray s 0 0 (fun _ => False)) (F0 m 4 ls []) := by
    intro d_1
    induction d_1 with
    | zero =>
      intro k_2 x2_1 ls hk1 hl
      refine lv_iload_n E.1 E.2.1 dX2_snowIn_4 rfl (lv_at hl 0 rfl) ?_
      refine lv_aload_n E.1 E.2.1 dX2_snowIn_5 rfl (lv_at hl 2 rfl) ?_
      refine xg_0_7 E hK hP in_2 w_0 dX2_snowIn_6 ?_
      refine lv_topi (fun y_3 ey_3 => ?_)
      obtain rfl : y_3 = nI n := ey_3.trans (hn)
      refine lv_icmp_ge (x := nI k_2) (y := nI n) (tgt := 24) E.1 E.2.1 dX2_snowIn_9 (by decide) (fun _ => ?_) (fun h9 => absurd (nI_le (a := n) (b := k_2) (by omega) (by omega)) h9)
      refine lv_iload_n E.1 E.2.1 dX2_snowIn_24 rfl (lv_at hl 1 rfl) ?_
      exact W.iret (v := x2_1) E.1 E.2.1 hr (fun t ht _ => ⟨congrArg (fun z : Int32 => Outcome.returned (some (Value.int z))) (show x2_1 = FX2_snowIn_at9_L4 f a ta n z c 0 k_2 x2_1 from by rw [FX2_snowIn_at9_L4]), ht⟩) (fun q hq => by cases hq) dX2_snowIn_25
    | succ d_1 ih1 =>
      intro k_2 x2_1 ls hk1 hl
      refine lv_iload_n E.1 E.2.1 dX2_snowIn_4 rfl (lv_at hl 0 rfl) ?_
      refine lv_aload_n E.1 E.2.1 dX2_snowIn_5 rfl (lv_at hl 2 rfl) ?_
      refine xg_0_7 E hK hP in_2 w_0 dX2_snowIn_6 ?_
      refine lv_topi (fun y_4 ey_4 => ?_)
      obtain rfl : y_4 = nI n := ey_4.trans (hn)
      refine lv_icmp_ge (x := nI k_2) (y := nI n) (tgt := 24) E.1 E.2.1 dX2_snowIn_9 (by decide) (fun h9 => absurd h9 (nI_ge (a := k_2) (b := n) (by omega) (by omega))) (fun _ => ?_)
      refine lv_iload_n E.1 E.2.1 dX2_snowIn_12 rfl (lv_at hl 1 rfl) ?_
      refine lv_aload_n E.1 E.2.1 dX2_snowIn_13 rfl (lv_at hl 3 rfl) ?_
      refine lv_iload_n E.1 E.2.1 dX2_snowIn_14 rfl (lv_at hl 0 rfl) ?_
      refine xl_9 (i := nI k_2) E hK hP (vp_in_nI (by omega) (by omega)) dX2_snowIn_15 ?_
      refine lv_topi (fun y_5 ey_5 => ?_)
      obtain rfl : y_5 = a 9 k_2 := ey_5.trans (by rw [nI_clamp (show k_2 < 2 ^ 31 by omega)] <;> rfl)
      refine lv_iadd (x := x2_1) (y := a 9 k_2) E.1 E.2.1 dX2_snowIn_16 ?_
      refine lv_istore_n (lv' := [(2, .int (x2_1 + (a 9 k_2))), (3, .int (nI k_2)), (0, .ref (ad 0)), (1, .ref (ad 9))]) E.1 E.2.1 dX2_snowIn_17 rfl hl (by decide) rfl (fun ls hl => ?_)
      refine lv_iinc (v := nI (k_2 + 1)) (k := 1) (lv' := [(3, .int (nI (k_2 + 1))), (2, .int (x2_1 + (a 9 k_2))), (0, .ref (ad 0)), (1, .ref (ad 9))]) E.1 E.2.1 dX2_snowIn_18 hl rfl (nI_1 k_2) (by decide) rfl (fun ls hl => ?_)
      refine lv_goto (tgt := 4) E.1 E.2.1 dX2_snowIn_21 (by decide) ?_
      rw [show FX2_snowIn_at9_L4 f a ta n z c (d_1 + 1) k_2 x2_1 = FX2_snowIn_at9_L4 f a ta n z c d_1 (k_2 + 1) (x2_1 + (a 9 k_2)) from by rw [FX2_snowIn_at9_L4]]
      exact ih1 (k_2 + 1) (x2_1 + (a 9 k_2)) ls (by omega) (lv_sub hl [0, 1, 2, 3] rfl)
  rw [show FX2_snowIn_at9 f a ta n z c = FX2_snowIn_at9_L4 f a ta n z c n 0 0 from by rw [FX2_snowIn_at9]]
  have hl : lv_has ls 4 [(3, .int (nI 0)), (2, .int 0), (0, .ref (ad 0)), (1, .ref (ad 9))] := lv_sub hl [0, 1, 2, 3] rfl
  exact loop1 _ _ 0 ls (by omega) (lv_sub hl [0, 1, 2, 3] rfl)
def FX2_keptIn_at6_L4 (f : Nat → Int32) (a : Nat → Nat → Int32) (ta : Nat → Nat → Int32) (n : Nat) (z : Nat) (c : Nat) : Nat → Nat → Int32 → Int32
  | 0, k_2, x2_1 => x2_1
  | d_1 + 1, k_2, x2_1 => (if FX2_isKeptWith f a ta n z c (nI k_2) (ta 6 k_2) = 0 then FX2_keptIn_at6_L4 f a ta n z c d_1 (k_2 + 1) x2_1 else FX2_keptIn_at6_L4 f a ta n z c d_1 (k_2 + 1) (x2_1 + 1))
def FX2_keptIn_at6 (f : Nat → Int32) (a : Nat → Nat → Int32) (ta : Nat → Nat → Int32) (n : Nat) (z : Nat) (c : Nat) : Int32 := FX2_keptIn_at6_L4 f a ta n z c n 0 0
set_option maxHeartbeats 4000000 in
set_option maxRecDepth 100000 in
/-- how many are kept -/
theorem c_X2_keptIn_at6 (l : Launch) (D : va_G) (cI cB : ClassId) (ad : Nat → Nat) (f : Nat → Int32) (a ta : Nat → Nat → Int32) (n z c : Nat) (hX : IX n z c f)  : Met l yX2_keptIn wsX2_keptIn ({ frames := 1, cells := 0, slots := 0, locals := 22 }) (GPc D cI cB (wX cI ad f a ta) [.ref (ad 0), .ref (ad 6)]) (QcRead (FX2_keptIn_at6 f a ta n z c)) 0 0 (fun _ => False) := by
  refine Met.ofW (cc := cX2_keptIn) (maxL := 4) (ret := (some .int)) (by decide) rfl ?_
  intro p e s m args below meth cd s₁ B hml hv
  obtain ⟨rfl, hP, hK⟩ := hv
  have hts := atoms_spec (ws := wsX2_keptIn) B.pre
  have E : CallFix p m cd cX2_keptIn 4 s _ wsX2_keptIn RX2 := ⟨B.exec, B.bytes, hml, findClass_of_methodNamed B.named, hts⟩
  have hr := B.returns
  have hlocks := B.notSynchronized
  have h2n := pow6 (n := n) (by have := hX.2.1; omega)
  obtain ⟨hn, hn6, hz, hz21, hc, hc6⟩ := id hX
  have in_2 : ∀ w ∈ wsX20, w ∈ wsX2_keptIn := fun _ h => List.mem_cons_of_mem _ (List.mem_append_right _ h)
  have w_0 : (Cond.fieldLink RX2 39 "SnowTerm" "sites" "I").before _ s = true := hts _ (by decide +kernel)
  have hl := lv_entry ([.ref (ad 0), .ref (ad 6)]) (n := 4) (Nat.le_of_ble_eq_true rfl)
  rw [lg_entry_eq]
  generalize (lg_sl ([.ref (ad 0), .ref (ad 6)]) ++ List.replicate (4 - (lg_sl ([.ref (ad 0), .ref (ad 6)])).length) Slot.unset).toArray = ls at hl ⊢
  have hl : lv_has ls 4 [(0, .ref (ad 0)), (1, .ref (ad 6))] := hl
  refine lv_iconst (v := 0) E.1 E.2.1 dX2_keptIn_0 (by decide) ?_
  refine lv_istore_n (lv' := [(2, .int 0), (0, .ref (ad 0)), (1, .ref (ad 6))]) E.1 E.2.1 dX2_keptIn_1 rfl hl (by decide) rfl (fun ls hl => ?_)
  refine lv_iconst (v := 0) E.1 E.2.1 dX2_keptIn_2 (by decide) ?_
  refine lv_istore_n (lv' := [(3, .int 0), (2, .int 0), (0, .ref (ad 0)), (1, .ref (ad 6))]) E.1 E.2.1 dX2_keptIn_3 rfl hl (by decide) rfl (fun ls hl => ?_)
  have loop1 : ∀ (d_1 k_2 : Nat) (x2_1 : Int32) (ls : Array Slot), k_2 + d_1 = n → lv_has ls 4 [(3, .int (nI k_2)), (2, .int x2_1), (0, .ref (ad 0)), (1, .ref (ad 6))] → W p l e (headSpec wsX2_keptIn { frames := 1, cells := 0, slots := 0, locals := 22 }).room s m ([.ref (ad 0), .ref (ad 6)] : List Value).toArray below meth cd s.heap [] 0 0 (MQ below (QcRead (FX2_keptIn_at6_L4 f a ta n z c d_1 k_2 x2_1)) ([.ref (ad 0), .ref (ad 6)] : List Value).toArray s 0 0 (fun _ => False)) (F0 m 4 ls []) := by
    intro d_1
    induction d_1 with
    | zero =>
      intro k_2 x2_1 ls hk1 hl
      refine lv_iload_n E.1 E.2.1 dX2_keptIn_4 rfl (lv_at hl 0 rfl) ?_
      refine lv_aload_n E.1 E.2.1 dX2_keptIn_5 rfl (lv_at hl 2 rfl) ?_
      refine xg_0_7 E hK hP in_2 w_0 dX2_keptIn_6 ?_
      refine lv_topi (fun y_3 ey_3 => ?_)
      obtain rfl : y_3 = nI n := ey_3.trans (hn)
      refine lv_icmp_ge (x := nI k_2) (y := nI n) (tgt := 32) E.1 E.2.1 dX2_keptIn_9 (by decide) (fun _ => ?_) (fun h9 => absurd (nI_le (a := n) (b := k_2) (by omega) (by omega)) h9)
      refine lv_iload_n E.1 E.2.1 dX2_keptIn_32 rfl (lv_at hl 1 rfl) ?_
      exact W.iret (v := x2_1) E.1 E.2.1 hr (fun t ht _ => ⟨congrArg (fun z : Int32 => Outcome.returned (some (Value.int z))) (show x2_1 = FX2_keptIn_at6_L4 f a ta n z c 0 k_2 x2_1 from by rw [FX2_keptIn_at6_L4]), ht⟩) (fun q hq => by cases hq) dX2_keptIn_33
    | succ d_1 ih1 =>
      intro k_2 x2_1 ls hk1 hl
      refine lv_iload_n E.1 E.2.1 dX2_keptIn_4 rfl (lv_at hl 0 rfl) ?_
      refine lv_aload_n E.1 E.2.1 dX2_keptIn_5 rfl (lv_at hl 2 rfl) ?_
      refine xg_0_7 E hK hP in_2 w_0 dX2_keptIn_6 ?_
      refine lv_topi (fun y_4 ey_4 => ?_)
      obtain rfl : y_4 = nI n := ey_4.trans (hn)
      refine lv_icmp_ge (x := nI k_2) (y := nI n) (tgt := 32) E.1 E.2.1 dX2_keptIn_9 (by decide) (fun h9 => absurd h9 (nI_ge (a := k_2) (b := n) (by omega) (by omega))) (fun _ => ?_)
      refine lv_aload_n E.1 E.2.1 dX2_keptIn_12 rfl (lv_at hl 2 rfl) ?_
      refine lv_iload_n E.1 E.2.1 dX2_keptIn_13 rfl (lv_at hl 0 rfl) ?_
      refine lv_aload_n E.1 E.2.1 dX2_keptIn_14 rfl (lv_at hl 3 rfl) ?_
      refine lv_iload_n E.1 E.2.1 dX2_keptIn_15 rfl (lv_at hl 0 rfl) ?_
      refine xl_6 (i := nI k_2) E hK hP (vp_in_nI (by omega) (by omega)) dX2_keptIn_16 ?_
      refine lv_topi (fun y_5 ey_5 => ?_)
      obtain rfl : y_5 = ta 6 k_2 := ey_5.trans (by rw [nI_clamp (show k_2 < 2 ^ 31 by omega)] <;> rfl)
      refine g_VR (As := [.int (nI k_2), .int (ta 6 k_2)]) (rest := []) E hK hP (c_X2_isKeptWith l D cI cB ad f a ta n z c hX (nI k_2) (ta 6 k_2) (vp_in_nI (by omega) (by omega))) (cwV 2 E.2.2.2.2 gX2_keptIn_X2_isKeptWith rfl rfl rfl (by decide +kernel) ⟨Nat.le_of_ble_eq_true rfl, Nat.le_of_ble_eq_true rfl⟩) (rx hK hP) rfl hl.1 rfl (Nat.le_of_ble_eq_true rfl) dX2_keptIn_17 ⟨Nat.zero_le _, Nat.zero_le _⟩ ?_
      refine lv_if_eq (x := FX2_isKeptWith f a ta n z c (nI k_2) (ta 6 k_2)) (tgt := 26) E.1 E.2.1 dX2_keptIn_20 (by decide) (fun h20 => ?_) (fun h20 => ?_)
      · have h20 := h20
        refine lv_iinc (v := nI (k_2 + 1)) (k := 0) (lv' := [(3, .int (nI (k_2 + 1))), (2, .int x2_1), (0, .ref (ad 0)), (1, .ref (ad 6))]) E.1 E.2.1 dX2_keptIn_26 hl rfl (nI_1 k_2) (by decide) rfl (fun ls hl => ?_)
        refine lv_goto (tgt := 4) E.1 E.2.1 dX2_keptIn_29 (by decide) ?_
        rw [show FX2_keptIn_at6_L4 f a ta n z c (d_1 + 1) k_2 x2_1 = FX2_keptIn_at6_L4 f a ta n z c d_1 (k_2 + 1) x2_1 from by rw [FX2_keptIn_at6_L4, if_pos h20]]
        exact ih1 (k_2 + 1) x2_1 ls (by omega) (lv_sub hl [0, 1, 2, 3] rfl)
      · have h20 := h20
        refine lv_iinc (v := x2_1 + 1) (k := 1) (lv' := [(2, .int (x2_1 + 1)), (3, .int (nI k_2)), (0, .ref (ad 0)), (1, .ref (ad 6))]) E.1 E.2.1 dX2_keptIn_23 hl rfl (rfl) (by decide) rfl (fun ls hl => ?_)
        refine lv_iinc (v := nI (k_2 + 1)) (k := 1) (lv' := [(3, .int (nI (k_2 + 1))), (2, .int (x2_1 + 1)), (0, .ref (ad 0)), (1, .ref (ad 6))]) E.1 E.2.1 dX2_keptIn_26 hl rfl (nI_1 k_2) (by decide) rfl (fun ls hl => ?_)
        refine lv_goto (tgt := 4) E.1 E.2.1 dX2_keptIn_29 (by decide) ?_
        rw [show FX2_keptIn_at6_L4 f a ta n z c (d_1 + 1) k_2 x2_1 = FX2_keptIn_at6_L4 f a ta n z c d_1 (k_2 + 1) (x2_1 + 1) from by rw [FX2_keptIn_at6_L4, if_neg h20]]
        exact ih1 (k_2 + 1) (x2_1 + 1) ls (by omega) (lv_sub hl [0, 1, 2, 3] rfl)
  rw [show FX2_keptIn_at6 f a ta n z c = FX2_keptIn_at6_L4 f a ta n z c n 0 0 from by rw [FX2_keptIn_at6]]
  have hl : lv_has ls 4 [(3, .int (nI 0)), (2, .int 0), (0, .ref (ad 0)), (1, .ref (ad 6))] := lv_sub hl [0, 1, 2, 3] rfl
  exact loop1 _ _ 0 ls (by omega) (lv_sub hl [0, 1, 2, 3] rfl)
def FX2_snowIn_at6_L4 (f : Nat → Int32) (a : Nat → Nat → Int32) (ta : Nat → Nat → Int32) (n : Nat) (z : Nat) (c : Nat) : Nat → Nat → Int32 → Int32
  | 0, k_2, x2_1 => x2_1
  | d_1 + 1, k_2, x2_1 => FX2_snowIn_at6_L4 f a ta n z c d_1 (k_2 + 1) (x2_1 + (ta 6 k_2))
def FX2_snowIn_at6 (f : Nat → Int32) (a : Nat → Nat → Int32) (ta : Nat → Nat → Int32) (n : Nat) (z : Nat) (c : Nat) : Int32 := FX2_snowIn_at6_L4 f a ta n z c n 0 0
set_option maxHeartbeats 4000000 in
set_option maxRecDepth 100000 in
/-- the snow in all -/
theorem c_X2_snowIn_at6 (l : Launch) (D : va_G) (cI cB : ClassId) (ad : Nat → Nat) (f : Nat → Int32) (a ta : Nat → Nat → Int32) (n z c : Nat) (hX : IX n z c f)  : Met l yX2_snowIn wsX2_snowIn ({ frames := 0, cells := 0, slots := 0, locals := 0 }) (GPc D cI cB (wX cI ad f a ta) [.ref (ad 0), .ref (ad 6)]) (QcRead (FX2_snowIn_at6 f a ta n z c)) 0 0 (fun _ => False) := by
  refine Met.ofW (cc := cX2_snowIn) (maxL := 4) (ret := (some .int)) (by decide) rfl ?_
  intro p e s m args below meth cd s₁ B hml hv
  obtain ⟨rfl, hP, hK⟩ := hv
  have hts := atoms_spec (ws := wsX2_snowIn) B.pre
  have E : CallFix p m cd cX2_snowIn 4 s _ wsX2_snowIn RX2 := ⟨B.exec, B.bytes, hml, findClass_of_methodNamed B.named, hts⟩
  have hr := B.returns
  have hlocks := B.notSynchronized
  have h2n := pow6 (n := n) (by have := hX.2.1; omega)
  obtain ⟨hn, hn6, hz, hz21, hc, hc6⟩ := id hX
  have in_2 : ∀ w ∈ wsX20, w ∈ wsX2_snowIn := fun _ h => List.mem_cons_of_mem _ (List.mem_append_right _ h)
  have w_0 : (Cond.fieldLink RX2 39 "SnowTerm" "sites" "I").before _ s = true := hts _ (by decide +kernel)
  have hl := lv_entry ([.ref (ad 0), .ref (ad 6)]) (n := 4) (Nat.le_of_ble_eq_true rfl)
  rw [lg_entry_eq]
  generalize (lg_sl ([.ref (ad 0), .ref (ad 6)]) ++ List.replicate (4 - (lg_sl ([.ref (ad 0), .ref (ad 6)])).length) Slot.unset).toArray = ls at hl ⊢
  have hl : lv_has ls 4 [(0, .ref (ad 0)), (1, .ref (ad 6))] := hl
  refine lv_iconst (v := 0) E.1 E.2.1 dX2_snowIn_0 (by decide) ?_
  refine lv_istore_n (lv' := [(2, .int 0), (0, .ref (ad 0)), (1, .ref (ad 6))]) E.1 E.2.1 dX2_snowIn_1 rfl hl (by decide) rfl (fun ls hl => ?_)
  refine lv_iconst (v := 0) E.1 E.2.1 dX2_snowIn_2 (by decide) ?_
  refine lv_istore_n (lv' := [(3, .int 0), (2, .int 0), (0, .ref (ad 0)), (1, .ref (ad 6))]) E.1 E.2.1 dX2_snowIn_3 rfl hl (by decide) rfl (fun ls hl => ?_)
  have loop1 : ∀ (d_1 k_2 : Nat) (x2_1 : Int32) (ls : Array Slot), k_2 + d_1 = n → lv_has ls 4 [(3, .int (nI k_2)), (2, .int x2_1), (0, .ref (ad 0)), (1, .ref (ad 6))] → W p l e (headSpec wsX2_snowIn { frames := 0, cells := 0, slots := 0, locals := 0 }).room s m ([.ref (ad 0), .ref (ad 6)] : List Value).toArray below meth cd s.heap [] 0 0 (MQ below (QcRead (FX2_snowIn_at6_L4 f a ta n z c d_1 k_2 x2_1)) ([.ref (ad 0), .ref (ad 6)] : List Value).toArray s 0 0 (fun _ => False)) (F0 m 4 ls []) := by
    intro d_1
    induction d_1 with
    | zero =>
      intro k_2 x2_1 ls hk1 hl
      refine lv_iload_n E.1 E.2.1 dX2_snowIn_4 rfl (lv_at hl 0 rfl) ?_
      refine lv_aload_n E.1 E.2.1 dX2_snowIn_5 rfl (lv_at hl 2 rfl) ?_
      refine xg_0_7 E hK hP in_2 w_0 dX2_snowIn_6 ?_
      refine lv_topi (fun y_3 ey_3 => ?_)
      obtain rfl : y_3 = nI n := ey_3.trans (hn)
      refine lv_icmp_ge (x := nI k_2) (y := nI n) (tgt := 24) E.1 E.2.1 dX2_snowIn_9 (by decide) (fun _ => ?_) (fun h9 => absurd (nI_le (a := n) (b := k_2) (by omega) (by omega)) h9)
      refine lv_iload_n E.1 E.2.1 dX2_snowIn_24 rfl (lv_at hl 1 rfl) ?_
      exact W.iret (v := x2_1) E.1 E.2.1 hr (fun t ht _ => ⟨congrArg (fun z : Int32 => Outcome.returned (some (Value.int z))) (show x2_1 = FX2_snowIn_at6_L4 f a ta n z c 0 k_2 x2_1 from by rw [FX2_snowIn_at6_L4]), ht⟩) (fun q hq => by cases hq) dX2_snowIn_25
    | succ d_1 ih1 =>
      intro k_2 x2_1 ls hk1 hl
      refine lv_iload_n E.1 E.2.1 dX2_snowIn_4 rfl (lv_at hl 0 rfl) ?_
      refine lv_aload_n E.1 E.2.1 dX2_snowIn_5 rfl (lv_at hl 2 rfl) ?_
      refine xg_0_7 E hK hP in_2 w_0 dX2_snowIn_6 ?_
      refine lv_topi (fun y_4 ey_4 => ?_)
      obtain rfl : y_4 = nI n := ey_4.trans (hn)
      refine lv_icmp_ge (x := nI k_2) (y := nI n) (tgt := 24) E.1 E.2.1 dX2_snowIn_9 (by decide) (fun h9 => absurd h9 (nI_ge (a := k_2) (b := n) (by omega) (by omega))) (fun _ => ?_)
      refine lv_iload_n E.1 E.2.1 dX2_snowIn_12 rfl (lv_at hl 1 rfl) ?_
      refine lv_aload_n E.1 E.2.1 dX2_snowIn_13 rfl (lv_at hl 3 rfl) ?_
      refine lv_iload_n E.1 E.2.1 dX2_snowIn_14 rfl (lv_at hl 0 rfl) ?_
      refine xl_6 (i := nI k_2) E hK hP (vp_in_nI (by omega) (by omega)) dX2_snowIn_15 ?_
      refine lv_topi (fun y_5 ey_5 => ?_)
      obtain rfl : y_5 = ta 6 k_2 := ey_5.trans (by rw [nI_clamp (show k_2 < 2 ^ 31 by omega)] <;> rfl)
      refine lv_iadd (x := x2_1) (y := ta 6 k_2) E.1 E.2.1 dX2_snowIn_16 ?_
      refine lv_istore_n (lv' := [(2, .int (x2_1 + (ta 6 k_2))), (3, .int (nI k_2)), (0, .ref (ad 0)), (1, .ref (ad 6))]) E.1 E.2.1 dX2_snowIn_17 rfl hl (by decide) rfl (fun ls hl => ?_)
      refine lv_iinc (v := nI (k_2 + 1)) (k := 1) (lv' := [(3, .int (nI (k_2 + 1))), (2, .int (x2_1 + (ta 6 k_2))), (0, .ref (ad 0)), (1, .ref (ad 6))]) E.1 E.2.1 dX2_snowIn_18 hl rfl (nI_1 k_2) (by decide) rfl (fun ls hl => ?_)
      refine lv_goto (tgt := 4) E.1 E.2.1 dX2_snowIn_21 (by decide) ?_
      rw [show FX2_snowIn_at6_L4 f a ta n z c (d_1 + 1) k_2 x2_1 = FX2_snowIn_at6_L4 f a ta n z c d_1 (k_2 + 1) (x2_1 + (ta 6 k_2)) from by rw [FX2_snowIn_at6_L4]]
      exact ih1 (k_2 + 1) (x2_1 + (ta 6 k_2)) ls (by omega) (lv_sub hl [0, 1, 2, 3] rfl)
  rw [show FX2_snowIn_at6 f a ta n z c = FX2_snowIn_at6_L4 f a ta n z c n 0 0 from by rw [FX2_snowIn_at6]]
  have hl : lv_has ls 4 [(3, .int (nI 0)), (2, .int 0), (0, .ref (ad 0)), (1, .ref (ad 6))] := lv_sub hl [0, 1, 2, 3] rfl
  exact loop1 _ _ 0 ls (by omega) (lv_sub hl [0, 1, 2, 3] rfl)
def FX2_loadsOf_L4 (f : Nat → Int32) (a : Nat → Nat → Int32) (ta : Nat → Nat → Int32) (n : Nat) (z : Nat) (c : Nat) (p0 : Int32) : Nat → Nat → Int32 → Int32
  | 0, k_2, x2_1 => x2_1
  | d_1 + 1, k_2, x2_1 => (if FX2_hasBit p0 (nI k_2) = 0 then FX2_loadsOf_L4 f a ta n z c p0 d_1 (k_2 + 1) x2_1 else (if ta 7 k_2 = (-1) then (-1) else FX2_loadsOf_L4 f a ta n z c p0 d_1 (k_2 + 1) (x2_1 + (ta 7 k_2))))
def FX2_loadsOf (f : Nat → Int32) (a : Nat → Nat → Int32) (ta : Nat → Nat → Int32) (n : Nat) (z : Nat) (c : Nat) (p0 : Int32) : Int32 := FX2_loadsOf_L4 f a ta n z c p0 n 0 0
set_option maxHeartbeats 4000000 in
set_option maxRecDepth 100000 in
/-- the loads of a set -/
theorem c_X2_loadsOf (l : Launch) (D : va_G) (cI cB : ClassId) (ad : Nat → Nat) (f : Nat → Int32) (a ta : Nat → Nat → Int32) (n z c : Nat) (hX : IX n z c f) (p0 : Int32) : Met l yX2_loadsOf wsX2_loadsOf ({ frames := 1, cells := 0, slots := 0, locals := 21 }) (GPc D cI cB (wX cI ad f a ta) [.ref (ad 0), .int p0]) (QcRead (FX2_loadsOf f a ta n z c p0)) 0 0 (fun _ => False) := by
  refine Met.ofW (cc := cX2_loadsOf) (maxL := 4) (ret := (some .int)) (by decide) rfl ?_
  intro p e s m args below meth cd s₁ B hml hv
  obtain ⟨rfl, hP, hK⟩ := hv
  have hts := atoms_spec (ws := wsX2_loadsOf) B.pre
  have E : CallFix p m cd cX2_loadsOf 4 s _ wsX2_loadsOf RX2 := ⟨B.exec, B.bytes, hml, findClass_of_methodNamed B.named, hts⟩
  have hr := B.returns
  have hlocks := B.notSynchronized
  have h2n := pow6 (n := n) (by have := hX.2.1; omega)
  obtain ⟨hn, hn6, hz, hz21, hc, hc6⟩ := id hX
  have in_2 : ∀ w ∈ wsX20, w ∈ wsX2_loadsOf := fun _ h => List.mem_cons_of_mem _ (List.mem_append_right _ h)
  have w_0 : (Cond.fieldLink RX2 39 "SnowTerm" "sites" "I").before _ s = true := hts _ (by decide +kernel)
  have w_1 : (Cond.fieldLink RX2 36 "SnowTerm" "needs" "[I").before _ s = true := hts _ (by decide +kernel)
  have hl := lv_entry ([.ref (ad 0), .int p0]) (n := 4) (Nat.le_of_ble_eq_true rfl)
  rw [lg_entry_eq]
  generalize (lg_sl ([.ref (ad 0), .int p0]) ++ List.replicate (4 - (lg_sl ([.ref (ad 0), .int p0])).length) Slot.unset).toArray = ls at hl ⊢
  have hl : lv_has ls 4 [(0, .ref (ad 0)), (1, .int p0)] := hl
  refine lv_iconst (v := 0) E.1 E.2.1 dX2_loadsOf_0 (by decide) ?_
  refine lv_istore_n (lv' := [(2, .int 0), (0, .ref (ad 0)), (1, .int p0)]) E.1 E.2.1 dX2_loadsOf_1 rfl hl (by decide) rfl (fun ls hl => ?_)
  refine lv_iconst (v := 0) E.1 E.2.1 dX2_loadsOf_2 (by decide) ?_
  refine lv_istore_n (lv' := [(3, .int 0), (2, .int 0), (0, .ref (ad 0)), (1, .int p0)]) E.1 E.2.1 dX2_loadsOf_3 rfl hl (by decide) rfl (fun ls hl => ?_)
  have loop1 : ∀ (d_1 k_2 : Nat) (x2_1 : Int32) (ls : Array Slot), k_2 + d_1 = n → lv_has ls 4 [(3, .int (nI k_2)), (2, .int x2_1), (0, .ref (ad 0)), (1, .int p0)] → W p l e (headSpec wsX2_loadsOf { frames := 1, cells := 0, slots := 0, locals := 21 }).room s m ([.ref (ad 0), .int p0] : List Value).toArray below meth cd s.heap [] 0 0 (MQ below (QcRead (FX2_loadsOf_L4 f a ta n z c p0 d_1 k_2 x2_1)) ([.ref (ad 0), .int p0] : List Value).toArray s 0 0 (fun _ => False)) (F0 m 4 ls []) := by
    intro d_1
    induction d_1 with
    | zero =>
      intro k_2 x2_1 ls hk1 hl
      refine lv_iload_n E.1 E.2.1 dX2_loadsOf_4 rfl (lv_at hl 0 rfl) ?_
      refine lv_aload_n E.1 E.2.1 dX2_loadsOf_5 rfl (lv_at hl 2 rfl) ?_
      refine xg_0_7 E hK hP in_2 w_0 dX2_loadsOf_6 ?_
      refine lv_topi (fun y_3 ey_3 => ?_)
      obtain rfl : y_3 = nI n := ey_3.trans (hn)
      refine lv_icmp_ge (x := nI k_2) (y := nI n) (tgt := 47) E.1 E.2.1 dX2_loadsOf_9 (by decide) (fun _ => ?_) (fun h9 => absurd (nI_le (a := n) (b := k_2) (by omega) (by omega)) h9)
      refine lv_iload_n E.1 E.2.1 dX2_loadsOf_47 rfl (lv_at hl 1 rfl) ?_
      exact W.iret (v := x2_1) E.1 E.2.1 hr (fun t ht _ => ⟨congrArg (fun z : Int32 => Outcome.returned (some (Value.int z))) (show x2_1 = FX2_loadsOf_L4 f a ta n z c p0 0 k_2 x2_1 from by rw [FX2_loadsOf_L4]), ht⟩) (fun q hq => by cases hq) dX2_loadsOf_48
    | succ d_1 ih1 =>
      intro k_2 x2_1 ls hk1 hl
      refine lv_iload_n E.1 E.2.1 dX2_loadsOf_4 rfl (lv_at hl 0 rfl) ?_
      refine lv_aload_n E.1 E.2.1 dX2_loadsOf_5 rfl (lv_at hl 2 rfl) ?_
      refine xg_0_7 E hK hP in_2 w_0 dX2_loadsOf_6 ?_
      refine lv_topi (fun y_4 ey_4 => ?_)
      obtain rfl : y_4 = nI n := ey_4.trans (hn)
      refine lv_icmp_ge (x := nI k_2) (y := nI n) (tgt := 47) E.1 E.2.1 dX2_loadsOf_9 (by decide) (fun h9 => absurd h9 (nI_ge (a := k_2) (b := n) (by omega) (by omega))) (fun _ => ?_)
      refine lv_iload_n E.1 E.2.1 dX2_loadsOf_12 rfl (lv_at hl 3 rfl) ?_
      refine lv_iload_n E.1 E.2.1 dX2_loadsOf_13 rfl (lv_at hl 0 rfl) ?_
      refine g_SR (As := [.int p0, .int (nI k_2)]) (rest := []) E hK (c_X2_hasBit l D cI cB p0 (nI k_2)) (va_cwS 2 E.2.2.2.2 gX2_loadsOf_X2_hasBit rfl rfl rfl (by decide +kernel) ⟨Nat.le_of_ble_eq_true rfl, Nat.le_of_ble_eq_true rfl⟩) rfl hl.1 rfl (Nat.le_of_ble_eq_true rfl) dX2_loadsOf_14 ⟨Nat.zero_le _, Nat.zero_le _⟩ ?_
      refine lv_if_eq (x := FX2_hasBit p0 (nI k_2)) (tgt := 41) E.1 E.2.1 dX2_loadsOf_17 (by decide) (fun h17 => ?_) (fun h17 => ?_)
      · have h17 := h17
        refine lv_iinc (v := nI (k_2 + 1)) (k := 0) (lv' := [(3, .int (nI (k_2 + 1))), (2, .int x2_1), (0, .ref (ad 0)), (1, .int p0)]) E.1 E.2.1 dX2_loadsOf_41 hl rfl (nI_1 k_2) (by decide) rfl (fun ls hl => ?_)
        refine lv_goto (tgt := 4) E.1 E.2.1 dX2_loadsOf_44 (by decide) ?_
        rw [show FX2_loadsOf_L4 f a ta n z c p0 (d_1 + 1) k_2 x2_1 = FX2_loadsOf_L4 f a ta n z c p0 d_1 (k_2 + 1) x2_1 from by rw [FX2_loadsOf_L4, if_pos h17]]
        exact ih1 (k_2 + 1) x2_1 ls (by omega) (lv_sub hl [0, 1, 2, 3] rfl)
      · have h17 := h17
        refine lv_aload_n E.1 E.2.1 dX2_loadsOf_20 rfl (lv_at hl 2 rfl) ?_
        refine xg_0_6 E hK hP in_2 w_1 dX2_loadsOf_21 ?_
        refine lv_iload_n E.1 E.2.1 dX2_loadsOf_24 rfl (lv_at hl 0 rfl) ?_
        refine xl_7 (i := nI k_2) E hK hP (vp_in_nI (by omega) (by omega)) dX2_loadsOf_25 ?_
        refine lv_topi (fun y_5 ey_5 => ?_)
        obtain rfl : y_5 = ta 7 k_2 := ey_5.trans (by rw [nI_clamp (show k_2 < 2 ^ 31 by omega)] <;> rfl)
        refine lv_iconst (v := (-1)) E.1 E.2.1 dX2_loadsOf_26 (by decide) ?_
        refine lv_icmp_ne (x := ta 7 k_2) (y := (-1)) (tgt := 32) E.1 E.2.1 dX2_loadsOf_27 (by decide) (fun h27 => ?_) (fun h27 => ?_)
        · have h27 := h27
          refine lv_iload_n E.1 E.2.1 dX2_loadsOf_32 rfl (lv_at hl 1 rfl) ?_
          refine lv_aload_n E.1 E.2.1 dX2_loadsOf_33 rfl (lv_at hl 2 rfl) ?_
          refine xg_0_6 E hK hP in_2 w_1 dX2_loadsOf_34 ?_
          refine lv_iload_n E.1 E.2.1 dX2_loadsOf_37 rfl (lv_at hl 0 rfl) ?_
          refine xl_7 (i := nI k_2) E hK hP (vp_in_nI (by omega) (by omega)) dX2_loadsOf_38 ?_
          refine lv_topi (fun y_6 ey_6 => ?_)
          obtain rfl : y_6 = ta 7 k_2 := ey_6.trans (by rw [nI_clamp (show k_2 < 2 ^ 31 by omega)] <;> rfl)
          refine lv_iadd (x := x2_1) (y := ta 7 k_2) E.1 E.2.1 dX2_loadsOf_39 ?_
          refine lv_istore_n (lv' := [(2, .int (x2_1 + (ta 7 k_2))), (3, .int (nI k_2)), (0, .ref (ad 0)), (1, .int p0)]) E.1 E.2.1 dX2_loadsOf_40 rfl hl (by decide) rfl (fun ls hl => ?_)
          refine lv_iinc (v := nI (k_2 + 1)) (k := 1) (lv' := [(3, .int (nI (k_2 + 1))), (2, .int (x2_1 + (ta 7 k_2))), (0, .ref (ad 0)), (1, .int p0)]) E.1 E.2.1 dX2_loadsOf_41 hl rfl (nI_1 k_2) (by decide) rfl (fun ls hl => ?_)
          refine lv_goto (tgt := 4) E.1 E.2.1 dX2_loadsOf_44 (by decide) ?_
          rw [show FX2_loadsOf_L4 f a ta n z c p0 (d_1 + 1) k_2 x2_1 = FX2_loadsOf_L4 f a ta n z c p0 d_1 (k_2 + 1) (x2_1 + (ta 7 k_2)) from by rw [FX2_loadsOf_L4, if_neg h17, if_neg h27]]
          exact ih1 (k_2 + 1) (x2_1 + (ta 7 k_2)) ls (by omega) (lv_sub hl [0, 1, 2, 3] rfl)
        · have h27 := h27
          refine lv_iconst (v := (-1)) E.1 E.2.1 dX2_loadsOf_30 (by decide) ?_
          exact W.iret (v := (-1)) E.1 E.2.1 hr (fun t ht _ => ⟨congrArg (fun z : Int32 => Outcome.returned (some (Value.int z))) (show (-1) = FX2_loadsOf_L4 f a ta n z c p0 (d_1 + 1) k_2 x2_1 from by rw [FX2_loadsOf_L4, if_neg h17, if_pos h27]), ht⟩) (fun q hq => by cases hq) dX2_loadsOf_31
  rw [show FX2_loadsOf f a ta n z c p0 = FX2_loadsOf_L4 f a ta n z c p0 n 0 0 from by rw [FX2_loadsOf]]
  have hl : lv_has ls 4 [(3, .int (nI 0)), (2, .int 0), (0, .ref (ad 0)), (1, .int p0)] := lv_sub hl [0, 1, 2, 3] rfl
  exact loop1 _ _ 0 ls (by omega) (lv_sub hl [0, 1, 2, 3] rfl)
def FX2_costOf_L4 (f : Nat → Int32) (a : Nat → Nat → Int32) (ta : Nat → Nat → Int32) (n : Nat) (z : Nat) (c : Nat) (p0 : Int32) : Nat → Nat → Int32 → Int32
  | 0, k_2, x2_1 => x2_1
  | d_1 + 1, k_2, x2_1 => (if FX2_hasBit p0 (nI k_2) = 0 then FX2_costOf_L4 f a ta n z c p0 d_1 (k_2 + 1) x2_1 else FX2_costOf_L4 f a ta n z c p0 d_1 (k_2 + 1) (x2_1 + ((ta 7 k_2) * (FX2_priceAt (nI k_2)))))
def FX2_costOf (f : Nat → Int32) (a : Nat → Nat → Int32) (ta : Nat → Nat → Int32) (n : Nat) (z : Nat) (c : Nat) (p0 : Int32) : Int32 := FX2_costOf_L4 f a ta n z c p0 n 0 0
set_option maxHeartbeats 4000000 in
set_option maxRecDepth 100000 in
/-- the cost of a set -/
theorem c_X2_costOf (l : Launch) (D : va_G) (cI cB : ClassId) (ad : Nat → Nat) (f : Nat → Int32) (a ta : Nat → Nat → Int32) (n z c : Nat) (hX : IX n z c f) (p0 : Int32) : Met l yX2_costOf wsX2_costOf ({ frames := 1, cells := 0, slots := 0, locals := 21 }) (GPc D cI cB (wX cI ad f a ta) [.ref (ad 0), .int p0]) (QcRead (FX2_costOf f a ta n z c p0)) 0 0 (fun _ => False) := by
  refine Met.ofW (cc := cX2_costOf) (maxL := 4) (ret := (some .int)) (by decide) rfl ?_
  intro p e s m args below meth cd s₁ B hml hv
  obtain ⟨rfl, hP, hK⟩ := hv
  have hts := atoms_spec (ws := wsX2_costOf) B.pre
  have E : CallFix p m cd cX2_costOf 4 s _ wsX2_costOf RX2 := ⟨B.exec, B.bytes, hml, findClass_of_methodNamed B.named, hts⟩
  have hr := B.returns
  have hlocks := B.notSynchronized
  have h2n := pow6 (n := n) (by have := hX.2.1; omega)
  obtain ⟨hn, hn6, hz, hz21, hc, hc6⟩ := id hX
  have in_2 : ∀ w ∈ wsX20, w ∈ wsX2_costOf := fun _ h => List.mem_cons_of_mem _ (List.mem_append_right _ h)
  have w_0 : (Cond.fieldLink RX2 39 "SnowTerm" "sites" "I").before _ s = true := hts _ (by decide +kernel)
  have w_1 : (Cond.fieldLink RX2 36 "SnowTerm" "needs" "[I").before _ s = true := hts _ (by decide +kernel)
  have hl := lv_entry ([.ref (ad 0), .int p0]) (n := 4) (Nat.le_of_ble_eq_true rfl)
  rw [lg_entry_eq]
  generalize (lg_sl ([.ref (ad 0), .int p0]) ++ List.replicate (4 - (lg_sl ([.ref (ad 0), .int p0])).length) Slot.unset).toArray = ls at hl ⊢
  have hl : lv_has ls 4 [(0, .ref (ad 0)), (1, .int p0)] := hl
  refine lv_iconst (v := 0) E.1 E.2.1 dX2_costOf_0 (by decide) ?_
  refine lv_istore_n (lv' := [(2, .int 0), (0, .ref (ad 0)), (1, .int p0)]) E.1 E.2.1 dX2_costOf_1 rfl hl (by decide) rfl (fun ls hl => ?_)
  refine lv_iconst (v := 0) E.1 E.2.1 dX2_costOf_2 (by decide) ?_
  refine lv_istore_n (lv' := [(3, .int 0), (2, .int 0), (0, .ref (ad 0)), (1, .int p0)]) E.1 E.2.1 dX2_costOf_3 rfl hl (by decide) rfl (fun ls hl => ?_)
  have loop1 : ∀ (d_1 k_2 : Nat) (x2_1 : Int32) (ls : Array Slot), k_2 + d_1 = n → lv_has ls 4 [(3, .int (nI k_2)), (2, .int x2_1), (0, .ref (ad 0)), (1, .int p0)] → W p l e (headSpec wsX2_costOf { frames := 1, cells := 0, slots := 0, locals := 21 }).room s m ([.ref (ad 0), .int p0] : List Value).toArray below meth cd s.heap [] 0 0 (MQ below (QcRead (FX2_costOf_L4 f a ta n z c p0 d_1 k_2 x2_1)) ([.ref (ad 0), .int p0] : List Value).toArray s 0 0 (fun _ => False)) (F0 m 4 ls []) := by
    intro d_1
    induction d_1 with
    | zero =>
      intro k_2 x2_1 ls hk1 hl
      refine lv_iload_n E.1 E.2.1 dX2_costOf_4 rfl (lv_at hl 0 rfl) ?_
      refine lv_aload_n E.1 E.2.1 dX2_costOf_5 rfl (lv_at hl 2 rfl) ?_
      refine xg_0_7 E hK hP in_2 w_0 dX2_costOf_6 ?_
      refine lv_topi (fun y_3 ey_3 => ?_)
      obtain rfl : y_3 = nI n := ey_3.trans (hn)
      refine lv_icmp_ge (x := nI k_2) (y := nI n) (tgt := 40) E.1 E.2.1 dX2_costOf_9 (by decide) (fun _ => ?_) (fun h9 => absurd (nI_le (a := n) (b := k_2) (by omega) (by omega)) h9)
      refine lv_iload_n E.1 E.2.1 dX2_costOf_40 rfl (lv_at hl 1 rfl) ?_
      exact W.iret (v := x2_1) E.1 E.2.1 hr (fun t ht _ => ⟨congrArg (fun z : Int32 => Outcome.returned (some (Value.int z))) (show x2_1 = FX2_costOf_L4 f a ta n z c p0 0 k_2 x2_1 from by rw [FX2_costOf_L4]), ht⟩) (fun q hq => by cases hq) dX2_costOf_41
    | succ d_1 ih1 =>
      intro k_2 x2_1 ls hk1 hl
      refine lv_iload_n E.1 E.2.1 dX2_costOf_4 rfl (lv_at hl 0 rfl) ?_
      refine lv_aload_n E.1 E.2.1 dX2_costOf_5 rfl (lv_at hl 2 rfl) ?_
      refine xg_0_7 E hK hP in_2 w_0 dX2_costOf_6 ?_
      refine lv_topi (fun y_4 ey_4 => ?_)
      obtain rfl : y_4 = nI n := ey_4.trans (hn)
      refine lv_icmp_ge (x := nI k_2) (y := nI n) (tgt := 40) E.1 E.2.1 dX2_costOf_9 (by decide) (fun h9 => absurd h9 (nI_ge (a := k_2) (b := n) (by omega) (by omega))) (fun _ => ?_)
      refine lv_iload_n E.1 E.2.1 dX2_costOf_12 rfl (lv_at hl 3 rfl) ?_
      refine lv_iload_n E.1 E.2.1 dX2_costOf_13 rfl (lv_at hl 0 rfl) ?_
      refine g_SR (As := [.int p0, .int (nI k_2)]) (rest := []) E hK (c_X2_hasBit l D cI cB p0 (nI k_2)) (va_cwS 2 E.2.2.2.2 gX2_costOf_X2_hasBit rfl rfl rfl (by decide +kernel) ⟨Nat.le_of_ble_eq_true rfl, Nat.le_of_ble_eq_true rfl⟩) rfl hl.1 rfl (Nat.le_of_ble_eq_true rfl) dX2_costOf_14 ⟨Nat.zero_le _, Nat.zero_le _⟩ ?_
      refine lv_if_eq (x := FX2_hasBit p0 (nI k_2)) (tgt := 34) E.1 E.2.1 dX2_costOf_17 (by decide) (fun h17 => ?_) (fun h17 => ?_)
      · have h17 := h17
        refine lv_iinc (v := nI (k_2 + 1)) (k := 0) (lv' := [(3, .int (nI (k_2 + 1))), (2, .int x2_1), (0, .ref (ad 0)), (1, .int p0)]) E.1 E.2.1 dX2_costOf_34 hl rfl (nI_1 k_2) (by decide) rfl (fun ls hl => ?_)
        refine lv_goto (tgt := 4) E.1 E.2.1 dX2_costOf_37 (by decide) ?_
        rw [show FX2_costOf_L4 f a ta n z c p0 (d_1 + 1) k_2 x2_1 = FX2_costOf_L4 f a ta n z c p0 d_1 (k_2 + 1) x2_1 from by rw [FX2_costOf_L4, if_pos h17]]
        exact ih1 (k_2 + 1) x2_1 ls (by omega) (lv_sub hl [0, 1, 2, 3] rfl)
      · have h17 := h17
        refine lv_iload_n E.1 E.2.1 dX2_costOf_20 rfl (lv_at hl 1 rfl) ?_
        refine lv_aload_n E.1 E.2.1 dX2_costOf_21 rfl (lv_at hl 2 rfl) ?_
        refine xg_0_6 E hK hP in_2 w_1 dX2_costOf_22 ?_
        refine lv_iload_n E.1 E.2.1 dX2_costOf_25 rfl (lv_at hl 0 rfl) ?_
        refine xl_7 (i := nI k_2) E hK hP (vp_in_nI (by omega) (by omega)) dX2_costOf_26 ?_
        refine lv_topi (fun y_5 ey_5 => ?_)
        obtain rfl : y_5 = ta 7 k_2 := ey_5.trans (by rw [nI_clamp (show k_2 < 2 ^ 31 by omega)] <;> rfl)
        refine lv_iload_n E.1 E.2.1 dX2_costOf_27 rfl (lv_at hl 0 rfl) ?_
        refine g_SR (As := [.int (nI k_2)]) (rest := [.int (ta 7 k_2), .int x2_1]) E hK (c_X2_priceAt l D cI cB (nI k_2)) (va_cwS 1 E.2.2.2.2 gX2_costOf_X2_priceAt rfl rfl rfl (by decide +kernel) ⟨Nat.le_of_ble_eq_true rfl, Nat.le_of_ble_eq_true rfl⟩) rfl hl.1 rfl (Nat.le_of_ble_eq_true rfl) dX2_costOf_28 ⟨Nat.zero_le _, Nat.zero_le _⟩ ?_
        refine lv_imul (x := ta 7 k_2) (y := FX2_priceAt (nI k_2)) E.1 E.2.1 dX2_costOf_31 ?_
        refine lv_iadd (x := x2_1) (y := (ta 7 k_2) * (FX2_priceAt (nI k_2))) E.1 E.2.1 dX2_costOf_32 ?_
        refine lv_istore_n (lv' := [(2, .int (x2_1 + ((ta 7 k_2) * (FX2_priceAt (nI k_2))))), (3, .int (nI k_2)), (0, .ref (ad 0)), (1, .int p0)]) E.1 E.2.1 dX2_costOf_33 rfl hl (by decide) rfl (fun ls hl => ?_)
        refine lv_iinc (v := nI (k_2 + 1)) (k := 1) (lv' := [(3, .int (nI (k_2 + 1))), (2, .int (x2_1 + ((ta 7 k_2) * (FX2_priceAt (nI k_2))))), (0, .ref (ad 0)), (1, .int p0)]) E.1 E.2.1 dX2_costOf_34 hl rfl (nI_1 k_2) (by decide) rfl (fun ls hl => ?_)
        refine lv_goto (tgt := 4) E.1 E.2.1 dX2_costOf_37 (by decide) ?_
        rw [show FX2_costOf_L4 f a ta n z c p0 (d_1 + 1) k_2 x2_1 = FX2_costOf_L4 f a ta n z c p0 d_1 (k_2 + 1) (x2_1 + ((ta 7 k_2) * (FX2_priceAt (nI k_2)))) from by rw [FX2_costOf_L4, if_neg h17]]
        exact ih1 (k_2 + 1) (x2_1 + ((ta 7 k_2) * (FX2_priceAt (nI k_2)))) ls (by omega) (lv_sub hl [0, 1, 2, 3] rfl)
  rw [show FX2_costOf f a ta n z c p0 = FX2_costOf_L4 f a ta n z c p0 n 0 0 from by rw [FX2_costOf]]
  have hl : lv_has ls 4 [(3, .int (nI 0)), (2, .int 0), (0, .ref (ad 0)), (1, .int p0)] := lv_sub hl [0, 1, 2, 3] rfl
  exact loop1 _ _ 0 ls (by omega) (lv_sub hl [0, 1, 2, 3] rfl)
def FX2_isBetterPlan (f : Nat → Int32) (a : Nat → Nat → Int32) (ta : Nat → Nat → Int32) (n : Nat) (z : Nat) (c : Nat) (p0 : Int32) (p1 : Int32) : Int32 := (if 0 < (FJ6_bitCount_0f7a4 p0) - (FJ6_bitCount_0f7a4 p1) then 1 else (if (FJ6_bitCount_0f7a4 p0) - (FJ6_bitCount_0f7a4 p1) = 0 then (if FX2_costOf f a ta n z c p1 ≤ FX2_costOf f a ta n z c p0 then 0 else 1) else 0))
set_option maxHeartbeats 4000000 in
set_option maxRecDepth 100000 in
/-- is it better -/
theorem c_X2_isBetterPlan (l : Launch) (D : va_G) (cI cB : ClassId) (ad : Nat → Nat) (f : Nat → Int32) (a ta : Nat → Nat → Int32) (n z c : Nat) (hX : IX n z c f) (p0 : Int32) (p1 : Int32) : Met l yX2_isBetterPlan wsX2_isBetterPlan ({ frames := 2, cells := 0, slots := 0, locals := 44 }) (GPc D cI cB (wX cI ad f a ta) [.ref (ad 0), .int p0, .int p1]) (QcRead (FX2_isBetterPlan f a ta n z c p0 p1)) 0 0 (fun _ => False) := by
  refine Met.ofW (cc := cX2_isBetterPlan) (maxL := 4) (ret := (some .boolean)) (by decide) rfl ?_
  intro p e s m args below meth cd s₁ B hml hv
  obtain ⟨rfl, hP, hK⟩ := hv
  have hts := atoms_spec (ws := wsX2_isBetterPlan) B.pre
  have E : CallFix p m cd cX2_isBetterPlan 4 s _ wsX2_isBetterPlan RX2 := ⟨B.exec, B.bytes, hml, findClass_of_methodNamed B.named, hts⟩
  have hr := B.returns
  have hlocks := B.notSynchronized
  have h2n := pow6 (n := n) (by have := hX.2.1; omega)
  obtain ⟨hn, hn6, hz, hz21, hc, hc6⟩ := id hX
  have hl := lv_entry ([.ref (ad 0), .int p0, .int p1]) (n := 4) (Nat.le_of_ble_eq_true rfl)
  rw [lg_entry_eq]
  generalize (lg_sl ([.ref (ad 0), .int p0, .int p1]) ++ List.replicate (4 - (lg_sl ([.ref (ad 0), .int p0, .int p1])).length) Slot.unset).toArray = ls at hl ⊢
  have hl : lv_has ls 4 [(0, .ref (ad 0)), (1, .int p0), (2, .int p1)] := hl
  refine lv_iload_n E.1 E.2.1 dX2_isBetterPlan_0 rfl (lv_at hl 1 rfl) ?_
  refine g_SR (As := [.int p0]) (rest := []) E hK (c_J6_bitCount_0f7a4 l D cI cB p0) (va_cwS 1 E.2.2.2.2 gX2_isBetterPlan_J6_bitCount_0f7a4 rfl rfl rfl (by decide +kernel) ⟨Nat.le_of_ble_eq_true rfl, Nat.le_of_ble_eq_true rfl⟩) rfl hl.1 rfl (Nat.le_of_ble_eq_true rfl) dX2_isBetterPlan_1 ⟨Nat.zero_le _, Nat.zero_le _⟩ ?_
  refine lv_iload_n E.1 E.2.1 dX2_isBetterPlan_4 rfl (lv_at hl 2 rfl) ?_
  refine g_SR (As := [.int p1]) (rest := [.int (FJ6_bitCount_0f7a4 p0)]) E hK (c_J6_bitCount_0f7a4 l D cI cB p1) (va_cwS 1 E.2.2.2.2 gX2_isBetterPlan_J6_bitCount_0f7a4 rfl rfl rfl (by decide +kernel) ⟨Nat.le_of_ble_eq_true rfl, Nat.le_of_ble_eq_true rfl⟩) rfl hl.1 rfl (Nat.le_of_ble_eq_true rfl) dX2_isBetterPlan_5 ⟨Nat.zero_le _, Nat.zero_le _⟩ ?_
  refine lv_isub (x := FJ6_bitCount_0f7a4 p0) (y := FJ6_bitCount_0f7a4 p1) E.1 E.2.1 dX2_isBetterPlan_8 ?_
  refine lv_istore_n (lv' := [(3, .int ((FJ6_bitCount_0f7a4 p0) - (FJ6_bitCount_0f7a4 p1))), (0, .ref (ad 0)), (1, .int p0), (2, .int p1)]) E.1 E.2.1 dX2_isBetterPlan_9 rfl hl (by decide) rfl (fun ls hl => ?_)
  refine lv_iload_n E.1 E.2.1 dX2_isBetterPlan_10 rfl (lv_at hl 0 rfl) ?_
  refine lv_if_gt (x := (FJ6_bitCount_0f7a4 p0) - (FJ6_bitCount_0f7a4 p1)) (tgt := 31) E.1 E.2.1 dX2_isBetterPlan_11 (by decide) (fun h11 => ?_) (fun h11 => ?_)
  · have h11 := h11
    refine lv_iconst (v := 1) E.1 E.2.1 dX2_isBetterPlan_31 (by decide) ?_
    refine lv_goto (tgt := 36) E.1 E.2.1 dX2_isBetterPlan_32 (by decide) ?_
    exact W.zret (v := 1) E.1 E.2.1 hr rfl (fun t ht _ => ⟨congrArg (fun z : Int32 => Outcome.returned (some (Value.int z))) (show 1 = FX2_isBetterPlan f a ta n z c p0 p1 from by rw [FX2_isBetterPlan, if_pos h11]), ht⟩) (fun q hq => by cases hq) dX2_isBetterPlan_36
  · have h11 := h11
    refine lv_iload_n E.1 E.2.1 dX2_isBetterPlan_14 rfl (lv_at hl 0 rfl) ?_
    refine lv_if_ne (x := (FJ6_bitCount_0f7a4 p0) - (FJ6_bitCount_0f7a4 p1)) (tgt := 35) E.1 E.2.1 dX2_isBetterPlan_15 (by decide) (fun h15 => ?_) (fun h15 => ?_)
    · have h15 := h15
      refine lv_iconst (v := 0) E.1 E.2.1 dX2_isBetterPlan_35 (by decide) ?_
      exact W.zret (v := 0) E.1 E.2.1 hr rfl (fun t ht _ => ⟨congrArg (fun z : Int32 => Outcome.returned (some (Value.int z))) (show 0 = FX2_isBetterPlan f a ta n z c p0 p1 from by rw [FX2_isBetterPlan, if_neg h11, if_neg h15]), ht⟩) (fun q hq => by cases hq) dX2_isBetterPlan_36
    · have h15 := h15
      refine lv_aload_n E.1 E.2.1 dX2_isBetterPlan_18 rfl (lv_at hl 1 rfl) ?_
      refine lv_iload_n E.1 E.2.1 dX2_isBetterPlan_19 rfl (lv_at hl 2 rfl) ?_
      refine g_VR (As := [.int p0]) (rest := []) E hK hP (c_X2_costOf l D cI cB ad f a ta n z c hX p0) (cwV 1 E.2.2.2.2 gX2_isBetterPlan_X2_costOf rfl rfl rfl (by decide +kernel) ⟨Nat.le_of_ble_eq_true rfl, Nat.le_of_ble_eq_true rfl⟩) (rx hK hP) rfl hl.1 rfl (Nat.le_of_ble_eq_true rfl) dX2_isBetterPlan_20 ⟨Nat.zero_le _, Nat.zero_le _⟩ ?_
      refine lv_aload_n E.1 E.2.1 dX2_isBetterPlan_23 rfl (lv_at hl 1 rfl) ?_
      refine lv_iload_n E.1 E.2.1 dX2_isBetterPlan_24 rfl (lv_at hl 3 rfl) ?_
      refine g_VR (As := [.int p1]) (rest := [.int (FX2_costOf f a ta n z c p0)]) E hK hP (c_X2_costOf l D cI cB ad f a ta n z c hX p1) (cwV 1 E.2.2.2.2 gX2_isBetterPlan_X2_costOf rfl rfl rfl (by decide +kernel) ⟨Nat.le_of_ble_eq_true rfl, Nat.le_of_ble_eq_true rfl⟩) (rx hK hP) rfl hl.1 rfl (Nat.le_of_ble_eq_true rfl) dX2_isBetterPlan_25 ⟨Nat.zero_le _, Nat.zero_le _⟩ ?_
      refine lv_icmp_ge (x := FX2_costOf f a ta n z c p0) (y := FX2_costOf f a ta n z c p1) (tgt := 35) E.1 E.2.1 dX2_isBetterPlan_28 (by decide) (fun h28 => ?_) (fun h28 => ?_)
      · have h28 := h28
        refine lv_iconst (v := 0) E.1 E.2.1 dX2_isBetterPlan_35 (by decide) ?_
        exact W.zret (v := 0) E.1 E.2.1 hr rfl (fun t ht _ => ⟨congrArg (fun z : Int32 => Outcome.returned (some (Value.int z))) (show 0 = FX2_isBetterPlan f a ta n z c p0 p1 from by rw [FX2_isBetterPlan, if_neg h11, if_pos h15, if_pos h28]), ht⟩) (fun q hq => by cases hq) dX2_isBetterPlan_36
      · have h28 := h28
        refine lv_iconst (v := 1) E.1 E.2.1 dX2_isBetterPlan_31 (by decide) ?_
        refine lv_goto (tgt := 36) E.1 E.2.1 dX2_isBetterPlan_32 (by decide) ?_
        exact W.zret (v := 1) E.1 E.2.1 hr rfl (fun t ht _ => ⟨congrArg (fun z : Int32 => Outcome.returned (some (Value.int z))) (show 1 = FX2_isBetterPlan f a ta n z c p0 p1 from by rw [FX2_isBetterPlan, if_neg h11, if_pos h15, if_neg h28]), ht⟩) (fun q hq => by cases hq) dX2_isBetterPlan_36
def FX2_bestPlan_L4 (f : Nat → Int32) (a : Nat → Nat → Int32) (ta : Nat → Nat → Int32) (n : Nat) (z : Nat) (c : Nat) (p0 : Int32) : Nat → Nat → Int32 → Int32
  | 0, k_2, x2_1 => x2_1
  | d_1 + 1, k_2, x2_1 => (if FX2_loadsOf f a ta n z c (nI k_2) = (-1) then FX2_bestPlan_L4 f a ta n z c p0 d_1 (k_2 + 1) x2_1 else (if p0 < FX2_loadsOf f a ta n z c (nI k_2) then FX2_bestPlan_L4 f a ta n z c p0 d_1 (k_2 + 1) x2_1 else (if FX2_isBetterPlan f a ta n z c (nI k_2) x2_1 = 0 then FX2_bestPlan_L4 f a ta n z c p0 d_1 (k_2 + 1) x2_1 else FX2_bestPlan_L4 f a ta n z c p0 d_1 (k_2 + 1) (nI k_2))))
def FX2_bestPlan (f : Nat → Int32) (a : Nat → Nat → Int32) (ta : Nat → Nat → Int32) (n : Nat) (z : Nat) (c : Nat) (p0 : Int32) : Int32 := FX2_bestPlan_L4 f a ta n z c p0 (2 ^ n - 1) 1 0
set_option maxHeartbeats 4000000 in
set_option maxRecDepth 100000 in
/-- the best set -/
theorem c_X2_bestPlan (l : Launch) (D : va_G) (cI cB : ClassId) (ad : Nat → Nat) (f : Nat → Int32) (a ta : Nat → Nat → Int32) (n z c : Nat) (hX : IX n z c f) (p0 : Int32) : Met l yX2_bestPlan wsX2_bestPlan ({ frames := 3, cells := 0, slots := 0, locals := 67 }) (GPc D cI cB (wX cI ad f a ta) [.ref (ad 0), .int p0]) (QcRead (FX2_bestPlan f a ta n z c p0)) 0 0 (fun _ => False) := by
  refine Met.ofW (cc := cX2_bestPlan) (maxL := 5) (ret := (some .int)) (by decide) rfl ?_
  intro p e s m args below meth cd s₁ B hml hv
  obtain ⟨rfl, hP, hK⟩ := hv
  have hts := atoms_spec (ws := wsX2_bestPlan) B.pre
  have E : CallFix p m cd cX2_bestPlan 5 s _ wsX2_bestPlan RX2 := ⟨B.exec, B.bytes, hml, findClass_of_methodNamed B.named, hts⟩
  have hr := B.returns
  have hlocks := B.notSynchronized
  have h2n := pow6 (n := n) (by have := hX.2.1; omega)
  obtain ⟨hn, hn6, hz, hz21, hc, hc6⟩ := id hX
  have in_2 : ∀ w ∈ wsX20, w ∈ wsX2_bestPlan := fun _ h => List.mem_cons_of_mem _ (List.mem_append_right _ h)
  have w_0 : (Cond.fieldLink RX2 39 "SnowTerm" "sites" "I").before _ s = true := hts _ (by decide +kernel)
  have hl := lv_entry ([.ref (ad 0), .int p0]) (n := 5) (Nat.le_of_ble_eq_true rfl)
  rw [lg_entry_eq]
  generalize (lg_sl ([.ref (ad 0), .int p0]) ++ List.replicate (5 - (lg_sl ([.ref (ad 0), .int p0])).length) Slot.unset).toArray = ls at hl ⊢
  have hl : lv_has ls 5 [(0, .ref (ad 0)), (1, .int p0)] := hl
  refine lv_iconst (v := 0) E.1 E.2.1 dX2_bestPlan_0 (by decide) ?_
  refine lv_istore_n (lv' := [(2, .int 0), (0, .ref (ad 0)), (1, .int p0)]) E.1 E.2.1 dX2_bestPlan_1 rfl hl (by decide) rfl (fun ls hl => ?_)
  refine lv_iconst (v := 1) E.1 E.2.1 dX2_bestPlan_2 (by decide) ?_
  refine lv_istore_n (lv' := [(3, .int 1), (2, .int 0), (0, .ref (ad 0)), (1, .int p0)]) E.1 E.2.1 dX2_bestPlan_3 rfl hl (by decide) rfl (fun ls hl => ?_)
  have loop1 : ∀ (d_1 k_2 : Nat) (x2_1 : Int32) (ls : Array Slot), (k_2 + d_1 = 2 ^ n ∨ (d_1 = 0 ∧ 2 ^ n ≤ k_2 ∧ k_2 < 2 ^ 31)) → lv_has ls 5 [(3, .int (nI k_2)), (2, .int x2_1), (0, .ref (ad 0)), (1, .int p0)] → W p l e (headSpec wsX2_bestPlan { frames := 3, cells := 0, slots := 0, locals := 67 }).room s m ([.ref (ad 0), .int p0] : List Value).toArray below meth cd s.heap [] 0 0 (MQ below (QcRead (FX2_bestPlan_L4 f a ta n z c p0 d_1 k_2 x2_1)) ([.ref (ad 0), .int p0] : List Value).toArray s 0 0 (fun _ => False)) (F0 m 4 ls []) := by
    intro d_1
    induction d_1 with
    | zero =>
      intro k_2 x2_1 ls hk1 hl
      refine lv_iload_n E.1 E.2.1 dX2_bestPlan_4 rfl (lv_at hl 0 rfl) ?_
      refine lv_iconst (v := 1) E.1 E.2.1 dX2_bestPlan_5 (by decide) ?_
      refine lv_aload_n E.1 E.2.1 dX2_bestPlan_6 rfl (lv_at hl 2 rfl) ?_
      refine xg_0_7 E hK hP in_2 w_0 dX2_bestPlan_7 ?_
      refine lv_topi (fun y_3 ey_3 => ?_)
      obtain rfl : y_3 = nI n := ey_3.trans (hn)
      refine lv_ishl (x := 1) (y := nI n) E.1 E.2.1 dX2_bestPlan_10 ?_
      refine lv_topi (fun y_4 ey_4 => ?_)
      obtain rfl : y_4 = nI (2 ^ n) := ey_4.trans (shl_n hn6)
      refine lv_icmp_ge (x := nI k_2) (y := nI (2 ^ n)) (tgt := 50) E.1 E.2.1 dX2_bestPlan_11 (by decide) (fun _ => ?_) (fun h9 => absurd (nI_le (a := (2 ^ n)) (b := k_2) (by omega) (by omega)) h9)
      refine lv_iload_n E.1 E.2.1 dX2_bestPlan_50 rfl (lv_at hl 1 rfl) ?_
      exact W.iret (v := x2_1) E.1 E.2.1 hr (fun t ht _ => ⟨congrArg (fun z : Int32 => Outcome.returned (some (Value.int z))) (show x2_1 = FX2_bestPlan_L4 f a ta n z c p0 0 k_2 x2_1 from by rw [FX2_bestPlan_L4]), ht⟩) (fun q hq => by cases hq) dX2_bestPlan_51
    | succ d_1 ih1 =>
      intro k_2 x2_1 ls hk1 hl
      refine lv_iload_n E.1 E.2.1 dX2_bestPlan_4 rfl (lv_at hl 0 rfl) ?_
      refine lv_iconst (v := 1) E.1 E.2.1 dX2_bestPlan_5 (by decide) ?_
      refine lv_aload_n E.1 E.2.1 dX2_bestPlan_6 rfl (lv_at hl 2 rfl) ?_
      refine xg_0_7 E hK hP in_2 w_0 dX2_bestPlan_7 ?_
      refine lv_topi (fun y_5 ey_5 => ?_)
      obtain rfl : y_5 = nI n := ey_5.trans (hn)
      refine lv_ishl (x := 1) (y := nI n) E.1 E.2.1 dX2_bestPlan_10 ?_
      refine lv_topi (fun y_6 ey_6 => ?_)
      obtain rfl : y_6 = nI (2 ^ n) := ey_6.trans (shl_n hn6)
      refine lv_icmp_ge (x := nI k_2) (y := nI (2 ^ n)) (tgt := 50) E.1 E.2.1 dX2_bestPlan_11 (by decide) (fun h9 => absurd h9 (nI_ge (a := k_2) (b := (2 ^ n)) (by omega) (by omega))) (fun _ => ?_)
      refine lv_aload_n E.1 E.2.1 dX2_bestPlan_14 rfl (lv_at hl 2 rfl) ?_
      refine lv_iload_n E.1 E.2.1 dX2_bestPlan_15 rfl (lv_at hl 0 rfl) ?_
      refine g_VR (As := [.int (nI k_2)]) (rest := []) E hK hP (c_X2_loadsOf l D cI cB ad f a ta n z c hX (nI k_2)) (cwV 1 E.2.2.2.2 gX2_bestPlan_X2_loadsOf rfl rfl rfl (by decide +kernel) ⟨Nat.le_of_ble_eq_true rfl, Nat.le_of_ble_eq_true rfl⟩) (rx hK hP) rfl hl.1 rfl (Nat.le_of_ble_eq_true rfl) dX2_bestPlan_16 ⟨Nat.zero_le _, Nat.zero_le _⟩ ?_
      refine lv_istore (lv' := [(4, .int (FX2_loadsOf f a ta n z c (nI k_2))), (3, .int (nI k_2)), (2, .int x2_1), (0, .ref (ad 0)), (1, .int p0)]) E.1 E.2.1 dX2_bestPlan_19 hl (by decide) rfl (fun ls hl => ?_)
      refine lv_iload E.1 E.2.1 dX2_bestPlan_21 (lv_at hl 0 rfl) ?_
      refine lv_iconst (v := (-1)) E.1 E.2.1 dX2_bestPlan_23 (by decide) ?_
      refine lv_icmp_eq (x := FX2_loadsOf f a ta n z c (nI k_2)) (y := (-1)) (tgt := 44) E.1 E.2.1 dX2_bestPlan_24 (by decide) (fun h24 => ?_) (fun h24 => ?_)
      · have h24 := h24
        refine lv_iinc (v := nI (k_2 + 1)) (k := 1) (lv' := [(3, .int (nI (k_2 + 1))), (4, .int (FX2_loadsOf f a ta n z c (nI k_2))), (2, .int x2_1), (0, .ref (ad 0)), (1, .int p0)]) E.1 E.2.1 dX2_bestPlan_44 hl rfl (nI_1 k_2) (by decide) rfl (fun ls hl => ?_)
        refine lv_goto (tgt := 4) E.1 E.2.1 dX2_bestPlan_47 (by decide) ?_
        rw [show FX2_bestPlan_L4 f a ta n z c p0 (d_1 + 1) k_2 x2_1 = FX2_bestPlan_L4 f a ta n z c p0 d_1 (k_2 + 1) x2_1 from by rw [FX2_bestPlan_L4, if_pos h24]]
        exact ih1 (k_2 + 1) x2_1 ls (by omega) (lv_sub hl [0, 2, 3, 4] rfl)
      · have h24 := h24
        refine lv_iload E.1 E.2.1 dX2_bestPlan_27 (lv_at hl 0 rfl) ?_
        refine lv_iload_n E.1 E.2.1 dX2_bestPlan_29 rfl (lv_at hl 4 rfl) ?_
        refine lv_icmp_gt (x := FX2_loadsOf f a ta n z c (nI k_2)) (y := p0) (tgt := 44) E.1 E.2.1 dX2_bestPlan_30 (by decide) (fun h30 => ?_) (fun h30 => ?_)
        · have h30 := h30
          refine lv_iinc (v := nI (k_2 + 1)) (k := 1) (lv' := [(3, .int (nI (k_2 + 1))), (4, .int (FX2_loadsOf f a ta n z c (nI k_2))), (2, .int x2_1), (0, .ref (ad 0)), (1, .int p0)]) E.1 E.2.1 dX2_bestPlan_44 hl rfl (nI_1 k_2) (by decide) rfl (fun ls hl => ?_)
          refine lv_goto (tgt := 4) E.1 E.2.1 dX2_bestPlan_47 (by decide) ?_
          rw [show FX2_bestPlan_L4 f a ta n z c p0 (d_1 + 1) k_2 x2_1 = FX2_bestPlan_L4 f a ta n z c p0 d_1 (k_2 + 1) x2_1 from by rw [FX2_bestPlan_L4, if_neg h24, if_pos h30]]
          exact ih1 (k_2 + 1) x2_1 ls (by omega) (lv_sub hl [0, 2, 3, 4] rfl)
        · have h30 := h30
          refine lv_aload_n E.1 E.2.1 dX2_bestPlan_33 rfl (lv_at hl 3 rfl) ?_
          refine lv_iload_n E.1 E.2.1 dX2_bestPlan_34 rfl (lv_at hl 1 rfl) ?_
          refine lv_iload_n E.1 E.2.1 dX2_bestPlan_35 rfl (lv_at hl 2 rfl) ?_
          refine g_VR (As := [.int (nI k_2), .int x2_1]) (rest := []) E hK hP (c_X2_isBetterPlan l D cI cB ad f a ta n z c hX (nI k_2) x2_1) (cwV 2 E.2.2.2.2 gX2_bestPlan_X2_isBetterPlan rfl rfl rfl (by decide +kernel) ⟨Nat.le_of_ble_eq_true rfl, Nat.le_of_ble_eq_true rfl⟩) (rx hK hP) rfl hl.1 rfl (Nat.le_of_ble_eq_true rfl) dX2_bestPlan_36 ⟨Nat.zero_le _, Nat.zero_le _⟩ ?_
          refine lv_if_eq (x := FX2_isBetterPlan f a ta n z c (nI k_2) x2_1) (tgt := 44) E.1 E.2.1 dX2_bestPlan_39 (by decide) (fun h39 => ?_) (fun h39 => ?_)
          · have h39 := h39
            refine lv_iinc (v := nI (k_2 + 1)) (k := 1) (lv' := [(3, .int (nI (k_2 + 1))), (4, .int (FX2_loadsOf f a ta n z c (nI k_2))), (2, .int x2_1), (0, .ref (ad 0)), (1, .int p0)]) E.1 E.2.1 dX2_bestPlan_44 hl rfl (nI_1 k_2) (by decide) rfl (fun ls hl => ?_)
            refine lv_goto (tgt := 4) E.1 E.2.1 dX2_bestPlan_47 (by decide) ?_
            rw [show FX2_bestPlan_L4 f a ta n z c p0 (d_1 + 1) k_2 x2_1 = FX2_bestPlan_L4 f a ta n z c p0 d_1 (k_2 + 1) x2_1 from by rw [FX2_bestPlan_L4, if_neg h24, if_neg h30, if_pos h39]]
            exact ih1 (k_2 + 1) x2_1 ls (by omega) (lv_sub hl [0, 2, 3, 4] rfl)
          · have h39 := h39
            refine lv_iload_n E.1 E.2.1 dX2_bestPlan_42 rfl (lv_at hl 1 rfl) ?_
            refine lv_istore_n (lv' := [(2, .int (nI k_2)), (4, .int (FX2_loadsOf f a ta n z c (nI k_2))), (3, .int (nI k_2)), (0, .ref (ad 0)), (1, .int p0)]) E.1 E.2.1 dX2_bestPlan_43 rfl hl (by decide) rfl (fun ls hl => ?_)
            refine lv_iinc (v := nI (k_2 + 1)) (k := 2) (lv' := [(3, .int (nI (k_2 + 1))), (2, .int (nI k_2)), (4, .int (FX2_loadsOf f a ta n z c (nI k_2))), (0, .ref (ad 0)), (1, .int p0)]) E.1 E.2.1 dX2_bestPlan_44 hl rfl (nI_1 k_2) (by decide) rfl (fun ls hl => ?_)
            refine lv_goto (tgt := 4) E.1 E.2.1 dX2_bestPlan_47 (by decide) ?_
            rw [show FX2_bestPlan_L4 f a ta n z c p0 (d_1 + 1) k_2 x2_1 = FX2_bestPlan_L4 f a ta n z c p0 d_1 (k_2 + 1) (nI k_2) from by rw [FX2_bestPlan_L4, if_neg h24, if_neg h30, if_neg h39]]
            exact ih1 (k_2 + 1) (nI k_2) ls (by omega) (lv_sub hl [0, 1, 3, 4] rfl)
  rw [show FX2_bestPlan f a ta n z c p0 = FX2_bestPlan_L4 f a ta n z c p0 (2 ^ n - 1) 1 0 from by rw [FX2_bestPlan]]
  have hl : lv_has ls 5 [(3, .int (nI 1)), (2, .int 0), (0, .ref (ad 0)), (1, .int p0)] := lv_sub hl [0, 1, 2, 3] rfl
  exact loop1 _ _ 0 ls (by omega) (lv_sub hl [0, 1, 2, 3] rfl)
def FX2_deepWithLoadsOf (f : Nat → Int32) (a : Nat → Nat → Int32) (ta : Nat → Nat → Int32) (n : Nat) (z : Nat) (c : Nat) (p0 : Int32) (p1 : Int32) : Int32 := (if FX2_isSite f a ta n z c p0 = 0 then 0 else (if FX2_isSite f a ta n z c p1 = 0 then 0 else FX2_deepened (a 10 p0.toNatClampNeg) (a 12 p1.toNatClampNeg)))
set_option maxHeartbeats 4000000 in
set_option maxRecDepth 100000 in
/-- deep with another's loads -/
theorem c_X2_deepWithLoadsOf (l : Launch) (D : va_G) (cI cB : ClassId) (ad : Nat → Nat) (f : Nat → Int32) (a ta : Nat → Nat → Int32) (n z c : Nat) (hX : IX n z c f) (p0 : Int32) (p1 : Int32) : Met l yX2_deepWithLoadsOf wsX2_deepWithLoadsOf ({ frames := 2, cells := 0, slots := 0, locals := 34 }) (GPc D cI cB (wX cI ad f a ta) [.ref (ad 0), .int p0, .int p1]) (QcRead (FX2_deepWithLoadsOf f a ta n z c p0 p1)) 0 0 (fun _ => False) := by
  refine Met.ofW (cc := cX2_deepWithLoadsOf) (maxL := 3) (ret := (some .int)) (by decide) rfl ?_
  intro p e s m args below meth cd s₁ B hml hv
  obtain ⟨rfl, hP, hK⟩ := hv
  have hts := atoms_spec (ws := wsX2_deepWithLoadsOf) B.pre
  have E : CallFix p m cd cX2_deepWithLoadsOf 3 s _ wsX2_deepWithLoadsOf RX2 := ⟨B.exec, B.bytes, hml, findClass_of_methodNamed B.named, hts⟩
  have hr := B.returns
  have hlocks := B.notSynchronized
  have h2n := pow6 (n := n) (by have := hX.2.1; omega)
  obtain ⟨hn, hn6, hz, hz21, hc, hc6⟩ := id hX
  have in_1 : ∀ w ∈ wsX10, w ∈ wsX2_deepWithLoadsOf := fun _ h => List.mem_cons_of_mem _ (List.mem_append_right _ h)
  have in_2 : ∀ w ∈ wsX20, w ∈ wsX2_deepWithLoadsOf := fun _ h => List.mem_cons_of_mem _ (List.mem_append_left _ (List.mem_append_right _ h))
  have w_0 : (Cond.fieldLink RX2 26 "SnowTerm" "now" "LSnowTerm$Term;").before _ s = true := hts _ (by decide +kernel)
  have w_1 : (Cond.fieldLink RX2 266 "SnowTerm$Term" "snowAtDusk" "[I").before _ s = true := hts _ (by decide +kernel)
  have w_2 : (Cond.fieldLink RX2 105 "SnowTerm$Term" "brought" "[I").before _ s = true := hts _ (by decide +kernel)
  have hl := lv_entry ([.ref (ad 0), .int p0, .int p1]) (n := 3) (Nat.le_of_ble_eq_true rfl)
  rw [lg_entry_eq]
  generalize (lg_sl ([.ref (ad 0), .int p0, .int p1]) ++ List.replicate (3 - (lg_sl ([.ref (ad 0), .int p0, .int p1])).length) Slot.unset).toArray = ls at hl ⊢
  have hl : lv_has ls 3 [(0, .ref (ad 0)), (1, .int p0), (2, .int p1)] := hl
  refine lv_aload_n E.1 E.2.1 dX2_deepWithLoadsOf_0 rfl (lv_at hl 0 rfl) ?_
  refine lv_iload_n E.1 E.2.1 dX2_deepWithLoadsOf_1 rfl (lv_at hl 1 rfl) ?_
  refine g_VR (As := [.int p0]) (rest := []) E hK hP (c_X2_isSite l D cI cB ad f a ta n z c hX p0) (cwV 1 E.2.2.2.2 gX2_deepWithLoadsOf_X2_isSite rfl rfl rfl (by decide +kernel) ⟨Nat.le_of_ble_eq_true rfl, Nat.le_of_ble_eq_true rfl⟩) (rx hK hP) rfl hl.1 rfl (Nat.le_of_ble_eq_true rfl) dX2_deepWithLoadsOf_2 ⟨Nat.zero_le _, Nat.zero_le _⟩ ?_
  refine lv_if_eq (x := FX2_isSite f a ta n z c p0) (tgt := 16) E.1 E.2.1 dX2_deepWithLoadsOf_5 (by decide) (fun h5 => ?_) (fun h5 => ?_)
  · have h5 := h5
    refine lv_iconst (v := 0) E.1 E.2.1 dX2_deepWithLoadsOf_16 (by decide) ?_
    exact W.iret (v := 0) E.1 E.2.1 hr (fun t ht _ => ⟨congrArg (fun z : Int32 => Outcome.returned (some (Value.int z))) (show 0 = FX2_deepWithLoadsOf f a ta n z c p0 p1 from by rw [FX2_deepWithLoadsOf, if_pos h5]), ht⟩) (fun q hq => by cases hq) dX2_deepWithLoadsOf_17
  · have h5 := h5
    refine lv_aload_n E.1 E.2.1 dX2_deepWithLoadsOf_8 rfl (lv_at hl 0 rfl) ?_
    refine lv_iload_n E.1 E.2.1 dX2_deepWithLoadsOf_9 rfl (lv_at hl 2 rfl) ?_
    refine g_VR (As := [.int p1]) (rest := []) E hK hP (c_X2_isSite l D cI cB ad f a ta n z c hX p1) (cwV 1 E.2.2.2.2 gX2_deepWithLoadsOf_X2_isSite rfl rfl rfl (by decide +kernel) ⟨Nat.le_of_ble_eq_true rfl, Nat.le_of_ble_eq_true rfl⟩) (rx hK hP) rfl hl.1 rfl (Nat.le_of_ble_eq_true rfl) dX2_deepWithLoadsOf_10 ⟨Nat.zero_le _, Nat.zero_le _⟩ ?_
    refine lv_if_ne (x := FX2_isSite f a ta n z c p1) (tgt := 18) E.1 E.2.1 dX2_deepWithLoadsOf_13 (by decide) (fun h13 => ?_) (fun h13 => ?_)
    · have h13 := h13
      refine lv_aload_n E.1 E.2.1 dX2_deepWithLoadsOf_18 rfl (lv_at hl 0 rfl) ?_
      refine xg_0_3 E hK hP in_2 w_0 dX2_deepWithLoadsOf_19 ?_
      refine xg_4_5 E hK hP in_1 w_1 dX2_deepWithLoadsOf_22 ?_
      refine lv_iload_n E.1 E.2.1 dX2_deepWithLoadsOf_25 rfl (lv_at hl 1 rfl) ?_
      refine xl_10 (i := p0) E hK hP (site_X hX h5) dX2_deepWithLoadsOf_26 ?_
      refine lv_aload_n E.1 E.2.1 dX2_deepWithLoadsOf_27 rfl (lv_at hl 0 rfl) ?_
      refine xg_0_3 E hK hP in_2 w_0 dX2_deepWithLoadsOf_28 ?_
      refine xg_4_7 E hK hP in_1 w_2 dX2_deepWithLoadsOf_31 ?_
      refine lv_iload_n E.1 E.2.1 dX2_deepWithLoadsOf_34 rfl (lv_at hl 2 rfl) ?_
      refine xl_12 (i := p1) E hK hP (site_X hX h13) dX2_deepWithLoadsOf_35 ?_
      refine g_SR (As := [.int (a 10 p0.toNatClampNeg), .int (a 12 p1.toNatClampNeg)]) (rest := []) E hK (c_X2_deepened l D cI cB (a 10 p0.toNatClampNeg) (a 12 p1.toNatClampNeg)) (va_cwS 2 E.2.2.2.2 gX2_deepWithLoadsOf_X2_deepened rfl rfl rfl (by decide +kernel) ⟨Nat.le_of_ble_eq_true rfl, Nat.le_of_ble_eq_true rfl⟩) rfl hl.1 rfl (Nat.le_of_ble_eq_true rfl) dX2_deepWithLoadsOf_36 ⟨Nat.zero_le _, Nat.zero_le _⟩ ?_
      exact W.iret (v := FX2_deepened (a 10 p0.toNatClampNeg) (a 12 p1.toNatClampNeg)) E.1 E.2.1 hr (fun t ht _ => ⟨congrArg (fun z : Int32 => Outcome.returned (some (Value.int z))) (show FX2_deepened (a 10 p0.toNatClampNeg) (a 12 p1.toNatClampNeg) = FX2_deepWithLoadsOf f a ta n z c p0 p1 from by rw [FX2_deepWithLoadsOf, if_neg h5, if_neg h13]), ht⟩) (fun q hq => by cases hq) dX2_deepWithLoadsOf_39
    · have h13 := h13
      refine lv_iconst (v := 0) E.1 E.2.1 dX2_deepWithLoadsOf_16 (by decide) ?_
      exact W.iret (v := 0) E.1 E.2.1 hr (fun t ht _ => ⟨congrArg (fun z : Int32 => Outcome.returned (some (Value.int z))) (show 0 = FX2_deepWithLoadsOf f a ta n z c p0 p1 from by rw [FX2_deepWithLoadsOf, if_neg h5, if_pos h13]), ht⟩) (fun q hq => by cases hq) dX2_deepWithLoadsOf_17
def FX2_keptIfSwapped_L5 (f : Nat → Int32) (a : Nat → Nat → Int32) (ta : Nat → Nat → Int32) (n : Nat) (z : Nat) (c : Nat) (p0 : Int32) (p1 : Int32) : Nat → Nat → Int32 → Int32
  | 0, k_2, x3_1 => x3_1
  | d_1 + 1, k_2, x3_1 => (if nI k_2 = p0 then (if FX2_isKeptWith f a ta n z c (nI k_2) (FX2_deepWithLoadsOf f a ta n z c (nI k_2) p1) = 0 then FX2_keptIfSwapped_L5 f a ta n z c p0 p1 d_1 (k_2 + 1) x3_1 else FX2_keptIfSwapped_L5 f a ta n z c p0 p1 d_1 (k_2 + 1) (x3_1 + 1)) else (if nI k_2 = p1 then (if FX2_isKeptWith f a ta n z c (nI k_2) (FX2_deepWithLoadsOf f a ta n z c (nI k_2) p0) = 0 then FX2_keptIfSwapped_L5 f a ta n z c p0 p1 d_1 (k_2 + 1) x3_1 else FX2_keptIfSwapped_L5 f a ta n z c p0 p1 d_1 (k_2 + 1) (x3_1 + 1)) else (if FX2_isKeptWith f a ta n z c (nI k_2) (a 9 k_2) = 0 then FX2_keptIfSwapped_L5 f a ta n z c p0 p1 d_1 (k_2 + 1) x3_1 else FX2_keptIfSwapped_L5 f a ta n z c p0 p1 d_1 (k_2 + 1) (x3_1 + 1))))
def FX2_keptIfSwapped (f : Nat → Int32) (a : Nat → Nat → Int32) (ta : Nat → Nat → Int32) (n : Nat) (z : Nat) (c : Nat) (p0 : Int32) (p1 : Int32) : Int32 := FX2_keptIfSwapped_L5 f a ta n z c p0 p1 n 0 0
set_option maxHeartbeats 4000000 in
set_option maxRecDepth 100000 in
/-- kept, if two are swapped -/
theorem c_X2_keptIfSwapped (l : Launch) (D : va_G) (cI cB : ClassId) (ad : Nat → Nat) (f : Nat → Int32) (a ta : Nat → Nat → Int32) (n z c : Nat) (hX : IX n z c f) (p0 : Int32) (p1 : Int32) : Met l yX2_keptIfSwapped wsX2_keptIfSwapped ({ frames := 3, cells := 0, slots := 0, locals := 56 }) (GPc D cI cB (wX cI ad f a ta) [.ref (ad 0), .int p0, .int p1]) (QcRead (FX2_keptIfSwapped f a ta n z c p0 p1)) 0 0 (fun _ => False) := by
  refine Met.ofW (cc := cX2_keptIfSwapped) (maxL := 6) (ret := (some .int)) (by decide) rfl ?_
  intro p e s m args below meth cd s₁ B hml hv
  obtain ⟨rfl, hP, hK⟩ := hv
  have hts := atoms_spec (ws := wsX2_keptIfSwapped) B.pre
  have E : CallFix p m cd cX2_keptIfSwapped 6 s _ wsX2_keptIfSwapped RX2 := ⟨B.exec, B.bytes, hml, findClass_of_methodNamed B.named, hts⟩
  have hr := B.returns
  have hlocks := B.notSynchronized
  have h2n := pow6 (n := n) (by have := hX.2.1; omega)
  obtain ⟨hn, hn6, hz, hz21, hc, hc6⟩ := id hX
  have in_1 : ∀ w ∈ wsX10, w ∈ wsX2_keptIfSwapped := fun _ h => List.mem_cons_of_mem _ (List.mem_append_right _ h)
  have in_2 : ∀ w ∈ wsX20, w ∈ wsX2_keptIfSwapped := fun _ h => List.mem_cons_of_mem _ (List.mem_append_left _ (List.mem_append_right _ h))
  have w_0 : (Cond.fieldLink RX2 39 "SnowTerm" "sites" "I").before _ s = true := hts _ (by decide +kernel)
  have w_1 : (Cond.fieldLink RX2 26 "SnowTerm" "now" "LSnowTerm$Term;").before _ s = true := hts _ (by decide +kernel)
  have w_2 : (Cond.fieldLink RX2 92 "SnowTerm$Term" "snow" "[I").before _ s = true := hts _ (by decide +kernel)
  have hl := lv_entry ([.ref (ad 0), .int p0, .int p1]) (n := 6) (Nat.le_of_ble_eq_true rfl)
  rw [lg_entry_eq]
  generalize (lg_sl ([.ref (ad 0), .int p0, .int p1]) ++ List.replicate (6 - (lg_sl ([.ref (ad 0), .int p0, .int p1])).length) Slot.unset).toArray = ls at hl ⊢
  have hl : lv_has ls 6 [(0, .ref (ad 0)), (1, .int p0), (2, .int p1)] := hl
  refine lv_iconst (v := 0) E.1 E.2.1 dX2_keptIfSwapped_0 (by decide) ?_
  refine lv_istore_n (lv' := [(3, .int 0), (0, .ref (ad 0)), (1, .int p0), (2, .int p1)]) E.1 E.2.1 dX2_keptIfSwapped_1 rfl hl (by decide) rfl (fun ls hl => ?_)
  refine lv_iconst (v := 0) E.1 E.2.1 dX2_keptIfSwapped_2 (by decide) ?_
  refine lv_istore (lv' := [(4, .int 0), (3, .int 0), (0, .ref (ad 0)), (1, .int p0), (2, .int p1)]) E.1 E.2.1 dX2_keptIfSwapped_3 hl (by decide) rfl (fun ls hl => ?_)
  have loop1 : ∀ (d_1 k_2 : Nat) (x3_1 : Int32) (ls : Array Slot), k_2 + d_1 = n → lv_has ls 6 [(4, .int (nI k_2)), (3, .int x3_1), (0, .ref (ad 0)), (1, .int p0), (2, .int p1)] → W p l e (headSpec wsX2_keptIfSwapped { frames := 3, cells := 0, slots := 0, locals := 56 }).room s m ([.ref (ad 0), .int p0, .int p1] : List Value).toArray below meth cd s.heap [] 0 0 (MQ below (QcRead (FX2_keptIfSwapped_L5 f a ta n z c p0 p1 d_1 k_2 x3_1)) ([.ref (ad 0), .int p0, .int p1] : List Value).toArray s 0 0 (fun _ => False)) (F0 m 5 ls []) := by
    intro d_1
    induction d_1 with
    | zero =>
      intro k_2 x3_1 ls hk1 hl
      refine lv_iload E.1 E.2.1 dX2_keptIfSwapped_5 (lv_at hl 0 rfl) ?_
      refine lv_aload_n E.1 E.2.1 dX2_keptIfSwapped_7 rfl (lv_at hl 2 rfl) ?_
      refine xg_0_7 E hK hP in_2 w_0 dX2_keptIfSwapped_8 ?_
      refine lv_topi (fun y_3 ey_3 => ?_)
      obtain rfl : y_3 = nI n := ey_3.trans (hn)
      refine lv_icmp_ge (x := nI k_2) (y := nI n) (tgt := 79) E.1 E.2.1 dX2_keptIfSwapped_11 (by decide) (fun _ => ?_) (fun h9 => absurd (nI_le (a := n) (b := k_2) (by omega) (by omega)) h9)
      refine lv_iload_n E.1 E.2.1 dX2_keptIfSwapped_79 rfl (lv_at hl 1 rfl) ?_
      exact W.iret (v := x3_1) E.1 E.2.1 hr (fun t ht _ => ⟨congrArg (fun z : Int32 => Outcome.returned (some (Value.int z))) (show x3_1 = FX2_keptIfSwapped_L5 f a ta n z c p0 p1 0 k_2 x3_1 from by rw [FX2_keptIfSwapped_L5]), ht⟩) (fun q hq => by cases hq) dX2_keptIfSwapped_80
    | succ d_1 ih1 =>
      intro k_2 x3_1 ls hk1 hl
      refine lv_iload E.1 E.2.1 dX2_keptIfSwapped_5 (lv_at hl 0 rfl) ?_
      refine lv_aload_n E.1 E.2.1 dX2_keptIfSwapped_7 rfl (lv_at hl 2 rfl) ?_
      refine xg_0_7 E hK hP in_2 w_0 dX2_keptIfSwapped_8 ?_
      refine lv_topi (fun y_4 ey_4 => ?_)
      obtain rfl : y_4 = nI n := ey_4.trans (hn)
      refine lv_icmp_ge (x := nI k_2) (y := nI n) (tgt := 79) E.1 E.2.1 dX2_keptIfSwapped_11 (by decide) (fun h9 => absurd h9 (nI_ge (a := k_2) (b := n) (by omega) (by omega))) (fun _ => ?_)
      refine lv_aload_n E.1 E.2.1 dX2_keptIfSwapped_14 rfl (lv_at hl 2 rfl) ?_
      refine xg_0_3 E hK hP in_2 w_1 dX2_keptIfSwapped_15 ?_
      refine xg_4_4 E hK hP in_1 w_2 dX2_keptIfSwapped_18 ?_
      refine lv_iload E.1 E.2.1 dX2_keptIfSwapped_21 (lv_at hl 0 rfl) ?_
      refine xl_9 (i := nI k_2) E hK hP (vp_in_nI (by omega) (by omega)) dX2_keptIfSwapped_23 ?_
      refine lv_topi (fun y_5 ey_5 => ?_)
      obtain rfl : y_5 = a 9 k_2 := ey_5.trans (by rw [nI_clamp (show k_2 < 2 ^ 31 by omega)] <;> rfl)
      refine lv_istore (lv' := [(5, .int (a 9 k_2)), (4, .int (nI k_2)), (3, .int x3_1), (0, .ref (ad 0)), (1, .int p0), (2, .int p1)]) E.1 E.2.1 dX2_keptIfSwapped_24 hl (by decide) rfl (fun ls hl => ?_)
      refine lv_iload E.1 E.2.1 dX2_keptIfSwapped_26 (lv_at hl 1 rfl) ?_
      refine lv_iload_n E.1 E.2.1 dX2_keptIfSwapped_28 rfl (lv_at hl 4 rfl) ?_
      refine lv_icmp_ne (x := nI k_2) (y := p0) (tgt := 44) E.1 E.2.1 dX2_keptIfSwapped_29 (by decide) (fun h29 => ?_) (fun h29 => ?_)
      · have h29 := h29
        refine lv_iload E.1 E.2.1 dX2_keptIfSwapped_44 (lv_at hl 1 rfl) ?_
        refine lv_iload_n E.1 E.2.1 dX2_keptIfSwapped_46 rfl (lv_at hl 5 rfl) ?_
        refine lv_icmp_ne (x := nI k_2) (y := p1) (tgt := 59) E.1 E.2.1 dX2_keptIfSwapped_47 (by decide) (fun h47 => ?_) (fun h47 => ?_)
        · have h47 := h47
          refine lv_aload_n E.1 E.2.1 dX2_keptIfSwapped_59 rfl (lv_at hl 3 rfl) ?_
          refine lv_iload E.1 E.2.1 dX2_keptIfSwapped_60 (lv_at hl 1 rfl) ?_
          refine lv_iload E.1 E.2.1 dX2_keptIfSwapped_62 (lv_at hl 0 rfl) ?_
          refine g_VR (As := [.int (nI k_2), .int (a 9 k_2)]) (rest := []) E hK hP (c_X2_isKeptWith l D cI cB ad f a ta n z c hX (nI k_2) (a 9 k_2) (vp_in_nI (by omega) (by omega))) (cwV 2 E.2.2.2.2 gX2_keptIfSwapped_X2_isKeptWith rfl rfl rfl (by decide +kernel) ⟨Nat.le_of_ble_eq_true rfl, Nat.le_of_ble_eq_true rfl⟩) (rx hK hP) rfl hl.1 rfl (Nat.le_of_ble_eq_true rfl) dX2_keptIfSwapped_64 ⟨Nat.zero_le _, Nat.zero_le _⟩ ?_
          refine lv_if_eq (x := FX2_isKeptWith f a ta n z c (nI k_2) (a 9 k_2)) (tgt := 73) E.1 E.2.1 dX2_keptIfSwapped_67 (by decide) (fun h67 => ?_) (fun h67 => ?_)
          · have h67 := h67
            refine lv_iinc (v := nI (k_2 + 1)) (k := 1) (lv' := [(4, .int (nI (k_2 + 1))), (5, .int (a 9 k_2)), (3, .int x3_1), (0, .ref (ad 0)), (1, .int p0), (2, .int p1)]) E.1 E.2.1 dX2_keptIfSwapped_73 hl rfl (nI_1 k_2) (by decide) rfl (fun ls hl => ?_)
            refine lv_goto (tgt := 5) E.1 E.2.1 dX2_keptIfSwapped_76 (by decide) ?_
            rw [show FX2_keptIfSwapped_L5 f a ta n z c p0 p1 (d_1 + 1) k_2 x3_1 = FX2_keptIfSwapped_L5 f a ta n z c p0 p1 d_1 (k_2 + 1) x3_1 from by rw [FX2_keptIfSwapped_L5, if_neg h29, if_neg h47, if_pos h67]]
            exact ih1 (k_2 + 1) x3_1 ls (by omega) (lv_sub hl [0, 2, 3, 4, 5] rfl)
          · have h67 := h67
            refine lv_iinc (v := x3_1 + 1) (k := 2) (lv' := [(3, .int (x3_1 + 1)), (5, .int (a 9 k_2)), (4, .int (nI k_2)), (0, .ref (ad 0)), (1, .int p0), (2, .int p1)]) E.1 E.2.1 dX2_keptIfSwapped_70 hl rfl (rfl) (by decide) rfl (fun ls hl => ?_)
            refine lv_iinc (v := nI (k_2 + 1)) (k := 2) (lv' := [(4, .int (nI (k_2 + 1))), (3, .int (x3_1 + 1)), (5, .int (a 9 k_2)), (0, .ref (ad 0)), (1, .int p0), (2, .int p1)]) E.1 E.2.1 dX2_keptIfSwapped_73 hl rfl (nI_1 k_2) (by decide) rfl (fun ls hl => ?_)
            refine lv_goto (tgt := 5) E.1 E.2.1 dX2_keptIfSwapped_76 (by decide) ?_
            rw [show FX2_keptIfSwapped_L5 f a ta n z c p0 p1 (d_1 + 1) k_2 x3_1 = FX2_keptIfSwapped_L5 f a ta n z c p0 p1 d_1 (k_2 + 1) (x3_1 + 1) from by rw [FX2_keptIfSwapped_L5, if_neg h29, if_neg h47, if_neg h67]]
            exact ih1 (k_2 + 1) (x3_1 + 1) ls (by omega) (lv_sub hl [0, 1, 3, 4, 5] rfl)
        · have h47 := h47
          refine lv_aload_n E.1 E.2.1 dX2_keptIfSwapped_50 rfl (lv_at hl 3 rfl) ?_
          refine lv_iload E.1 E.2.1 dX2_keptIfSwapped_51 (lv_at hl 1 rfl) ?_
          refine lv_iload_n E.1 E.2.1 dX2_keptIfSwapped_53 rfl (lv_at hl 4 rfl) ?_
          refine g_VR (As := [.int (nI k_2), .int p0]) (rest := []) E hK hP (c_X2_deepWithLoadsOf l D cI cB ad f a ta n z c hX (nI k_2) p0) (cwV 2 E.2.2.2.2 gX2_keptIfSwapped_X2_deepWithLoadsOf rfl rfl rfl (by decide +kernel) ⟨Nat.le_of_ble_eq_true rfl, Nat.le_of_ble_eq_true rfl⟩) (rx hK hP) rfl hl.1 rfl (Nat.le_of_ble_eq_true rfl) dX2_keptIfSwapped_54 ⟨Nat.zero_le _, Nat.zero_le _⟩ ?_
          refine lv_istore (lv' := [(5, .int (FX2_deepWithLoadsOf f a ta n z c (nI k_2) p0)), (4, .int (nI k_2)), (3, .int x3_1), (0, .ref (ad 0)), (1, .int p0), (2, .int p1)]) E.1 E.2.1 dX2_keptIfSwapped_57 hl (by decide) rfl (fun ls hl => ?_)
          refine lv_aload_n E.1 E.2.1 dX2_keptIfSwapped_59 rfl (lv_at hl 3 rfl) ?_
          refine lv_iload E.1 E.2.1 dX2_keptIfSwapped_60 (lv_at hl 1 rfl) ?_
          refine lv_iload E.1 E.2.1 dX2_keptIfSwapped_62 (lv_at hl 0 rfl) ?_
          refine g_VR (As := [.int (nI k_2), .int (FX2_deepWithLoadsOf f a ta n z c (nI k_2) p0)]) (rest := []) E hK hP (c_X2_isKeptWith l D cI cB ad f a ta n z c hX (nI k_2) (FX2_deepWithLoadsOf f a ta n z c (nI k_2) p0) (vp_in_nI (by omega) (by omega))) (cwV 2 E.2.2.2.2 gX2_keptIfSwapped_X2_isKeptWith rfl rfl rfl (by decide +kernel) ⟨Nat.le_of_ble_eq_true rfl, Nat.le_of_ble_eq_true rfl⟩) (rx hK hP) rfl hl.1 rfl (Nat.le_of_ble_eq_true rfl) dX2_keptIfSwapped_64 ⟨Nat.zero_le _, Nat.zero_le _⟩ ?_
          refine lv_if_eq (x := FX2_isKeptWith f a ta n z c (nI k_2) (FX2_deepWithLoadsOf f a ta n z c (nI k_2) p0)) (tgt := 73) E.1 E.2.1 dX2_keptIfSwapped_67 (by decide) (fun h67 => ?_) (fun h67 => ?_)
          · have h67 := h67
            refine lv_iinc (v := nI (k_2 + 1)) (k := 1) (lv' := [(4, .int (nI (k_2 + 1))), (5, .int (FX2_deepWithLoadsOf f a ta n z c (nI k_2) p0)), (3, .int x3_1), (0, .ref (ad 0)), (1, .int p0), (2, .int p1)]) E.1 E.2.1 dX2_keptIfSwapped_73 hl rfl (nI_1 k_2) (by decide) rfl (fun ls hl => ?_)
            refine lv_goto (tgt := 5) E.1 E.2.1 dX2_keptIfSwapped_76 (by decide) ?_
            rw [show FX2_keptIfSwapped_L5 f a ta n z c p0 p1 (d_1 + 1) k_2 x3_1 = FX2_keptIfSwapped_L5 f a ta n z c p0 p1 d_1 (k_2 + 1) x3_1 from by rw [FX2_keptIfSwapped_L5, if_neg h29, if_pos h47, if_pos h67]]
            exact ih1 (k_2 + 1) x3_1 ls (by omega) (lv_sub hl [0, 2, 3, 4, 5] rfl)
          · have h67 := h67
            refine lv_iinc (v := x3_1 + 1) (k := 2) (lv' := [(3, .int (x3_1 + 1)), (5, .int (FX2_deepWithLoadsOf f a ta n z c (nI k_2) p0)), (4, .int (nI k_2)), (0, .ref (ad 0)), (1, .int p0), (2, .int p1)]) E.1 E.2.1 dX2_keptIfSwapped_70 hl rfl (rfl) (by decide) rfl (fun ls hl => ?_)
            refine lv_iinc (v := nI (k_2 + 1)) (k := 2) (lv' := [(4, .int (nI (k_2 + 1))), (3, .int (x3_1 + 1)), (5, .int (FX2_deepWithLoadsOf f a ta n z c (nI k_2) p0)), (0, .ref (ad 0)), (1, .int p0), (2, .int p1)]) E.1 E.2.1 dX2_keptIfSwapped_73 hl rfl (nI_1 k_2) (by decide) rfl (fun ls hl => ?_)
            refine lv_goto (tgt := 5) E.1 E.2.1 dX2_keptIfSwapped_76 (by decide) ?_
            rw [show FX2_keptIfSwapped_L5 f a ta n z c p0 p1 (d_1 + 1) k_2 x3_1 = FX2_keptIfSwapped_L5 f a ta n z c p0 p1 d_1 (k_2 + 1) (x3_1 + 1) from by rw [FX2_keptIfSwapped_L5, if_neg h29, if_pos h47, if_neg h67]]
            exact ih1 (k_2 + 1) (x3_1 + 1) ls (by omega) (lv_sub hl [0, 1, 3, 4, 5] rfl)
      · have h29 := h29
        refine lv_aload_n E.1 E.2.1 dX2_keptIfSwapped_32 rfl (lv_at hl 3 rfl) ?_
        refine lv_iload E.1 E.2.1 dX2_keptIfSwapped_33 (lv_at hl 1 rfl) ?_
        refine lv_iload_n E.1 E.2.1 dX2_keptIfSwapped_35 rfl (lv_at hl 5 rfl) ?_
        refine g_VR (As := [.int (nI k_2), .int p1]) (rest := []) E hK hP (c_X2_deepWithLoadsOf l D cI cB ad f a ta n z c hX (nI k_2) p1) (cwV 2 E.2.2.2.2 gX2_keptIfSwapped_X2_deepWithLoadsOf rfl rfl rfl (by decide +kernel) ⟨Nat.le_of_ble_eq_true rfl, Nat.le_of_ble_eq_true rfl⟩) (rx hK hP) rfl hl.1 rfl (Nat.le_of_ble_eq_true rfl) dX2_keptIfSwapped_36 ⟨Nat.zero_le _, Nat.zero_le _⟩ ?_
        refine lv_istore (lv' := [(5, .int (FX2_deepWithLoadsOf f a ta n z c (nI k_2) p1)), (4, .int (nI k_2)), (3, .int x3_1), (0, .ref (ad 0)), (1, .int p0), (2, .int p1)]) E.1 E.2.1 dX2_keptIfSwapped_39 hl (by decide) rfl (fun ls hl => ?_)
        refine lv_goto (tgt := 59) E.1 E.2.1 dX2_keptIfSwapped_41 (by decide) ?_
        refine lv_aload_n E.1 E.2.1 dX2_keptIfSwapped_59 rfl (lv_at hl 3 rfl) ?_
        refine lv_iload E.1 E.2.1 dX2_keptIfSwapped_60 (lv_at hl 1 rfl) ?_
        refine lv_iload E.1 E.2.1 dX2_keptIfSwapped_62 (lv_at hl 0 rfl) ?_
        refine g_VR (As := [.int (nI k_2), .int (FX2_deepWithLoadsOf f a ta n z c (nI k_2) p1)]) (rest := []) E hK hP (c_X2_isKeptWith l D cI cB ad f a ta n z c hX (nI k_2) (FX2_deepWithLoadsOf f a ta n z c (nI k_2) p1) (vp_in_nI (by omega) (by omega))) (cwV 2 E.2.2.2.2 gX2_keptIfSwapped_X2_isKeptWith rfl rfl rfl (by decide +kernel) ⟨Nat.le_of_ble_eq_true rfl, Nat.le_of_ble_eq_true rfl⟩) (rx hK hP) rfl hl.1 rfl (Nat.le_of_ble_eq_true rfl) dX2_keptIfSwapped_64 ⟨Nat.zero_le _, Nat.zero_le _⟩ ?_
        refine lv_if_eq (x := FX2_isKeptWith f a ta n z c (nI k_2) (FX2_deepWithLoadsOf f a ta n z c (nI k_2) p1)) (tgt := 73) E.1 E.2.1 dX2_keptIfSwapped_67 (by decide) (fun h67 => ?_) (fun h67 => ?_)
        · have h67 := h67
          refine lv_iinc (v := nI (k_2 + 1)) (k := 1) (lv' := [(4, .int (nI (k_2 + 1))), (5, .int (FX2_deepWithLoadsOf f a ta n z c (nI k_2) p1)), (3, .int x3_1), (0, .ref (ad 0)), (1, .int p0), (2, .int p1)]) E.1 E.2.1 dX2_keptIfSwapped_73 hl rfl (nI_1 k_2) (by decide) rfl (fun ls hl => ?_)
          refine lv_goto (tgt := 5) E.1 E.2.1 dX2_keptIfSwapped_76 (by decide) ?_
          rw [show FX2_keptIfSwapped_L5 f a ta n z c p0 p1 (d_1 + 1) k_2 x3_1 = FX2_keptIfSwapped_L5 f a ta n z c p0 p1 d_1 (k_2 + 1) x3_1 from by rw [FX2_keptIfSwapped_L5, if_pos h29, if_pos h67]]
          exact ih1 (k_2 + 1) x3_1 ls (by omega) (lv_sub hl [0, 2, 3, 4, 5] rfl)
        · have h67 := h67
          refine lv_iinc (v := x3_1 + 1) (k := 2) (lv' := [(3, .int (x3_1 + 1)), (5, .int (FX2_deepWithLoadsOf f a ta n z c (nI k_2) p1)), (4, .int (nI k_2)), (0, .ref (ad 0)), (1, .int p0), (2, .int p1)]) E.1 E.2.1 dX2_keptIfSwapped_70 hl rfl (rfl) (by decide) rfl (fun ls hl => ?_)
          refine lv_iinc (v := nI (k_2 + 1)) (k := 2) (lv' := [(4, .int (nI (k_2 + 1))), (3, .int (x3_1 + 1)), (5, .int (FX2_deepWithLoadsOf f a ta n z c (nI k_2) p1)), (0, .ref (ad 0)), (1, .int p0), (2, .int p1)]) E.1 E.2.1 dX2_keptIfSwapped_73 hl rfl (nI_1 k_2) (by decide) rfl (fun ls hl => ?_)
          refine lv_goto (tgt := 5) E.1 E.2.1 dX2_keptIfSwapped_76 (by decide) ?_
          rw [show FX2_keptIfSwapped_L5 f a ta n z c p0 p1 (d_1 + 1) k_2 x3_1 = FX2_keptIfSwapped_L5 f a ta n z c p0 p1 d_1 (k_2 + 1) (x3_1 + 1) from by rw [FX2_keptIfSwapped_L5, if_pos h29, if_neg h67]]
          exact ih1 (k_2 + 1) (x3_1 + 1) ls (by omega) (lv_sub hl [0, 1, 3, 4, 5] rfl)
  rw [show FX2_keptIfSwapped f a ta n z c p0 p1 = FX2_keptIfSwapped_L5 f a ta n z c p0 p1 n 0 0 from by rw [FX2_keptIfSwapped]]
  have hl : lv_has ls 6 [(4, .int (nI 0)), (3, .int 0), (0, .ref (ad 0)), (1, .int p0), (2, .int p1)] := lv_sub hl [0, 1, 2, 3, 4] rfl
  exact loop1 _ _ 0 ls (by omega) (lv_sub hl [0, 1, 2, 3, 4] rfl)
def FX2_bestError_L29 (f : Nat → Int32) (a : Nat → Nat → Int32) (ta : Nat → Nat → Int32) (n : Nat) (z : Nat) (c : Nat) (k_2 : Nat) (x1_1 : Int32) (x2_1 : Int32) : Nat → Nat → Int32 → Int32 → Int32 × Int32
  | 0, k_7, x1_6, x2_6 => (x1_6, x2_6)
  | d_6 + 1, k_7, x1_6, x2_6 => (if FX2_keptIfSwapped f a ta n z c (nI k_2) (nI k_7) ≤ x2_6 then FX2_bestError_L29 f a ta n z c k_2 x1_1 x2_1 d_6 (k_7 + 1) x1_6 x2_6 else FX2_bestError_L29 f a ta n z c k_2 x1_1 x2_1 d_6 (k_7 + 1) ((10 * (nI k_2)) + (nI k_7)) (FX2_keptIfSwapped f a ta n z c (nI k_2) (nI k_7)))
def FX2_bestError_L16 (f : Nat → Int32) (a : Nat → Nat → Int32) (ta : Nat → Nat → Int32) (n : Nat) (z : Nat) (c : Nat) : Nat → Nat → Int32 → Int32 → Int32
  | 0, k_2, x1_1, x2_1 => x1_1
  | d_1 + 1, k_2, x1_1, x2_1 => FX2_bestError_L16 f a ta n z c d_1 (k_2 + 1) ((FX2_bestError_L29 f a ta n z c k_2 x1_1 x2_1 (n - (k_2 + 1)) (k_2 + 1) x1_1 x2_1).1) ((FX2_bestError_L29 f a ta n z c k_2 x1_1 x2_1 (n - (k_2 + 1)) (k_2 + 1) x1_1 x2_1).2)
def FX2_bestError (f : Nat → Int32) (a : Nat → Nat → Int32) (ta : Nat → Nat → Int32) (n : Nat) (z : Nat) (c : Nat) : Int32 := FX2_bestError_L16 f a ta n z c n 0 (-1) (FX2_keptIn_at9 f a ta n z c)
set_option maxHeartbeats 4000000 in
set_option maxRecDepth 100000 in
/-- the best error -/
theorem c_X2_bestError (l : Launch) (D : va_G) (cI cB : ClassId) (ad : Nat → Nat) (f : Nat → Int32) (a ta : Nat → Nat → Int32) (n z c : Nat) (hX : IX n z c f)  : Met l yX2_bestError wsX2_bestError ({ frames := 4, cells := 0, slots := 0, locals := 81 }) (GPc D cI cB (wX cI ad f a ta) [.ref (ad 0)]) (QcRead (FX2_bestError f a ta n z c)) 0 0 (fun _ => False) := by
  refine Met.ofW (cc := cX2_bestError) (maxL := 6) (ret := (some .int)) (by decide) rfl ?_
  intro p e s m args below meth cd s₁ B hml hv
  obtain ⟨rfl, hP, hK⟩ := hv
  have hts := atoms_spec (ws := wsX2_bestError) B.pre
  have E : CallFix p m cd cX2_bestError 6 s _ wsX2_bestError RX2 := ⟨B.exec, B.bytes, hml, findClass_of_methodNamed B.named, hts⟩
  have hr := B.returns
  have hlocks := B.notSynchronized
  have h2n := pow6 (n := n) (by have := hX.2.1; omega)
  obtain ⟨hn, hn6, hz, hz21, hc, hc6⟩ := id hX
  have in_1 : ∀ w ∈ wsX10, w ∈ wsX2_bestError := fun _ h => List.mem_cons_of_mem _ (List.mem_append_right _ h)
  have in_2 : ∀ w ∈ wsX20, w ∈ wsX2_bestError := fun _ h => List.mem_cons_of_mem _ (List.mem_append_left _ (List.mem_append_right _ h))
  have w_0 : (Cond.fieldLink RX2 26 "SnowTerm" "now" "LSnowTerm$Term;").before _ s = true := hts _ (by decide +kernel)
  have w_1 : (Cond.fieldLink RX2 92 "SnowTerm$Term" "snow" "[I").before _ s = true := hts _ (by decide +kernel)
  have w_2 : (Cond.fieldLink RX2 39 "SnowTerm" "sites" "I").before _ s = true := hts _ (by decide +kernel)
  have hl := lv_entry ([.ref (ad 0)]) (n := 6) (Nat.le_of_ble_eq_true rfl)
  rw [lg_entry_eq]
  generalize (lg_sl ([.ref (ad 0)]) ++ List.replicate (6 - (lg_sl ([.ref (ad 0)])).length) Slot.unset).toArray = ls at hl ⊢
  have hl : lv_has ls 6 [(0, .ref (ad 0))] := hl
  refine lv_iconst (v := (-1)) E.1 E.2.1 dX2_bestError_0 (by decide) ?_
  refine lv_istore_n (lv' := [(1, .int (-1)), (0, .ref (ad 0))]) E.1 E.2.1 dX2_bestError_1 rfl hl (by decide) rfl (fun ls hl => ?_)
  refine lv_aload_n E.1 E.2.1 dX2_bestError_2 rfl (lv_at hl 1 rfl) ?_
  refine lv_aload_n E.1 E.2.1 dX2_bestError_3 rfl (lv_at hl 1 rfl) ?_
  refine xg_0_3 E hK hP in_2 w_0 dX2_bestError_4 ?_
  refine xg_4_4 E hK hP in_1 w_1 dX2_bestError_7 ?_
  refine g_VR (As := [.ref (ad 9)]) (rest := []) E hK hP (c_X2_keptIn_at9 l D cI cB ad f a ta n z c hX) (cwV 1 E.2.2.2.2 gX2_bestError_X2_keptIn rfl rfl rfl (by decide +kernel) ⟨Nat.le_of_ble_eq_true rfl, Nat.le_of_ble_eq_true rfl⟩) (rx hK hP) rfl hl.1 rfl (Nat.le_of_ble_eq_true rfl) dX2_bestError_10 ⟨Nat.zero_le _, Nat.zero_le _⟩ ?_
  refine lv_istore_n (lv' := [(2, .int (FX2_keptIn_at9 f a ta n z c)), (1, .int (-1)), (0, .ref (ad 0))]) E.1 E.2.1 dX2_bestError_13 rfl hl (by decide) rfl (fun ls hl => ?_)
  refine lv_iconst (v := 0) E.1 E.2.1 dX2_bestError_14 (by decide) ?_
  refine lv_istore_n (lv' := [(3, .int 0), (2, .int (FX2_keptIn_at9 f a ta n z c)), (1, .int (-1)), (0, .ref (ad 0))]) E.1 E.2.1 dX2_bestError_15 rfl hl (by decide) rfl (fun ls hl => ?_)
  have loop1 : ∀ (d_1 k_2 : Nat) (x1_1 x2_1 : Int32) (ls : Array Slot), k_2 + d_1 = n → lv_has ls 6 [(3, .int (nI k_2)), (1, .int x1_1), (2, .int x2_1), (0, .ref (ad 0))] → W p l e (headSpec wsX2_bestError { frames := 4, cells := 0, slots := 0, locals := 81 }).room s m ([.ref (ad 0)] : List Value).toArray below meth cd s.heap [] 0 0 (MQ below (QcRead (FX2_bestError_L16 f a ta n z c d_1 k_2 x1_1 x2_1)) ([.ref (ad 0)] : List Value).toArray s 0 0 (fun _ => False)) (F0 m 16 ls []) := by
    intro d_1
    induction d_1 with
    | zero =>
      intro k_2 x1_1 x2_1 ls hk1 hl
      refine lv_iload_n E.1 E.2.1 dX2_bestError_16 rfl (lv_at hl 0 rfl) ?_
      refine lv_aload_n E.1 E.2.1 dX2_bestError_17 rfl (lv_at hl 3 rfl) ?_
      refine xg_0_7 E hK hP in_2 w_2 dX2_bestError_18 ?_
      refine lv_topi (fun y_3 ey_3 => ?_)
      obtain rfl : y_3 = nI n := ey_3.trans (hn)
      refine lv_icmp_ge (x := nI k_2) (y := nI n) (tgt := 76) E.1 E.2.1 dX2_bestError_21 (by decide) (fun _ => ?_) (fun h9 => absurd (nI_le (a := n) (b := k_2) (by omega) (by omega)) h9)
      refine lv_iload_n E.1 E.2.1 dX2_bestError_76 rfl (lv_at hl 1 rfl) ?_
      exact W.iret (v := x1_1) E.1 E.2.1 hr (fun t ht _ => ⟨congrArg (fun z : Int32 => Outcome.returned (some (Value.int z))) (show x1_1 = FX2_bestError_L16 f a ta n z c 0 k_2 x1_1 x2_1 from by rw [FX2_bestError_L16]), ht⟩) (fun q hq => by cases hq) dX2_bestError_77
    | succ d_1 ih1 =>
      intro k_2 x1_1 x2_1 ls hk1 hl
      refine lv_iload_n E.1 E.2.1 dX2_bestError_16 rfl (lv_at hl 0 rfl) ?_
      refine lv_aload_n E.1 E.2.1 dX2_bestError_17 rfl (lv_at hl 3 rfl) ?_
      refine xg_0_7 E hK hP in_2 w_2 dX2_bestError_18 ?_
      refine lv_topi (fun y_4 ey_4 => ?_)
      obtain rfl : y_4 = nI n := ey_4.trans (hn)
      refine lv_icmp_ge (x := nI k_2) (y := nI n) (tgt := 76) E.1 E.2.1 dX2_bestError_21 (by decide) (fun h9 => absurd h9 (nI_ge (a := k_2) (b := n) (by omega) (by omega))) (fun _ => ?_)
      refine lv_iload_n E.1 E.2.1 dX2_bestError_24 rfl (lv_at hl 0 rfl) ?_
      refine lv_iconst (v := 1) E.1 E.2.1 dX2_bestError_25 (by decide) ?_
      refine lv_iadd (x := nI k_2) (y := 1) E.1 E.2.1 dX2_bestError_26 ?_
      refine lv_topi (fun y_5 ey_5 => ?_)
      obtain rfl : y_5 = nI (k_2 + 1) := ey_5.trans (nI_1 k_2)
      refine lv_istore (lv' := [(4, .int (nI (k_2 + 1))), (3, .int (nI k_2)), (1, .int x1_1), (2, .int x2_1), (0, .ref (ad 0))]) E.1 E.2.1 dX2_bestError_27 hl (by decide) rfl (fun ls hl => ?_)
      have loop6 : ∀ (d_6 k_7 : Nat) (x1_6 x2_6 : Int32) (ls : Array Slot), k_7 + d_6 = n → lv_has ls 6 [(4, .int (nI k_7)), (1, .int x1_6), (2, .int x2_6), (3, .int (nI k_2)), (0, .ref (ad 0))] → (∀ ls : Array Slot, lv_has ls 6 [(4, .int (nI n)), (1, .int ((FX2_bestError_L29 f a ta n z c k_2 x1_1 x2_1 d_6 k_7 x1_6 x2_6).1)), (2, .int ((FX2_bestError_L29 f a ta n z c k_2 x1_1 x2_1 d_6 k_7 x1_6 x2_6).2)), (3, .int (nI k_2)), (0, .ref (ad 0))] → W p l e (headSpec wsX2_bestError { frames := 4, cells := 0, slots := 0, locals := 81 }).room s m ([.ref (ad 0)] : List Value).toArray below meth cd s.heap [] 0 0 (MQ below (QcRead (FX2_bestError_L16 f a ta n z c (d_1 + 1) k_2 x1_1 x2_1)) ([.ref (ad 0)] : List Value).toArray s 0 0 (fun _ => False)) (F0 m 70 ls [])) → W p l e (headSpec wsX2_bestError { frames := 4, cells := 0, slots := 0, locals := 81 }).room s m ([.ref (ad 0)] : List Value).toArray below meth cd s.heap [] 0 0 (MQ below (QcRead (FX2_bestError_L16 f a ta n z c (d_1 + 1) k_2 x1_1 x2_1)) ([.ref (ad 0)] : List Value).toArray s 0 0 (fun _ => False)) (F0 m 29 ls []) := by
        intro d_6
        induction d_6 with
        | zero =>
          intro k_7 x1_6 x2_6 ls hk6 hl hcont
          refine lv_iload E.1 E.2.1 dX2_bestError_29 (lv_at hl 0 rfl) ?_
          refine lv_aload_n E.1 E.2.1 dX2_bestError_31 rfl (lv_at hl 4 rfl) ?_
          refine xg_0_7 E hK hP in_2 w_2 dX2_bestError_32 ?_
          refine lv_topi (fun y_8 ey_8 => ?_)
          obtain rfl : y_8 = nI n := ey_8.trans (hn)
          refine lv_icmp_ge (x := nI k_7) (y := nI n) (tgt := 70) E.1 E.2.1 dX2_bestError_35 (by decide) (fun _ => ?_) (fun h9 => absurd (nI_le (a := n) (b := k_7) (by omega) (by omega)) h9)
          rw [show FX2_bestError_L29 f a ta n z c k_2 x1_1 x2_1 0 k_7 x1_6 x2_6 = (x1_6, x2_6) from by rw [FX2_bestError_L29]] at hcont
          have e9 : k_7 = n := by omega
          rw [e9] at hl
          exact hcont ls (lv_sub hl [0, 1, 2, 3, 4] rfl)
        | succ d_6 ih6 =>
          intro k_7 x1_6 x2_6 ls hk6 hl hcont
          refine lv_iload E.1 E.2.1 dX2_bestError_29 (lv_at hl 0 rfl) ?_
          refine lv_aload_n E.1 E.2.1 dX2_bestError_31 rfl (lv_at hl 4 rfl) ?_
          refine xg_0_7 E hK hP in_2 w_2 dX2_bestError_32 ?_
          refine lv_topi (fun y_9 ey_9 => ?_)
          obtain rfl : y_9 = nI n := ey_9.trans (hn)
          refine lv_icmp_ge (x := nI k_7) (y := nI n) (tgt := 70) E.1 E.2.1 dX2_bestError_35 (by decide) (fun h9 => absurd h9 (nI_ge (a := k_7) (b := n) (by omega) (by omega))) (fun _ => ?_)
          refine lv_aload_n E.1 E.2.1 dX2_bestError_38 rfl (lv_at hl 4 rfl) ?_
          refine lv_iload_n E.1 E.2.1 dX2_bestError_39 rfl (lv_at hl 3 rfl) ?_
          refine lv_iload E.1 E.2.1 dX2_bestError_40 (lv_at hl 0 rfl) ?_
          refine g_VR (As := [.int (nI k_2), .int (nI k_7)]) (rest := []) E hK hP (c_X2_keptIfSwapped l D cI cB ad f a ta n z c hX (nI k_2) (nI k_7)) (cwV 2 E.2.2.2.2 gX2_bestError_X2_keptIfSwapped rfl rfl rfl (by decide +kernel) ⟨Nat.le_of_ble_eq_true rfl, Nat.le_of_ble_eq_true rfl⟩) (rx hK hP) rfl hl.1 rfl (Nat.le_of_ble_eq_true rfl) dX2_bestError_42 ⟨Nat.zero_le _, Nat.zero_le _⟩ ?_
          refine lv_istore (lv' := [(5, .int (FX2_keptIfSwapped f a ta n z c (nI k_2) (nI k_7))), (4, .int (nI k_7)), (1, .int x1_6), (2, .int x2_6), (3, .int (nI k_2)), (0, .ref (ad 0))]) E.1 E.2.1 dX2_bestError_45 hl (by decide) rfl (fun ls hl => ?_)
          refine lv_iload E.1 E.2.1 dX2_bestError_47 (lv_at hl 0 rfl) ?_
          refine lv_iload_n E.1 E.2.1 dX2_bestError_49 rfl (lv_at hl 3 rfl) ?_
          refine lv_icmp_le (x := FX2_keptIfSwapped f a ta n z c (nI k_2) (nI k_7)) (y := x2_6) (tgt := 64) E.1 E.2.1 dX2_bestError_50 (by decide) (fun h50 => ?_) (fun h50 => ?_)
          · have h50 := h50
            refine lv_iinc (v := nI (k_7 + 1)) (k := 1) (lv' := [(4, .int (nI (k_7 + 1))), (5, .int (FX2_keptIfSwapped f a ta n z c (nI k_2) (nI k_7))), (1, .int x1_6), (2, .int x2_6), (3, .int (nI k_2)), (0, .ref (ad 0))]) E.1 E.2.1 dX2_bestError_64 hl rfl (nI_1 k_7) (by decide) rfl (fun ls hl => ?_)
            refine lv_goto (tgt := 29) E.1 E.2.1 dX2_bestError_67 (by decide) ?_
            rw [show FX2_bestError_L29 f a ta n z c k_2 x1_1 x2_1 (d_6 + 1) k_7 x1_6 x2_6 = FX2_bestError_L29 f a ta n z c k_2 x1_1 x2_1 d_6 (k_7 + 1) x1_6 x2_6 from by rw [FX2_bestError_L29, if_pos h50]] at hcont
            exact ih6 (k_7 + 1) x1_6 x2_6 ls (by omega) (lv_sub hl [0, 2, 3, 4, 5] rfl) hcont
          · have h50 := h50
            refine lv_iload E.1 E.2.1 dX2_bestError_53 (lv_at hl 0 rfl) ?_
            refine lv_istore_n (lv' := [(2, .int (FX2_keptIfSwapped f a ta n z c (nI k_2) (nI k_7))), (5, .int (FX2_keptIfSwapped f a ta n z c (nI k_2) (nI k_7))), (4, .int (nI k_7)), (1, .int x1_6), (3, .int (nI k_2)), (0, .ref (ad 0))]) E.1 E.2.1 dX2_bestError_55 rfl hl (by decide) rfl (fun ls hl => ?_)
            refine lv_bipush (v := 10) E.1 E.2.1 dX2_bestError_56 (by decide) ?_
            refine lv_iload_n E.1 E.2.1 dX2_bestError_58 rfl (lv_at hl 4 rfl) ?_
            refine lv_imul (x := 10) (y := nI k_2) E.1 E.2.1 dX2_bestError_59 ?_
            refine lv_iload E.1 E.2.1 dX2_bestError_60 (lv_at hl 2 rfl) ?_
            refine lv_iadd (x := 10 * (nI k_2)) (y := nI k_7) E.1 E.2.1 dX2_bestError_62 ?_
            refine lv_istore_n (lv' := [(1, .int ((10 * (nI k_2)) + (nI k_7))), (2, .int (FX2_keptIfSwapped f a ta n z c (nI k_2) (nI k_7))), (5, .int (FX2_keptIfSwapped f a ta n z c (nI k_2) (nI k_7))), (4, .int (nI k_7)), (3, .int (nI k_2)), (0, .ref (ad 0))]) E.1 E.2.1 dX2_bestError_63 rfl hl (by decide) rfl (fun ls hl => ?_)
            refine lv_iinc (v := nI (k_7 + 1)) (k := 3) (lv' := [(4, .int (nI (k_7 + 1))), (1, .int ((10 * (nI k_2)) + (nI k_7))), (2, .int (FX2_keptIfSwapped f a ta n z c (nI k_2) (nI k_7))), (5, .int (FX2_keptIfSwapped f a ta n z c (nI k_2) (nI k_7))), (3, .int (nI k_2)), (0, .ref (ad 0))]) E.1 E.2.1 dX2_bestError_64 hl rfl (nI_1 k_7) (by decide) rfl (fun ls hl => ?_)
            refine lv_goto (tgt := 29) E.1 E.2.1 dX2_bestError_67 (by decide) ?_
            rw [show FX2_bestError_L29 f a ta n z c k_2 x1_1 x2_1 (d_6 + 1) k_7 x1_6 x2_6 = FX2_bestError_L29 f a ta n z c k_2 x1_1 x2_1 d_6 (k_7 + 1) ((10 * (nI k_2)) + (nI k_7)) (FX2_keptIfSwapped f a ta n z c (nI k_2) (nI k_7)) from by rw [FX2_bestError_L29, if_neg h50]] at hcont
            exact ih6 (k_7 + 1) ((10 * (nI k_2)) + (nI k_7)) (FX2_keptIfSwapped f a ta n z c (nI k_2) (nI k_7)) ls (by omega) (lv_sub hl [0, 1, 2, 4, 5] rfl) hcont
      refine loop6 (n - (k_2 + 1)) (k_2 + 1) x1_1 x2_1 ls (by omega) (lv_sub hl [0, 2, 3, 1, 4] rfl) (fun ls hl => ?_)
      refine lv_iinc (v := nI (k_2 + 1)) (k := 3) (lv' := [(3, .int (nI (k_2 + 1))), (4, .int (nI n)), (1, .int ((FX2_bestError_L29 f a ta n z c k_2 x1_1 x2_1 (n - (k_2 + 1)) (k_2 + 1) x1_1 x2_1).1)), (2, .int ((FX2_bestError_L29 f a ta n z c k_2 x1_1 x2_1 (n - (k_2 + 1)) (k_2 + 1) x1_1 x2_1).2)), (0, .ref (ad 0))]) E.1 E.2.1 dX2_bestError_70 hl rfl (nI_1 k_2) (by decide) rfl (fun ls hl => ?_)
      refine lv_goto (tgt := 16) E.1 E.2.1 dX2_bestError_73 (by decide) ?_
      rw [show FX2_bestError_L16 f a ta n z c (d_1 + 1) k_2 x1_1 x2_1 = FX2_bestError_L16 f a ta n z c d_1 (k_2 + 1) ((FX2_bestError_L29 f a ta n z c k_2 x1_1 x2_1 (n - (k_2 + 1)) (k_2 + 1) x1_1 x2_1).1) ((FX2_bestError_L29 f a ta n z c k_2 x1_1 x2_1 (n - (k_2 + 1)) (k_2 + 1) x1_1 x2_1).2) from by rw [FX2_bestError_L16]]
      exact ih1 (k_2 + 1) ((FX2_bestError_L29 f a ta n z c k_2 x1_1 x2_1 (n - (k_2 + 1)) (k_2 + 1) x1_1 x2_1).1) ((FX2_bestError_L29 f a ta n z c k_2 x1_1 x2_1 (n - (k_2 + 1)) (k_2 + 1) x1_1 x2_1).2) ls (by omega) (lv_sub hl [0, 2, 3, 4] rfl)
  rw [show FX2_bestError f a ta n z c = FX2_bestError_L16 f a ta n z c n 0 (-1) (FX2_keptIn_at9 f a ta n z c) from by rw [FX2_bestError]]
  have hl : lv_has ls 6 [(3, .int (nI 0)), (1, .int (-1)), (2, .int (FX2_keptIn_at9 f a ta n z c)), (0, .ref (ad 0))] := lv_sub hl [0, 2, 1, 3] rfl
  exact loop1 _ _ (-1) (FX2_keptIn_at9 f a ta n z c) ls (by omega) (lv_sub hl [0, 1, 2, 3] rfl)
def FX2_explainsAllFound_L2 (f : Nat → Int32) (a : Nat → Nat → Int32) (ta : Nat → Nat → Int32) (n : Nat) (z : Nat) (c : Nat) (p0 : Int32) : Nat → Nat → Int32
  | 0, k_2 => 1
  | d_1 + 1, k_2 => (if FX2_leftOf (a 15 k_2) (FX2_melting (a 13 k_2) p0 (a 14 k_2)) = a 16 k_2 then FX2_explainsAllFound_L2 f a ta n z c p0 d_1 (k_2 + 1) else 0)
def FX2_explainsAllFound (f : Nat → Int32) (a : Nat → Nat → Int32) (ta : Nat → Nat → Int32) (n : Nat) (z : Nat) (c : Nat) (p0 : Int32) : Int32 := FX2_explainsAllFound_L2 f a ta n z c p0 c 0
set_option maxHeartbeats 4000000 in
set_option maxRecDepth 100000 in
/-- does a sun explain all -/
theorem c_X2_explainsAllFound (l : Launch) (D : va_G) (cI cB : ClassId) (ad : Nat → Nat) (f : Nat → Int32) (a ta : Nat → Nat → Int32) (n z c : Nat) (hX : IX n z c f) (p0 : Int32) : Met l yX2_explainsAllFound wsX2_explainsAllFound ({ frames := 1, cells := 0, slots := 0, locals := 23 }) (GPc D cI cB (wX cI ad f a ta) [.ref (ad 0), .int p0]) (QcRead (FX2_explainsAllFound f a ta n z c p0)) 0 0 (fun _ => False) := by
  refine Met.ofW (cc := cX2_explainsAllFound) (maxL := 4) (ret := (some .boolean)) (by decide) rfl ?_
  intro p e s m args below meth cd s₁ B hml hv
  obtain ⟨rfl, hP, hK⟩ := hv
  have hts := atoms_spec (ws := wsX2_explainsAllFound) B.pre
  have E : CallFix p m cd cX2_explainsAllFound 4 s _ wsX2_explainsAllFound RX2 := ⟨B.exec, B.bytes, hml, findClass_of_methodNamed B.named, hts⟩
  have hr := B.returns
  have hlocks := B.notSynchronized
  have h2n := pow6 (n := n) (by have := hX.2.1; omega)
  obtain ⟨hn, hn6, hz, hz21, hc, hc6⟩ := id hX
  have in_1 : ∀ w ∈ wsX10, w ∈ wsX2_explainsAllFound := fun _ h => List.mem_cons_of_mem _ (List.mem_append_right _ h)
  have in_2 : ∀ w ∈ wsX20, w ∈ wsX2_explainsAllFound := fun _ h => List.mem_cons_of_mem _ (List.mem_append_left _ (List.mem_append_right _ h))
  have w_0 : (Cond.fieldLink RX2 26 "SnowTerm" "now" "LSnowTerm$Term;").before _ s = true := hts _ (by decide +kernel)
  have w_1 : (Cond.fieldLink RX2 161 "SnowTerm$Term" "foundCount" "I").before _ s = true := hts _ (by decide +kernel)
  have w_2 : (Cond.fieldLink RX2 272 "SnowTerm$Term" "foundKind" "[I").before _ s = true := hts _ (by decide +kernel)
  have w_3 : (Cond.fieldLink RX2 275 "SnowTerm$Term" "foundFeet" "[I").before _ s = true := hts _ (by decide +kernel)
  have w_4 : (Cond.fieldLink RX2 278 "SnowTerm$Term" "foundDeep" "[I").before _ s = true := hts _ (by decide +kernel)
  have w_5 : (Cond.fieldLink RX2 281 "SnowTerm$Term" "foundLeft" "[I").before _ s = true := hts _ (by decide +kernel)
  have hl := lv_entry ([.ref (ad 0), .int p0]) (n := 4) (Nat.le_of_ble_eq_true rfl)
  rw [lg_entry_eq]
  generalize (lg_sl ([.ref (ad 0), .int p0]) ++ List.replicate (4 - (lg_sl ([.ref (ad 0), .int p0])).length) Slot.unset).toArray = ls at hl ⊢
  have hl : lv_has ls 4 [(0, .ref (ad 0)), (1, .int p0)] := hl
  refine lv_iconst (v := 0) E.1 E.2.1 dX2_explainsAllFound_0 (by decide) ?_
  refine lv_istore_n (lv' := [(2, .int 0), (0, .ref (ad 0)), (1, .int p0)]) E.1 E.2.1 dX2_explainsAllFound_1 rfl hl (by decide) rfl (fun ls hl => ?_)
  have loop1 : ∀ (d_1 k_2 : Nat) (ls : Array Slot), k_2 + d_1 = c → lv_has ls 4 [(2, .int (nI k_2)), (0, .ref (ad 0)), (1, .int p0)] → W p l e (headSpec wsX2_explainsAllFound { frames := 1, cells := 0, slots := 0, locals := 23 }).room s m ([.ref (ad 0), .int p0] : List Value).toArray below meth cd s.heap [] 0 0 (MQ below (QcRead (FX2_explainsAllFound_L2 f a ta n z c p0 d_1 k_2)) ([.ref (ad 0), .int p0] : List Value).toArray s 0 0 (fun _ => False)) (F0 m 2 ls []) := by
    intro d_1
    induction d_1 with
    | zero =>
      intro k_2 ls hk1 hl
      refine lv_iload_n E.1 E.2.1 dX2_explainsAllFound_2 rfl (lv_at hl 0 rfl) ?_
      refine lv_aload_n E.1 E.2.1 dX2_explainsAllFound_3 rfl (lv_at hl 1 rfl) ?_
      refine xg_0_3 E hK hP in_2 w_0 dX2_explainsAllFound_4 ?_
      refine xg_4_12 E hK hP in_1 w_1 dX2_explainsAllFound_7 ?_
      refine lv_topi (fun y_3 ey_3 => ?_)
      obtain rfl : y_3 = nI c := ey_3.trans (hc)
      refine lv_icmp_ge (x := nI k_2) (y := nI c) (tgt := 69) E.1 E.2.1 dX2_explainsAllFound_10 (by decide) (fun _ => ?_) (fun h9 => absurd (nI_le (a := c) (b := k_2) (by omega) (by omega)) h9)
      refine lv_iconst (v := 1) E.1 E.2.1 dX2_explainsAllFound_69 (by decide) ?_
      exact W.zret (v := 1) E.1 E.2.1 hr rfl (fun t ht _ => ⟨congrArg (fun z : Int32 => Outcome.returned (some (Value.int z))) (show 1 = FX2_explainsAllFound_L2 f a ta n z c p0 0 k_2 from by rw [FX2_explainsAllFound_L2]), ht⟩) (fun q hq => by cases hq) dX2_explainsAllFound_70
    | succ d_1 ih1 =>
      intro k_2 ls hk1 hl
      refine lv_iload_n E.1 E.2.1 dX2_explainsAllFound_2 rfl (lv_at hl 0 rfl) ?_
      refine lv_aload_n E.1 E.2.1 dX2_explainsAllFound_3 rfl (lv_at hl 1 rfl) ?_
      refine xg_0_3 E hK hP in_2 w_0 dX2_explainsAllFound_4 ?_
      refine xg_4_12 E hK hP in_1 w_1 dX2_explainsAllFound_7 ?_
      refine lv_topi (fun y_4 ey_4 => ?_)
      obtain rfl : y_4 = nI c := ey_4.trans (hc)
      refine lv_icmp_ge (x := nI k_2) (y := nI c) (tgt := 69) E.1 E.2.1 dX2_explainsAllFound_10 (by decide) (fun h9 => absurd h9 (nI_ge (a := k_2) (b := c) (by omega) (by omega))) (fun _ => ?_)
      refine lv_aload_n E.1 E.2.1 dX2_explainsAllFound_13 rfl (lv_at hl 1 rfl) ?_
      refine xg_0_3 E hK hP in_2 w_0 dX2_explainsAllFound_14 ?_
      refine xg_4_8 E hK hP in_1 w_2 dX2_explainsAllFound_17 ?_
      refine lv_iload_n E.1 E.2.1 dX2_explainsAllFound_20 rfl (lv_at hl 0 rfl) ?_
      refine xl_13 (i := nI k_2) E hK hP (vp_in_nI (by omega) (by omega)) dX2_explainsAllFound_21 ?_
      refine lv_topi (fun y_5 ey_5 => ?_)
      obtain rfl : y_5 = a 13 k_2 := ey_5.trans (by rw [nI_clamp (show k_2 < 2 ^ 31 by omega)] <;> rfl)
      refine lv_iload_n E.1 E.2.1 dX2_explainsAllFound_22 rfl (lv_at hl 2 rfl) ?_
      refine lv_aload_n E.1 E.2.1 dX2_explainsAllFound_23 rfl (lv_at hl 1 rfl) ?_
      refine xg_0_3 E hK hP in_2 w_0 dX2_explainsAllFound_24 ?_
      refine xg_4_9 E hK hP in_1 w_3 dX2_explainsAllFound_27 ?_
      refine lv_iload_n E.1 E.2.1 dX2_explainsAllFound_30 rfl (lv_at hl 0 rfl) ?_
      refine xl_14 (i := nI k_2) E hK hP (vp_in_nI (by omega) (by omega)) dX2_explainsAllFound_31 ?_
      refine lv_topi (fun y_6 ey_6 => ?_)
      obtain rfl : y_6 = a 14 k_2 := ey_6.trans (by rw [nI_clamp (show k_2 < 2 ^ 31 by omega)] <;> rfl)
      refine g_SR (As := [.int (a 13 k_2), .int p0, .int (a 14 k_2)]) (rest := []) E hK (c_X2_melting l D cI cB (a 13 k_2) p0 (a 14 k_2)) (va_cwS 3 E.2.2.2.2 gX2_explainsAllFound_X2_melting rfl rfl rfl (by decide +kernel) ⟨Nat.le_of_ble_eq_true rfl, Nat.le_of_ble_eq_true rfl⟩) rfl hl.1 rfl (Nat.le_of_ble_eq_true rfl) dX2_explainsAllFound_32 ⟨Nat.zero_le _, Nat.zero_le _⟩ ?_
      refine lv_istore_n (lv' := [(3, .int (FX2_melting (a 13 k_2) p0 (a 14 k_2))), (2, .int (nI k_2)), (0, .ref (ad 0)), (1, .int p0)]) E.1 E.2.1 dX2_explainsAllFound_35 rfl hl (by decide) rfl (fun ls hl => ?_)
      refine lv_aload_n E.1 E.2.1 dX2_explainsAllFound_36 rfl (lv_at hl 2 rfl) ?_
      refine xg_0_3 E hK hP in_2 w_0 dX2_explainsAllFound_37 ?_
      refine xg_4_10 E hK hP in_1 w_4 dX2_explainsAllFound_40 ?_
      refine lv_iload_n E.1 E.2.1 dX2_explainsAllFound_43 rfl (lv_at hl 1 rfl) ?_
      refine xl_15 (i := nI k_2) E hK hP (vp_in_nI (by omega) (by omega)) dX2_explainsAllFound_44 ?_
      refine lv_topi (fun y_7 ey_7 => ?_)
      obtain rfl : y_7 = a 15 k_2 := ey_7.trans (by rw [nI_clamp (show k_2 < 2 ^ 31 by omega)] <;> rfl)
      refine lv_iload_n E.1 E.2.1 dX2_explainsAllFound_45 rfl (lv_at hl 0 rfl) ?_
      refine g_SR (As := [.int (a 15 k_2), .int (FX2_melting (a 13 k_2) p0 (a 14 k_2))]) (rest := []) E hK (c_X2_leftOf l D cI cB (a 15 k_2) (FX2_melting (a 13 k_2) p0 (a 14 k_2))) (va_cwS 2 E.2.2.2.2 gX2_explainsAllFound_X2_leftOf rfl rfl rfl (by decide +kernel) ⟨Nat.le_of_ble_eq_true rfl, Nat.le_of_ble_eq_true rfl⟩) rfl hl.1 rfl (Nat.le_of_ble_eq_true rfl) dX2_explainsAllFound_46 ⟨Nat.zero_le _, Nat.zero_le _⟩ ?_
      refine lv_aload_n E.1 E.2.1 dX2_explainsAllFound_49 rfl (lv_at hl 2 rfl) ?_
      refine xg_0_3 E hK hP in_2 w_0 dX2_explainsAllFound_50 ?_
      refine xg_4_11 E hK hP in_1 w_5 dX2_explainsAllFound_53 ?_
      refine lv_iload_n E.1 E.2.1 dX2_explainsAllFound_56 rfl (lv_at hl 1 rfl) ?_
      refine xl_16 (i := nI k_2) E hK hP (vp_in_nI (by omega) (by omega)) dX2_explainsAllFound_57 ?_
      refine lv_topi (fun y_8 ey_8 => ?_)
      obtain rfl : y_8 = a 16 k_2 := ey_8.trans (by rw [nI_clamp (show k_2 < 2 ^ 31 by omega)] <;> rfl)
      refine lv_icmp_eq (x := FX2_leftOf (a 15 k_2) (FX2_melting (a 13 k_2) p0 (a 14 k_2))) (y := a 16 k_2) (tgt := 63) E.1 E.2.1 dX2_explainsAllFound_58 (by decide) (fun h58 => ?_) (fun h58 => ?_)
      · have h58 := h58
        refine lv_iinc (v := nI (k_2 + 1)) (k := 1) (lv' := [(2, .int (nI (k_2 + 1))), (3, .int (FX2_melting (a 13 k_2) p0 (a 14 k_2))), (0, .ref (ad 0)), (1, .int p0)]) E.1 E.2.1 dX2_explainsAllFound_63 hl rfl (nI_1 k_2) (by decide) rfl (fun ls hl => ?_)
        refine lv_goto (tgt := 2) E.1 E.2.1 dX2_explainsAllFound_66 (by decide) ?_
        rw [show FX2_explainsAllFound_L2 f a ta n z c p0 (d_1 + 1) k_2 = FX2_explainsAllFound_L2 f a ta n z c p0 d_1 (k_2 + 1) from by rw [FX2_explainsAllFound_L2, if_pos h58]]
        exact ih1 (k_2 + 1) ls (by omega) (lv_sub hl [0, 2, 3] rfl)
      · have h58 := h58
        refine lv_iconst (v := 0) E.1 E.2.1 dX2_explainsAllFound_61 (by decide) ?_
        exact W.zret (v := 0) E.1 E.2.1 hr rfl (fun t ht _ => ⟨congrArg (fun z : Int32 => Outcome.returned (some (Value.int z))) (show 0 = FX2_explainsAllFound_L2 f a ta n z c p0 (d_1 + 1) k_2 from by rw [FX2_explainsAllFound_L2, if_neg h58]), ht⟩) (fun q hq => by cases hq) dX2_explainsAllFound_62
  rw [show FX2_explainsAllFound f a ta n z c p0 = FX2_explainsAllFound_L2 f a ta n z c p0 c 0 from by rw [FX2_explainsAllFound]]
  have hl : lv_has ls 4 [(2, .int (nI 0)), (0, .ref (ad 0)), (1, .int p0)] := lv_sub hl [0, 1, 2] rfl
  exact loop1 _ _ ls (by omega) (lv_sub hl [0, 1, 2] rfl)
def FX2_possibleSuns_L4 (f : Nat → Int32) (a : Nat → Nat → Int32) (ta : Nat → Nat → Int32) (n : Nat) (z : Nat) (c : Nat) : Nat → Nat → Int32 → Int32
  | 0, k_2, x1_1 => x1_1
  | d_1 + 1, k_2, x1_1 => (if FX2_explainsAllFound f a ta n z c (nI k_2) = 0 then FX2_possibleSuns_L4 f a ta n z c d_1 (k_2 + 1) x1_1 else FX2_possibleSuns_L4 f a ta n z c d_1 (k_2 + 1) (x1_1 ||| (1 <<< ((nI k_2) &&& 31))))
def FX2_possibleSuns (f : Nat → Int32) (a : Nat → Nat → Int32) (ta : Nat → Nat → Int32) (n : Nat) (z : Nat) (c : Nat) : Int32 := FX2_possibleSuns_L4 f a ta n z c 10 0 0
set_option maxHeartbeats 4000000 in
set_option maxRecDepth 100000 in
/-- the suns that can be -/
theorem c_X2_possibleSuns (l : Launch) (D : va_G) (cI cB : ClassId) (ad : Nat → Nat) (f : Nat → Int32) (a ta : Nat → Nat → Int32) (n z c : Nat) (hX : IX n z c f)  : Met l yX2_possibleSuns wsX2_possibleSuns ({ frames := 2, cells := 0, slots := 0, locals := 46 }) (GPc D cI cB (wX cI ad f a ta) [.ref (ad 0)]) (QcRead (FX2_possibleSuns f a ta n z c)) 0 0 (fun _ => False) := by
  refine Met.ofW (cc := cX2_possibleSuns) (maxL := 3) (ret := (some .int)) (by decide) rfl ?_
  intro p e s m args below meth cd s₁ B hml hv
  obtain ⟨rfl, hP, hK⟩ := hv
  have hts := atoms_spec (ws := wsX2_possibleSuns) B.pre
  have E : CallFix p m cd cX2_possibleSuns 3 s _ wsX2_possibleSuns RX2 := ⟨B.exec, B.bytes, hml, findClass_of_methodNamed B.named, hts⟩
  have hr := B.returns
  have hlocks := B.notSynchronized
  have h2n := pow6 (n := n) (by have := hX.2.1; omega)
  obtain ⟨hn, hn6, hz, hz21, hc, hc6⟩ := id hX
  have hl := lv_entry ([.ref (ad 0)]) (n := 3) (Nat.le_of_ble_eq_true rfl)
  rw [lg_entry_eq]
  generalize (lg_sl ([.ref (ad 0)]) ++ List.replicate (3 - (lg_sl ([.ref (ad 0)])).length) Slot.unset).toArray = ls at hl ⊢
  have hl : lv_has ls 3 [(0, .ref (ad 0))] := hl
  refine lv_iconst (v := 0) E.1 E.2.1 dX2_possibleSuns_0 (by decide) ?_
  refine lv_istore_n (lv' := [(1, .int 0), (0, .ref (ad 0))]) E.1 E.2.1 dX2_possibleSuns_1 rfl hl (by decide) rfl (fun ls hl => ?_)
  refine lv_iconst (v := 0) E.1 E.2.1 dX2_possibleSuns_2 (by decide) ?_
  refine lv_istore_n (lv' := [(2, .int 0), (1, .int 0), (0, .ref (ad 0))]) E.1 E.2.1 dX2_possibleSuns_3 rfl hl (by decide) rfl (fun ls hl => ?_)
  have loop1 : ∀ (d_1 k_2 : Nat) (x1_1 : Int32) (ls : Array Slot), k_2 + d_1 = 10 → lv_has ls 3 [(2, .int (nI k_2)), (1, .int x1_1), (0, .ref (ad 0))] → W p l e (headSpec wsX2_possibleSuns { frames := 2, cells := 0, slots := 0, locals := 46 }).room s m ([.ref (ad 0)] : List Value).toArray below meth cd s.heap [] 0 0 (MQ below (QcRead (FX2_possibleSuns_L4 f a ta n z c d_1 k_2 x1_1)) ([.ref (ad 0)] : List Value).toArray s 0 0 (fun _ => False)) (F0 m 4 ls []) := by
    intro d_1
    induction d_1 with
    | zero =>
      intro k_2 x1_1 ls hk1 hl
      refine lv_iload_n E.1 E.2.1 dX2_possibleSuns_4 rfl (lv_at hl 0 rfl) ?_
      refine lv_bipush (v := 9) E.1 E.2.1 dX2_possibleSuns_5 (by decide) ?_
      refine lv_icmp_gt (x := nI k_2) (y := 9) (tgt := 30) E.1 E.2.1 dX2_possibleSuns_7 (by decide) (fun _ => ?_) (fun h9 => absurd (nI_lt (a := 9) (b := k_2) (by omega) (by omega)) h9)
      refine lv_iload_n E.1 E.2.1 dX2_possibleSuns_30 rfl (lv_at hl 1 rfl) ?_
      exact W.iret (v := x1_1) E.1 E.2.1 hr (fun t ht _ => ⟨congrArg (fun z : Int32 => Outcome.returned (some (Value.int z))) (show x1_1 = FX2_possibleSuns_L4 f a ta n z c 0 k_2 x1_1 from by rw [FX2_possibleSuns_L4]), ht⟩) (fun q hq => by cases hq) dX2_possibleSuns_31
    | succ d_1 ih1 =>
      intro k_2 x1_1 ls hk1 hl
      refine lv_iload_n E.1 E.2.1 dX2_possibleSuns_4 rfl (lv_at hl 0 rfl) ?_
      refine lv_bipush (v := 9) E.1 E.2.1 dX2_possibleSuns_5 (by decide) ?_
      refine lv_icmp_gt (x := nI k_2) (y := 9) (tgt := 30) E.1 E.2.1 dX2_possibleSuns_7 (by decide) (fun h9 => absurd h9 (nI_nlt (b := k_2) (a := 9) (by omega) (by omega))) (fun _ => ?_)
      refine lv_aload_n E.1 E.2.1 dX2_possibleSuns_10 rfl (lv_at hl 2 rfl) ?_
      refine lv_iload_n E.1 E.2.1 dX2_possibleSuns_11 rfl (lv_at hl 0 rfl) ?_
      refine g_VR (As := [.int (nI k_2)]) (rest := []) E hK hP (c_X2_explainsAllFound l D cI cB ad f a ta n z c hX (nI k_2)) (cwV 1 E.2.2.2.2 gX2_possibleSuns_X2_explainsAllFound rfl rfl rfl (by decide +kernel) ⟨Nat.le_of_ble_eq_true rfl, Nat.le_of_ble_eq_true rfl⟩) (rx hK hP) rfl hl.1 rfl (Nat.le_of_ble_eq_true rfl) dX2_possibleSuns_12 ⟨Nat.zero_le _, Nat.zero_le _⟩ ?_
      refine lv_if_eq (x := FX2_explainsAllFound f a ta n z c (nI k_2)) (tgt := 24) E.1 E.2.1 dX2_possibleSuns_15 (by decide) (fun h15 => ?_) (fun h15 => ?_)
      · have h15 := h15
        refine lv_iinc (v := nI (k_2 + 1)) (k := 0) (lv' := [(2, .int (nI (k_2 + 1))), (1, .int x1_1), (0, .ref (ad 0))]) E.1 E.2.1 dX2_possibleSuns_24 hl rfl (nI_1 k_2) (by decide) rfl (fun ls hl => ?_)
        refine lv_goto (tgt := 4) E.1 E.2.1 dX2_possibleSuns_27 (by decide) ?_
        rw [show FX2_possibleSuns_L4 f a ta n z c (d_1 + 1) k_2 x1_1 = FX2_possibleSuns_L4 f a ta n z c d_1 (k_2 + 1) x1_1 from by rw [FX2_possibleSuns_L4, if_pos h15]]
        exact ih1 (k_2 + 1) x1_1 ls (by omega) (lv_sub hl [0, 1, 2] rfl)
      · have h15 := h15
        refine lv_iload_n E.1 E.2.1 dX2_possibleSuns_18 rfl (lv_at hl 1 rfl) ?_
        refine lv_iconst (v := 1) E.1 E.2.1 dX2_possibleSuns_19 (by decide) ?_
        refine lv_iload_n E.1 E.2.1 dX2_possibleSuns_20 rfl (lv_at hl 0 rfl) ?_
        refine lv_ishl (x := 1) (y := nI k_2) E.1 E.2.1 dX2_possibleSuns_21 ?_
        refine lv_ior (x := x1_1) (y := 1 <<< ((nI k_2) &&& 31)) E.1 E.2.1 dX2_possibleSuns_22 ?_
        refine lv_istore_n (lv' := [(1, .int (x1_1 ||| (1 <<< ((nI k_2) &&& 31)))), (2, .int (nI k_2)), (0, .ref (ad 0))]) E.1 E.2.1 dX2_possibleSuns_23 rfl hl (by decide) rfl (fun ls hl => ?_)
        refine lv_iinc (v := nI (k_2 + 1)) (k := 1) (lv' := [(2, .int (nI (k_2 + 1))), (1, .int (x1_1 ||| (1 <<< ((nI k_2) &&& 31)))), (0, .ref (ad 0))]) E.1 E.2.1 dX2_possibleSuns_24 hl rfl (nI_1 k_2) (by decide) rfl (fun ls hl => ?_)
        refine lv_goto (tgt := 4) E.1 E.2.1 dX2_possibleSuns_27 (by decide) ?_
        rw [show FX2_possibleSuns_L4 f a ta n z c (d_1 + 1) k_2 x1_1 = FX2_possibleSuns_L4 f a ta n z c d_1 (k_2 + 1) (x1_1 ||| (1 <<< ((nI k_2) &&& 31))) from by rw [FX2_possibleSuns_L4, if_neg h15]]
        exact ih1 (k_2 + 1) (x1_1 ||| (1 <<< ((nI k_2) &&& 31))) ls (by omega) (lv_sub hl [0, 1, 2] rfl)
  rw [show FX2_possibleSuns f a ta n z c = FX2_possibleSuns_L4 f a ta n z c 10 0 0 from by rw [FX2_possibleSuns]]
  have hl : lv_has ls 3 [(2, .int (nI 0)), (1, .int 0), (0, .ref (ad 0))] := lv_sub hl [0, 1, 2] rfl
  exact loop1 _ _ 0 ls (by omega) (lv_sub hl [0, 1, 2] rfl)
def FX2_leftOfDeepest (f : Nat → Int32) (a : Nat → Nat → Int32) (ta : Nat → Nat → Int32) (n : Nat) (z : Nat) (c : Nat) (p0 : Int32) (p1 : Int32) : Int32 := (if FX2_isSite f a ta n z c p0 = 0 then 0 else FX2_leftOf 30 (FX2_melting (a 2 p0.toNatClampNeg) p1 (a 11 p0.toNatClampNeg)))
set_option maxHeartbeats 4000000 in
set_option maxRecDepth 100000 in
/-- left of the deepest -/
theorem c_X2_leftOfDeepest (l : Launch) (D : va_G) (cI cB : ClassId) (ad : Nat → Nat) (f : Nat → Int32) (a ta : Nat → Nat → Int32) (n z c : Nat) (hX : IX n z c f) (p0 : Int32) (p1 : Int32) : Met l yX2_leftOfDeepest wsX2_leftOfDeepest ({ frames := 1, cells := 0, slots := 0, locals := 23 }) (GPc D cI cB (wX cI ad f a ta) [.ref (ad 0), .int p0, .int p1]) (QcRead (FX2_leftOfDeepest f a ta n z c p0 p1)) 0 0 (fun _ => False) := by
  refine Met.ofW (cc := cX2_leftOfDeepest) (maxL := 3) (ret := (some .int)) (by decide) rfl ?_
  intro p e s m args below meth cd s₁ B hml hv
  obtain ⟨rfl, hP, hK⟩ := hv
  have hts := atoms_spec (ws := wsX2_leftOfDeepest) B.pre
  have E : CallFix p m cd cX2_leftOfDeepest 3 s _ wsX2_leftOfDeepest RX2 := ⟨B.exec, B.bytes, hml, findClass_of_methodNamed B.named, hts⟩
  have hr := B.returns
  have hlocks := B.notSynchronized
  have h2n := pow6 (n := n) (by have := hX.2.1; omega)
  obtain ⟨hn, hn6, hz, hz21, hc, hc6⟩ := id hX
  have in_1 : ∀ w ∈ wsX10, w ∈ wsX2_leftOfDeepest := fun _ h => List.mem_cons_of_mem _ (List.mem_append_right _ h)
  have in_2 : ∀ w ∈ wsX20, w ∈ wsX2_leftOfDeepest := fun _ h => List.mem_cons_of_mem _ (List.mem_append_left _ (List.mem_append_right _ h))
  have w_0 : (Cond.fieldLink RX2 16 "SnowTerm" "kinds" "[I").before _ s = true := hts _ (by decide +kernel)
  have w_1 : (Cond.fieldLink RX2 26 "SnowTerm" "now" "LSnowTerm$Term;").before _ s = true := hts _ (by decide +kernel)
  have w_2 : (Cond.fieldLink RX2 95 "SnowTerm$Term" "feet" "[I").before _ s = true := hts _ (by decide +kernel)
  have hl := lv_entry ([.ref (ad 0), .int p0, .int p1]) (n := 3) (Nat.le_of_ble_eq_true rfl)
  rw [lg_entry_eq]
  generalize (lg_sl ([.ref (ad 0), .int p0, .int p1]) ++ List.replicate (3 - (lg_sl ([.ref (ad 0), .int p0, .int p1])).length) Slot.unset).toArray = ls at hl ⊢
  have hl : lv_has ls 3 [(0, .ref (ad 0)), (1, .int p0), (2, .int p1)] := hl
  refine lv_aload_n E.1 E.2.1 dX2_leftOfDeepest_0 rfl (lv_at hl 0 rfl) ?_
  refine lv_iload_n E.1 E.2.1 dX2_leftOfDeepest_1 rfl (lv_at hl 1 rfl) ?_
  refine g_VR (As := [.int p0]) (rest := []) E hK hP (c_X2_isSite l D cI cB ad f a ta n z c hX p0) (cwV 1 E.2.2.2.2 gX2_leftOfDeepest_X2_isSite rfl rfl rfl (by decide +kernel) ⟨Nat.le_of_ble_eq_true rfl, Nat.le_of_ble_eq_true rfl⟩) (rx hK hP) rfl hl.1 rfl (Nat.le_of_ble_eq_true rfl) dX2_leftOfDeepest_2 ⟨Nat.zero_le _, Nat.zero_le _⟩ ?_
  refine lv_if_ne (x := FX2_isSite f a ta n z c p0) (tgt := 10) E.1 E.2.1 dX2_leftOfDeepest_5 (by decide) (fun h5 => ?_) (fun h5 => ?_)
  · have h5 := h5
    refine lv_bipush (v := 30) E.1 E.2.1 dX2_leftOfDeepest_10 (by decide) ?_
    refine lv_aload_n E.1 E.2.1 dX2_leftOfDeepest_12 rfl (lv_at hl 0 rfl) ?_
    refine xg_0_1 E hK hP in_2 w_0 dX2_leftOfDeepest_13 ?_
    refine lv_iload_n E.1 E.2.1 dX2_leftOfDeepest_16 rfl (lv_at hl 1 rfl) ?_
    refine xl_2 (i := p0) E hK hP (site_X hX h5) dX2_leftOfDeepest_17 ?_
    refine lv_iload_n E.1 E.2.1 dX2_leftOfDeepest_18 rfl (lv_at hl 2 rfl) ?_
    refine lv_aload_n E.1 E.2.1 dX2_leftOfDeepest_19 rfl (lv_at hl 0 rfl) ?_
    refine xg_0_3 E hK hP in_2 w_1 dX2_leftOfDeepest_20 ?_
    refine xg_4_6 E hK hP in_1 w_2 dX2_leftOfDeepest_23 ?_
    refine lv_iload_n E.1 E.2.1 dX2_leftOfDeepest_26 rfl (lv_at hl 1 rfl) ?_
    refine xl_11 (i := p0) E hK hP (site_X hX h5) dX2_leftOfDeepest_27 ?_
    refine g_SR (As := [.int (a 2 p0.toNatClampNeg), .int p1, .int (a 11 p0.toNatClampNeg)]) (rest := [.int 30]) E hK (c_X2_melting l D cI cB (a 2 p0.toNatClampNeg) p1 (a 11 p0.toNatClampNeg)) (va_cwS 3 E.2.2.2.2 gX2_leftOfDeepest_X2_melting rfl rfl rfl (by decide +kernel) ⟨Nat.le_of_ble_eq_true rfl, Nat.le_of_ble_eq_true rfl⟩) rfl hl.1 rfl (Nat.le_of_ble_eq_true rfl) dX2_leftOfDeepest_28 ⟨Nat.zero_le _, Nat.zero_le _⟩ ?_
    refine g_SR (As := [.int 30, .int (FX2_melting (a 2 p0.toNatClampNeg) p1 (a 11 p0.toNatClampNeg))]) (rest := []) E hK (c_X2_leftOf l D cI cB 30 (FX2_melting (a 2 p0.toNatClampNeg) p1 (a 11 p0.toNatClampNeg))) (va_cwS 2 E.2.2.2.2 gX2_leftOfDeepest_X2_leftOf rfl rfl rfl (by decide +kernel) ⟨Nat.le_of_ble_eq_true rfl, Nat.le_of_ble_eq_true rfl⟩) rfl hl.1 rfl (Nat.le_of_ble_eq_true rfl) dX2_leftOfDeepest_31 ⟨Nat.zero_le _, Nat.zero_le _⟩ ?_
    exact W.iret (v := FX2_leftOf 30 (FX2_melting (a 2 p0.toNatClampNeg) p1 (a 11 p0.toNatClampNeg))) E.1 E.2.1 hr (fun t ht _ => ⟨congrArg (fun z : Int32 => Outcome.returned (some (Value.int z))) (show FX2_leftOf 30 (FX2_melting (a 2 p0.toNatClampNeg) p1 (a 11 p0.toNatClampNeg)) = FX2_leftOfDeepest f a ta n z c p0 p1 from by rw [FX2_leftOfDeepest, if_neg h5]), ht⟩) (fun q hq => by cases hq) dX2_leftOfDeepest_34
  · have h5 := h5
    refine lv_iconst (v := 0) E.1 E.2.1 dX2_leftOfDeepest_8 (by decide) ?_
    exact W.iret (v := 0) E.1 E.2.1 hr (fun t ht _ => ⟨congrArg (fun z : Int32 => Outcome.returned (some (Value.int z))) (show 0 = FX2_leftOfDeepest f a ta n z c p0 p1 from by rw [FX2_leftOfDeepest, if_pos h5]), ht⟩) (fun q hq => by cases hq) dX2_leftOfDeepest_9
def FX2_sunsLikeThis_L14 (f : Nat → Int32) (a : Nat → Nat → Int32) (ta : Nat → Nat → Int32) (n : Nat) (z : Nat) (c : Nat) (p0 : Int32) (p1 : Int32) (p2 : Int32) : Nat → Nat → Int32 → Int32
  | 0, k_2, x5_1 => x5_1
  | d_1 + 1, k_2, x5_1 => (if FX2_hasBit p2 (nI k_2) = 0 then FX2_sunsLikeThis_L14 f a ta n z c p0 p1 p2 d_1 (k_2 + 1) x5_1 else (if FX2_leftOfDeepest f a ta n z c p0 (nI k_2) = FX2_leftOfDeepest f a ta n z c p0 p1 then FX2_sunsLikeThis_L14 f a ta n z c p0 p1 p2 d_1 (k_2 + 1) (x5_1 + 1) else FX2_sunsLikeThis_L14 f a ta n z c p0 p1 p2 d_1 (k_2 + 1) x5_1))
def FX2_sunsLikeThis (f : Nat → Int32) (a : Nat → Nat → Int32) (ta : Nat → Nat → Int32) (n : Nat) (z : Nat) (c : Nat) (p0 : Int32) (p1 : Int32) (p2 : Int32) : Int32 := FX2_sunsLikeThis_L14 f a ta n z c p0 p1 p2 10 0 0
set_option maxHeartbeats 4000000 in
set_option maxRecDepth 100000 in
/-- suns like this -/
theorem c_X2_sunsLikeThis (l : Launch) (D : va_G) (cI cB : ClassId) (ad : Nat → Nat) (f : Nat → Int32) (a ta : Nat → Nat → Int32) (n z c : Nat) (hX : IX n z c f) (p0 : Int32) (p1 : Int32) (p2 : Int32) : Met l yX2_sunsLikeThis wsX2_sunsLikeThis ({ frames := 2, cells := 0, slots := 0, locals := 45 }) (GPc D cI cB (wX cI ad f a ta) [.ref (ad 0), .int p0, .int p1, .int p2]) (QcRead (FX2_sunsLikeThis f a ta n z c p0 p1 p2)) 0 0 (fun _ => False) := by
  refine Met.ofW (cc := cX2_sunsLikeThis) (maxL := 7) (ret := (some .int)) (by decide) rfl ?_
  intro p e s m args below meth cd s₁ B hml hv
  obtain ⟨rfl, hP, hK⟩ := hv
  have hts := atoms_spec (ws := wsX2_sunsLikeThis) B.pre
  have E : CallFix p m cd cX2_sunsLikeThis 7 s _ wsX2_sunsLikeThis RX2 := ⟨B.exec, B.bytes, hml, findClass_of_methodNamed B.named, hts⟩
  have hr := B.returns
  have hlocks := B.notSynchronized
  have h2n := pow6 (n := n) (by have := hX.2.1; omega)
  obtain ⟨hn, hn6, hz, hz21, hc, hc6⟩ := id hX
  have hl := lv_entry ([.ref (ad 0), .int p0, .int p1, .int p2]) (n := 7) (Nat.le_of_ble_eq_true rfl)
  rw [lg_entry_eq]
  generalize (lg_sl ([.ref (ad 0), .int p0, .int p1, .int p2]) ++ List.replicate (7 - (lg_sl ([.ref (ad 0), .int p0, .int p1, .int p2])).length) Slot.unset).toArray = ls at hl ⊢
  have hl : lv_has ls 7 [(0, .ref (ad 0)), (1, .int p0), (2, .int p1), (3, .int p2)] := hl
  refine lv_aload_n E.1 E.2.1 dX2_sunsLikeThis_0 rfl (lv_at hl 0 rfl) ?_
  refine lv_iload_n E.1 E.2.1 dX2_sunsLikeThis_1 rfl (lv_at hl 1 rfl) ?_
  refine lv_iload_n E.1 E.2.1 dX2_sunsLikeThis_2 rfl (lv_at hl 2 rfl) ?_
  refine g_VR (As := [.int p0, .int p1]) (rest := []) E hK hP (c_X2_leftOfDeepest l D cI cB ad f a ta n z c hX p0 p1) (cwV 2 E.2.2.2.2 gX2_sunsLikeThis_X2_leftOfDeepest rfl rfl rfl (by decide +kernel) ⟨Nat.le_of_ble_eq_true rfl, Nat.le_of_ble_eq_true rfl⟩) (rx hK hP) rfl hl.1 rfl (Nat.le_of_ble_eq_true rfl) dX2_sunsLikeThis_3 ⟨Nat.zero_le _, Nat.zero_le _⟩ ?_
  refine lv_istore (lv' := [(4, .int (FX2_leftOfDeepest f a ta n z c p0 p1)), (0, .ref (ad 0)), (1, .int p0), (2, .int p1), (3, .int p2)]) E.1 E.2.1 dX2_sunsLikeThis_6 hl (by decide) rfl (fun ls hl => ?_)
  refine lv_iconst (v := 0) E.1 E.2.1 dX2_sunsLikeThis_8 (by decide) ?_
  refine lv_istore (lv' := [(5, .int 0), (4, .int (FX2_leftOfDeepest f a ta n z c p0 p1)), (0, .ref (ad 0)), (1, .int p0), (2, .int p1), (3, .int p2)]) E.1 E.2.1 dX2_sunsLikeThis_9 hl (by decide) rfl (fun ls hl => ?_)
  refine lv_iconst (v := 0) E.1 E.2.1 dX2_sunsLikeThis_11 (by decide) ?_
  refine lv_istore (lv' := [(6, .int 0), (5, .int 0), (4, .int (FX2_leftOfDeepest f a ta n z c p0 p1)), (0, .ref (ad 0)), (1, .int p0), (2, .int p1), (3, .int p2)]) E.1 E.2.1 dX2_sunsLikeThis_12 hl (by decide) rfl (fun ls hl => ?_)
  have loop1 : ∀ (d_1 k_2 : Nat) (x5_1 : Int32) (ls : Array Slot), k_2 + d_1 = 10 → lv_has ls 7 [(6, .int (nI k_2)), (5, .int x5_1), (4, .int (FX2_leftOfDeepest f a ta n z c p0 p1)), (0, .ref (ad 0)), (1, .int p0), (2, .int p1), (3, .int p2)] → W p l e (headSpec wsX2_sunsLikeThis { frames := 2, cells := 0, slots := 0, locals := 45 }).room s m ([.ref (ad 0), .int p0, .int p1, .int p2] : List Value).toArray below meth cd s.heap [] 0 0 (MQ below (QcRead (FX2_sunsLikeThis_L14 f a ta n z c p0 p1 p2 d_1 k_2 x5_1)) ([.ref (ad 0), .int p0, .int p1, .int p2] : List Value).toArray s 0 0 (fun _ => False)) (F0 m 14 ls []) := by
    intro d_1
    induction d_1 with
    | zero =>
      intro k_2 x5_1 ls hk1 hl
      refine lv_iload E.1 E.2.1 dX2_sunsLikeThis_14 (lv_at hl 0 rfl) ?_
      refine lv_bipush (v := 9) E.1 E.2.1 dX2_sunsLikeThis_16 (by decide) ?_
      refine lv_icmp_gt (x := nI k_2) (y := 9) (tgt := 51) E.1 E.2.1 dX2_sunsLikeThis_18 (by decide) (fun _ => ?_) (fun h9 => absurd (nI_lt (a := 9) (b := k_2) (by omega) (by omega)) h9)
      refine lv_iload E.1 E.2.1 dX2_sunsLikeThis_51 (lv_at hl 1 rfl) ?_
      exact W.iret (v := x5_1) E.1 E.2.1 hr (fun t ht _ => ⟨congrArg (fun z : Int32 => Outcome.returned (some (Value.int z))) (show x5_1 = FX2_sunsLikeThis_L14 f a ta n z c p0 p1 p2 0 k_2 x5_1 from by rw [FX2_sunsLikeThis_L14]), ht⟩) (fun q hq => by cases hq) dX2_sunsLikeThis_53
    | succ d_1 ih1 =>
      intro k_2 x5_1 ls hk1 hl
      refine lv_iload E.1 E.2.1 dX2_sunsLikeThis_14 (lv_at hl 0 rfl) ?_
      refine lv_bipush (v := 9) E.1 E.2.1 dX2_sunsLikeThis_16 (by decide) ?_
      refine lv_icmp_gt (x := nI k_2) (y := 9) (tgt := 51) E.1 E.2.1 dX2_sunsLikeThis_18 (by decide) (fun h9 => absurd h9 (nI_nlt (b := k_2) (a := 9) (by omega) (by omega))) (fun _ => ?_)
      refine lv_iload_n E.1 E.2.1 dX2_sunsLikeThis_21 rfl (lv_at hl 6 rfl) ?_
      refine lv_iload E.1 E.2.1 dX2_sunsLikeThis_22 (lv_at hl 0 rfl) ?_
      refine g_SR (As := [.int p2, .int (nI k_2)]) (rest := []) E hK (c_X2_hasBit l D cI cB p2 (nI k_2)) (va_cwS 2 E.2.2.2.2 gX2_sunsLikeThis_X2_hasBit rfl rfl rfl (by decide +kernel) ⟨Nat.le_of_ble_eq_true rfl, Nat.le_of_ble_eq_true rfl⟩) rfl hl.1 rfl (Nat.le_of_ble_eq_true rfl) dX2_sunsLikeThis_24 ⟨Nat.zero_le _, Nat.zero_le _⟩ ?_
      refine lv_if_eq (x := FX2_hasBit p2 (nI k_2)) (tgt := 45) E.1 E.2.1 dX2_sunsLikeThis_27 (by decide) (fun h27 => ?_) (fun h27 => ?_)
      · have h27 := h27
        refine lv_iinc (v := nI (k_2 + 1)) (k := 0) (lv' := [(6, .int (nI (k_2 + 1))), (5, .int x5_1), (4, .int (FX2_leftOfDeepest f a ta n z c p0 p1)), (0, .ref (ad 0)), (1, .int p0), (2, .int p1), (3, .int p2)]) E.1 E.2.1 dX2_sunsLikeThis_45 hl rfl (nI_1 k_2) (by decide) rfl (fun ls hl => ?_)
        refine lv_goto (tgt := 14) E.1 E.2.1 dX2_sunsLikeThis_48 (by decide) ?_
        rw [show FX2_sunsLikeThis_L14 f a ta n z c p0 p1 p2 (d_1 + 1) k_2 x5_1 = FX2_sunsLikeThis_L14 f a ta n z c p0 p1 p2 d_1 (k_2 + 1) x5_1 from by rw [FX2_sunsLikeThis_L14, if_pos h27]]
        exact ih1 (k_2 + 1) x5_1 ls (by omega) (lv_sub hl [0, 1, 2, 3, 4, 5, 6] rfl)
      · have h27 := h27
        refine lv_aload_n E.1 E.2.1 dX2_sunsLikeThis_30 rfl (lv_at hl 3 rfl) ?_
        refine lv_iload_n E.1 E.2.1 dX2_sunsLikeThis_31 rfl (lv_at hl 4 rfl) ?_
        refine lv_iload E.1 E.2.1 dX2_sunsLikeThis_32 (lv_at hl 0 rfl) ?_
        refine g_VR (As := [.int p0, .int (nI k_2)]) (rest := []) E hK hP (c_X2_leftOfDeepest l D cI cB ad f a ta n z c hX p0 (nI k_2)) (cwV 2 E.2.2.2.2 gX2_sunsLikeThis_X2_leftOfDeepest rfl rfl rfl (by decide +kernel) ⟨Nat.le_of_ble_eq_true rfl, Nat.le_of_ble_eq_true rfl⟩) (rx hK hP) rfl hl.1 rfl (Nat.le_of_ble_eq_true rfl) dX2_sunsLikeThis_34 ⟨Nat.zero_le _, Nat.zero_le _⟩ ?_
        refine lv_iload E.1 E.2.1 dX2_sunsLikeThis_37 (lv_at hl 2 rfl) ?_
        refine lv_icmp_ne (x := FX2_leftOfDeepest f a ta n z c p0 (nI k_2)) (y := FX2_leftOfDeepest f a ta n z c p0 p1) (tgt := 45) E.1 E.2.1 dX2_sunsLikeThis_39 (by decide) (fun h39 => ?_) (fun h39 => ?_)
        · have h39 := h39
          refine lv_iinc (v := nI (k_2 + 1)) (k := 0) (lv' := [(6, .int (nI (k_2 + 1))), (5, .int x5_1), (4, .int (FX2_leftOfDeepest f a ta n z c p0 p1)), (0, .ref (ad 0)), (1, .int p0), (2, .int p1), (3, .int p2)]) E.1 E.2.1 dX2_sunsLikeThis_45 hl rfl (nI_1 k_2) (by decide) rfl (fun ls hl => ?_)
          refine lv_goto (tgt := 14) E.1 E.2.1 dX2_sunsLikeThis_48 (by decide) ?_
          rw [show FX2_sunsLikeThis_L14 f a ta n z c p0 p1 p2 (d_1 + 1) k_2 x5_1 = FX2_sunsLikeThis_L14 f a ta n z c p0 p1 p2 d_1 (k_2 + 1) x5_1 from by rw [FX2_sunsLikeThis_L14, if_neg h27, if_neg h39]]
          exact ih1 (k_2 + 1) x5_1 ls (by omega) (lv_sub hl [0, 1, 2, 3, 4, 5, 6] rfl)
        · have h39 := h39
          refine lv_iinc (v := x5_1 + 1) (k := 1) (lv' := [(5, .int (x5_1 + 1)), (6, .int (nI k_2)), (4, .int (FX2_leftOfDeepest f a ta n z c p0 p1)), (0, .ref (ad 0)), (1, .int p0), (2, .int p1), (3, .int p2)]) E.1 E.2.1 dX2_sunsLikeThis_42 hl rfl (rfl) (by decide) rfl (fun ls hl => ?_)
          refine lv_iinc (v := nI (k_2 + 1)) (k := 1) (lv' := [(6, .int (nI (k_2 + 1))), (5, .int (x5_1 + 1)), (4, .int (FX2_leftOfDeepest f a ta n z c p0 p1)), (0, .ref (ad 0)), (1, .int p0), (2, .int p1), (3, .int p2)]) E.1 E.2.1 dX2_sunsLikeThis_45 hl rfl (nI_1 k_2) (by decide) rfl (fun ls hl => ?_)
          refine lv_goto (tgt := 14) E.1 E.2.1 dX2_sunsLikeThis_48 (by decide) ?_
          rw [show FX2_sunsLikeThis_L14 f a ta n z c p0 p1 p2 (d_1 + 1) k_2 x5_1 = FX2_sunsLikeThis_L14 f a ta n z c p0 p1 p2 d_1 (k_2 + 1) (x5_1 + 1) from by rw [FX2_sunsLikeThis_L14, if_neg h27, if_pos h39]]
          exact ih1 (k_2 + 1) (x5_1 + 1) ls (by omega) (lv_sub hl [0, 1, 2, 3, 4, 5, 6] rfl)
  rw [show FX2_sunsLikeThis f a ta n z c p0 p1 p2 = FX2_sunsLikeThis_L14 f a ta n z c p0 p1 p2 10 0 0 from by rw [FX2_sunsLikeThis]]
  have hl : lv_has ls 7 [(6, .int (nI 0)), (5, .int 0), (4, .int (FX2_leftOfDeepest f a ta n z c p0 p1)), (0, .ref (ad 0)), (1, .int p0), (2, .int p1), (3, .int p2)] := lv_sub hl [0, 1, 2, 3, 4, 5, 6] rfl
  exact loop1 _ _ 0 ls (by omega) (lv_sub hl [0, 1, 2, 3, 4, 5, 6] rfl)
def FX2_sunsLeftAtWorst_L5 (f : Nat → Int32) (a : Nat → Nat → Int32) (ta : Nat → Nat → Int32) (n : Nat) (z : Nat) (c : Nat) (p0 : Int32) (p1 : Int32) : Nat → Nat → Int32 → Int32
  | 0, k_2, x3_1 => x3_1
  | d_1 + 1, k_2, x3_1 => (if FX2_hasBit p1 (nI k_2) = 0 then FX2_sunsLeftAtWorst_L5 f a ta n z c p0 p1 d_1 (k_2 + 1) x3_1 else FX2_sunsLeftAtWorst_L5 f a ta n z c p0 p1 d_1 (k_2 + 1) (if x3_1 < FX2_sunsLikeThis f a ta n z c p0 (nI k_2) p1 then FX2_sunsLikeThis f a ta n z c p0 (nI k_2) p1 else x3_1))
def FX2_sunsLeftAtWorst (f : Nat → Int32) (a : Nat → Nat → Int32) (ta : Nat → Nat → Int32) (n : Nat) (z : Nat) (c : Nat) (p0 : Int32) (p1 : Int32) : Int32 := FX2_sunsLeftAtWorst_L5 f a ta n z c p0 p1 10 0 0
set_option maxHeartbeats 4000000 in
set_option maxRecDepth 100000 in
/-- suns left at worst -/
theorem c_X2_sunsLeftAtWorst (l : Launch) (D : va_G) (cI cB : ClassId) (ad : Nat → Nat) (f : Nat → Int32) (a ta : Nat → Nat → Int32) (n z c : Nat) (hX : IX n z c f) (p0 : Int32) (p1 : Int32) : Met l yX2_sunsLeftAtWorst wsX2_sunsLeftAtWorst ({ frames := 3, cells := 0, slots := 0, locals := 71 }) (GPc D cI cB (wX cI ad f a ta) [.ref (ad 0), .int p0, .int p1]) (QcRead (FX2_sunsLeftAtWorst f a ta n z c p0 p1)) 0 0 (fun _ => False) := by
  refine Met.ofW (cc := cX2_sunsLeftAtWorst) (maxL := 5) (ret := (some .int)) (by decide) rfl ?_
  intro p e s m args below meth cd s₁ B hml hv
  obtain ⟨rfl, hP, hK⟩ := hv
  have hts := atoms_spec (ws := wsX2_sunsLeftAtWorst) B.pre
  have E : CallFix p m cd cX2_sunsLeftAtWorst 5 s _ wsX2_sunsLeftAtWorst RX2 := ⟨B.exec, B.bytes, hml, findClass_of_methodNamed B.named, hts⟩
  have hr := B.returns
  have hlocks := B.notSynchronized
  have h2n := pow6 (n := n) (by have := hX.2.1; omega)
  obtain ⟨hn, hn6, hz, hz21, hc, hc6⟩ := id hX
  have w_0 : (Cond.methodLink RX2 254 Lib.Math.max.name).before _ s = true := hts _ (by decide +kernel)
  have w_1 : (Cond.static Lib.Math.max.name).before _ s = true := hts _ (by decide +kernel)
  have w_2 : (Cond.initialized "java/lang/Math").before _ s = true := hts _ (by decide +kernel)
  have w_3 : (Cond.code Lib.Math.max.name Lib.Math.max.code 2 (some .int)).before _ s = true := hts _ (by decide +kernel)
  have hl := lv_entry ([.ref (ad 0), .int p0, .int p1]) (n := 5) (Nat.le_of_ble_eq_true rfl)
  rw [lg_entry_eq]
  generalize (lg_sl ([.ref (ad 0), .int p0, .int p1]) ++ List.replicate (5 - (lg_sl ([.ref (ad 0), .int p0, .int p1])).length) Slot.unset).toArray = ls at hl ⊢
  have hl : lv_has ls 5 [(0, .ref (ad 0)), (1, .int p0), (2, .int p1)] := hl
  refine lv_iconst (v := 0) E.1 E.2.1 dX2_sunsLeftAtWorst_0 (by decide) ?_
  refine lv_istore_n (lv' := [(3, .int 0), (0, .ref (ad 0)), (1, .int p0), (2, .int p1)]) E.1 E.2.1 dX2_sunsLeftAtWorst_1 rfl hl (by decide) rfl (fun ls hl => ?_)
  refine lv_iconst (v := 0) E.1 E.2.1 dX2_sunsLeftAtWorst_2 (by decide) ?_
  refine lv_istore (lv' := [(4, .int 0), (3, .int 0), (0, .ref (ad 0)), (1, .int p0), (2, .int p1)]) E.1 E.2.1 dX2_sunsLeftAtWorst_3 hl (by decide) rfl (fun ls hl => ?_)
  have loop1 : ∀ (d_1 k_2 : Nat) (x3_1 : Int32) (ls : Array Slot), k_2 + d_1 = 10 → lv_has ls 5 [(4, .int (nI k_2)), (3, .int x3_1), (0, .ref (ad 0)), (1, .int p0), (2, .int p1)] → W p l e (headSpec wsX2_sunsLeftAtWorst { frames := 3, cells := 0, slots := 0, locals := 71 }).room s m ([.ref (ad 0), .int p0, .int p1] : List Value).toArray below meth cd s.heap [] 0 0 (MQ below (QcRead (FX2_sunsLeftAtWorst_L5 f a ta n z c p0 p1 d_1 k_2 x3_1)) ([.ref (ad 0), .int p0, .int p1] : List Value).toArray s 0 0 (fun _ => False)) (F0 m 5 ls []) := by
    intro d_1
    induction d_1 with
    | zero =>
      intro k_2 x3_1 ls hk1 hl
      refine lv_iload E.1 E.2.1 dX2_sunsLeftAtWorst_5 (lv_at hl 0 rfl) ?_
      refine lv_bipush (v := 9) E.1 E.2.1 dX2_sunsLeftAtWorst_7 (by decide) ?_
      refine lv_icmp_gt (x := nI k_2) (y := 9) (tgt := 40) E.1 E.2.1 dX2_sunsLeftAtWorst_9 (by decide) (fun _ => ?_) (fun h9 => absurd (nI_lt (a := 9) (b := k_2) (by omega) (by omega)) h9)
      refine lv_iload_n E.1 E.2.1 dX2_sunsLeftAtWorst_40 rfl (lv_at hl 1 rfl) ?_
      exact W.iret (v := x3_1) E.1 E.2.1 hr (fun t ht _ => ⟨congrArg (fun z : Int32 => Outcome.returned (some (Value.int z))) (show x3_1 = FX2_sunsLeftAtWorst_L5 f a ta n z c p0 p1 0 k_2 x3_1 from by rw [FX2_sunsLeftAtWorst_L5]), ht⟩) (fun q hq => by cases hq) dX2_sunsLeftAtWorst_41
    | succ d_1 ih1 =>
      intro k_2 x3_1 ls hk1 hl
      refine lv_iload E.1 E.2.1 dX2_sunsLeftAtWorst_5 (lv_at hl 0 rfl) ?_
      refine lv_bipush (v := 9) E.1 E.2.1 dX2_sunsLeftAtWorst_7 (by decide) ?_
      refine lv_icmp_gt (x := nI k_2) (y := 9) (tgt := 40) E.1 E.2.1 dX2_sunsLeftAtWorst_9 (by decide) (fun h9 => absurd h9 (nI_nlt (b := k_2) (a := 9) (by omega) (by omega))) (fun _ => ?_)
      refine lv_iload_n E.1 E.2.1 dX2_sunsLeftAtWorst_12 rfl (lv_at hl 4 rfl) ?_
      refine lv_iload E.1 E.2.1 dX2_sunsLeftAtWorst_13 (lv_at hl 0 rfl) ?_
      refine g_SR (As := [.int p1, .int (nI k_2)]) (rest := []) E hK (c_X2_hasBit l D cI cB p1 (nI k_2)) (va_cwS 2 E.2.2.2.2 gX2_sunsLeftAtWorst_X2_hasBit rfl rfl rfl (by decide +kernel) ⟨Nat.le_of_ble_eq_true rfl, Nat.le_of_ble_eq_true rfl⟩) rfl hl.1 rfl (Nat.le_of_ble_eq_true rfl) dX2_sunsLeftAtWorst_15 ⟨Nat.zero_le _, Nat.zero_le _⟩ ?_
      refine lv_if_eq (x := FX2_hasBit p1 (nI k_2)) (tgt := 34) E.1 E.2.1 dX2_sunsLeftAtWorst_18 (by decide) (fun h18 => ?_) (fun h18 => ?_)
      · have h18 := h18
        refine lv_iinc (v := nI (k_2 + 1)) (k := 0) (lv' := [(4, .int (nI (k_2 + 1))), (3, .int x3_1), (0, .ref (ad 0)), (1, .int p0), (2, .int p1)]) E.1 E.2.1 dX2_sunsLeftAtWorst_34 hl rfl (nI_1 k_2) (by decide) rfl (fun ls hl => ?_)
        refine lv_goto (tgt := 5) E.1 E.2.1 dX2_sunsLeftAtWorst_37 (by decide) ?_
        rw [show FX2_sunsLeftAtWorst_L5 f a ta n z c p0 p1 (d_1 + 1) k_2 x3_1 = FX2_sunsLeftAtWorst_L5 f a ta n z c p0 p1 d_1 (k_2 + 1) x3_1 from by rw [FX2_sunsLeftAtWorst_L5, if_pos h18]]
        exact ih1 (k_2 + 1) x3_1 ls (by omega) (lv_sub hl [0, 1, 2, 3, 4] rfl)
      · have h18 := h18
        refine lv_iload_n E.1 E.2.1 dX2_sunsLeftAtWorst_21 rfl (lv_at hl 1 rfl) ?_
        refine lv_aload_n E.1 E.2.1 dX2_sunsLeftAtWorst_22 rfl (lv_at hl 2 rfl) ?_
        refine lv_iload_n E.1 E.2.1 dX2_sunsLeftAtWorst_23 rfl (lv_at hl 3 rfl) ?_
        refine lv_iload E.1 E.2.1 dX2_sunsLeftAtWorst_24 (lv_at hl 0 rfl) ?_
        refine lv_iload_n E.1 E.2.1 dX2_sunsLeftAtWorst_26 rfl (lv_at hl 4 rfl) ?_
        refine g_VR (As := [.int p0, .int (nI k_2), .int p1]) (rest := [.int x3_1]) E hK hP (c_X2_sunsLikeThis l D cI cB ad f a ta n z c hX p0 (nI k_2) p1) (cwV 3 E.2.2.2.2 gX2_sunsLeftAtWorst_X2_sunsLikeThis rfl rfl rfl (by decide +kernel) ⟨Nat.le_of_ble_eq_true rfl, Nat.le_of_ble_eq_true rfl⟩) (rx hK hP) rfl hl.1 rfl (Nat.le_of_ble_eq_true rfl) dX2_sunsLeftAtWorst_27 ⟨Nat.zero_le _, Nat.zero_le _⟩ ?_
        refine va_mmax (x := x3_1) (y := FX2_sunsLikeThis f a ta n z c p0 (nI k_2) p1) E.1 E.2.1 (E.2.2.1.trans hl.1.symm) E.2.2.2.1 w_0 w_1 w_2 w_3 (Nat.le_of_ble_eq_true rfl) (Nat.le_of_ble_eq_true rfl) (Nat.zero_le _) (Nat.zero_le _) dX2_sunsLeftAtWorst_30 ?_
        refine lv_istore_n (lv' := [(3, .int (if x3_1 < FX2_sunsLikeThis f a ta n z c p0 (nI k_2) p1 then FX2_sunsLikeThis f a ta n z c p0 (nI k_2) p1 else x3_1)), (4, .int (nI k_2)), (0, .ref (ad 0)), (1, .int p0), (2, .int p1)]) E.1 E.2.1 dX2_sunsLeftAtWorst_33 rfl hl (by decide) rfl (fun ls hl => ?_)
        refine lv_iinc (v := nI (k_2 + 1)) (k := 1) (lv' := [(4, .int (nI (k_2 + 1))), (3, .int (if x3_1 < FX2_sunsLikeThis f a ta n z c p0 (nI k_2) p1 then FX2_sunsLikeThis f a ta n z c p0 (nI k_2) p1 else x3_1)), (0, .ref (ad 0)), (1, .int p0), (2, .int p1)]) E.1 E.2.1 dX2_sunsLeftAtWorst_34 hl rfl (nI_1 k_2) (by decide) rfl (fun ls hl => ?_)
        refine lv_goto (tgt := 5) E.1 E.2.1 dX2_sunsLeftAtWorst_37 (by decide) ?_
        rw [show FX2_sunsLeftAtWorst_L5 f a ta n z c p0 p1 (d_1 + 1) k_2 x3_1 = FX2_sunsLeftAtWorst_L5 f a ta n z c p0 p1 d_1 (k_2 + 1) (if x3_1 < FX2_sunsLikeThis f a ta n z c p0 (nI k_2) p1 then FX2_sunsLikeThis f a ta n z c p0 (nI k_2) p1 else x3_1) from by rw [FX2_sunsLeftAtWorst_L5, if_neg h18]]
        exact ih1 (k_2 + 1) (if x3_1 < FX2_sunsLikeThis f a ta n z c p0 (nI k_2) p1 then FX2_sunsLikeThis f a ta n z c p0 (nI k_2) p1 else x3_1) ls (by omega) (lv_sub hl [0, 1, 2, 3, 4] rfl)
  rw [show FX2_sunsLeftAtWorst f a ta n z c p0 p1 = FX2_sunsLeftAtWorst_L5 f a ta n z c p0 p1 10 0 0 from by rw [FX2_sunsLeftAtWorst]]
  have hl : lv_has ls 5 [(4, .int (nI 0)), (3, .int 0), (0, .ref (ad 0)), (1, .int p0), (2, .int p1)] := lv_sub hl [0, 1, 2, 3, 4] rfl
  exact loop1 _ _ 0 ls (by omega) (lv_sub hl [0, 1, 2, 3, 4] rfl)
def FX2_bestLook_L10 (f : Nat → Int32) (a : Nat → Nat → Int32) (ta : Nat → Nat → Int32) (n : Nat) (z : Nat) (c : Nat) (p0 : Int32) : Nat → Nat → Int32 → Int32
  | 0, k_2, x2_1 => x2_1
  | d_1 + 1, k_2, x2_1 => (if FX2_sunsLeftAtWorst f a ta n z c x2_1 p0 ≤ FX2_sunsLeftAtWorst f a ta n z c (nI k_2) p0 then FX2_bestLook_L10 f a ta n z c p0 d_1 (k_2 + 1) x2_1 else FX2_bestLook_L10 f a ta n z c p0 d_1 (k_2 + 1) (nI k_2))
def FX2_bestLook (f : Nat → Int32) (a : Nat → Nat → Int32) (ta : Nat → Nat → Int32) (n : Nat) (z : Nat) (c : Nat) (p0 : Int32) : Int32 := (if p0 = 0 then (-1) else FX2_bestLook_L10 f a ta n z c p0 (n - 1) 1 0)
set_option maxHeartbeats 4000000 in
set_option maxRecDepth 100000 in
/-- where to look -/
theorem c_X2_bestLook (l : Launch) (D : va_G) (cI cB : ClassId) (ad : Nat → Nat) (f : Nat → Int32) (a ta : Nat → Nat → Int32) (n z c : Nat) (hX : IX n z c f) (p0 : Int32) : Met l yX2_bestLook wsX2_bestLook ({ frames := 4, cells := 0, slots := 0, locals := 95 }) (GPc D cI cB (wX cI ad f a ta) [.ref (ad 0), .int p0]) (QcRead (FX2_bestLook f a ta n z c p0)) 0 0 (fun _ => False) := by
  refine Met.ofW (cc := cX2_bestLook) (maxL := 4) (ret := (some .int)) (by decide) rfl ?_
  intro p e s m args below meth cd s₁ B hml hv
  obtain ⟨rfl, hP, hK⟩ := hv
  have hts := atoms_spec (ws := wsX2_bestLook) B.pre
  have E : CallFix p m cd cX2_bestLook 4 s _ wsX2_bestLook RX2 := ⟨B.exec, B.bytes, hml, findClass_of_methodNamed B.named, hts⟩
  have hr := B.returns
  have hlocks := B.notSynchronized
  have h2n := pow6 (n := n) (by have := hX.2.1; omega)
  obtain ⟨hn, hn6, hz, hz21, hc, hc6⟩ := id hX
  have in_2 : ∀ w ∈ wsX20, w ∈ wsX2_bestLook := fun _ h => List.mem_cons_of_mem _ (List.mem_append_left _ (List.mem_append_right _ h))
  have w_0 : (Cond.fieldLink RX2 39 "SnowTerm" "sites" "I").before _ s = true := hts _ (by decide +kernel)
  have hl := lv_entry ([.ref (ad 0), .int p0]) (n := 4) (Nat.le_of_ble_eq_true rfl)
  rw [lg_entry_eq]
  generalize (lg_sl ([.ref (ad 0), .int p0]) ++ List.replicate (4 - (lg_sl ([.ref (ad 0), .int p0])).length) Slot.unset).toArray = ls at hl ⊢
  have hl : lv_has ls 4 [(0, .ref (ad 0)), (1, .int p0)] := hl
  refine lv_iload_n E.1 E.2.1 dX2_bestLook_0 rfl (lv_at hl 1 rfl) ?_
  refine lv_if_ne (x := p0) (tgt := 6) E.1 E.2.1 dX2_bestLook_1 (by decide) (fun h1 => ?_) (fun h1 => ?_)
  · have h1 := h1
    refine lv_iconst (v := 0) E.1 E.2.1 dX2_bestLook_6 (by decide) ?_
    refine lv_istore_n (lv' := [(2, .int 0), (0, .ref (ad 0)), (1, .int p0)]) E.1 E.2.1 dX2_bestLook_7 rfl hl (by decide) rfl (fun ls hl => ?_)
    refine lv_iconst (v := 1) E.1 E.2.1 dX2_bestLook_8 (by decide) ?_
    refine lv_istore_n (lv' := [(3, .int 1), (2, .int 0), (0, .ref (ad 0)), (1, .int p0)]) E.1 E.2.1 dX2_bestLook_9 rfl hl (by decide) rfl (fun ls hl => ?_)
    have loop1 : ∀ (d_1 k_2 : Nat) (x2_1 : Int32) (ls : Array Slot), (k_2 + d_1 = n ∨ (d_1 = 0 ∧ n ≤ k_2 ∧ k_2 < 2 ^ 31)) → lv_has ls 4 [(3, .int (nI k_2)), (2, .int x2_1), (0, .ref (ad 0)), (1, .int p0)] → W p l e (headSpec wsX2_bestLook { frames := 4, cells := 0, slots := 0, locals := 95 }).room s m ([.ref (ad 0), .int p0] : List Value).toArray below meth cd s.heap [] 0 0 (MQ below (QcRead (FX2_bestLook_L10 f a ta n z c p0 d_1 k_2 x2_1)) ([.ref (ad 0), .int p0] : List Value).toArray s 0 0 (fun _ => False)) (F0 m 10 ls []) := by
      intro d_1
      induction d_1 with
      | zero =>
        intro k_2 x2_1 ls hk1 hl
        refine lv_iload_n E.1 E.2.1 dX2_bestLook_10 rfl (lv_at hl 0 rfl) ?_
        refine lv_aload_n E.1 E.2.1 dX2_bestLook_11 rfl (lv_at hl 2 rfl) ?_
        refine xg_0_7 E hK hP in_2 w_0 dX2_bestLook_12 ?_
        refine lv_topi (fun y_3 ey_3 => ?_)
        obtain rfl : y_3 = nI n := ey_3.trans (hn)
        refine lv_icmp_ge (x := nI k_2) (y := nI n) (tgt := 41) E.1 E.2.1 dX2_bestLook_15 (by decide) (fun _ => ?_) (fun h9 => absurd (nI_le (a := n) (b := k_2) (by omega) (by omega)) h9)
        refine lv_iload_n E.1 E.2.1 dX2_bestLook_41 rfl (lv_at hl 1 rfl) ?_
        exact W.iret (v := x2_1) E.1 E.2.1 hr (fun t ht _ => ⟨congrArg (fun z : Int32 => Outcome.returned (some (Value.int z))) (show x2_1 = FX2_bestLook_L10 f a ta n z c p0 0 k_2 x2_1 from by rw [FX2_bestLook_L10]), ht⟩) (fun q hq => by cases hq) dX2_bestLook_42
      | succ d_1 ih1 =>
        intro k_2 x2_1 ls hk1 hl
        refine lv_iload_n E.1 E.2.1 dX2_bestLook_10 rfl (lv_at hl 0 rfl) ?_
        refine lv_aload_n E.1 E.2.1 dX2_bestLook_11 rfl (lv_at hl 2 rfl) ?_
        refine xg_0_7 E hK hP in_2 w_0 dX2_bestLook_12 ?_
        refine lv_topi (fun y_4 ey_4 => ?_)
        obtain rfl : y_4 = nI n := ey_4.trans (hn)
        refine lv_icmp_ge (x := nI k_2) (y := nI n) (tgt := 41) E.1 E.2.1 dX2_bestLook_15 (by decide) (fun h9 => absurd h9 (nI_ge (a := k_2) (b := n) (by omega) (by omega))) (fun _ => ?_)
        refine lv_aload_n E.1 E.2.1 dX2_bestLook_18 rfl (lv_at hl 2 rfl) ?_
        refine lv_iload_n E.1 E.2.1 dX2_bestLook_19 rfl (lv_at hl 0 rfl) ?_
        refine lv_iload_n E.1 E.2.1 dX2_bestLook_20 rfl (lv_at hl 3 rfl) ?_
        refine g_VR (As := [.int (nI k_2), .int p0]) (rest := []) E hK hP (c_X2_sunsLeftAtWorst l D cI cB ad f a ta n z c hX (nI k_2) p0) (cwV 2 E.2.2.2.2 gX2_bestLook_X2_sunsLeftAtWorst rfl rfl rfl (by decide +kernel) ⟨Nat.le_of_ble_eq_true rfl, Nat.le_of_ble_eq_true rfl⟩) (rx hK hP) rfl hl.1 rfl (Nat.le_of_ble_eq_true rfl) dX2_bestLook_21 ⟨Nat.zero_le _, Nat.zero_le _⟩ ?_
        refine lv_aload_n E.1 E.2.1 dX2_bestLook_24 rfl (lv_at hl 2 rfl) ?_
        refine lv_iload_n E.1 E.2.1 dX2_bestLook_25 rfl (lv_at hl 1 rfl) ?_
        refine lv_iload_n E.1 E.2.1 dX2_bestLook_26 rfl (lv_at hl 3 rfl) ?_
        refine g_VR (As := [.int x2_1, .int p0]) (rest := [.int (FX2_sunsLeftAtWorst f a ta n z c (nI k_2) p0)]) E hK hP (c_X2_sunsLeftAtWorst l D cI cB ad f a ta n z c hX x2_1 p0) (cwV 2 E.2.2.2.2 gX2_bestLook_X2_sunsLeftAtWorst rfl rfl rfl (by decide +kernel) ⟨Nat.le_of_ble_eq_true rfl, Nat.le_of_ble_eq_true rfl⟩) (rx hK hP) rfl hl.1 rfl (Nat.le_of_ble_eq_true rfl) dX2_bestLook_27 ⟨Nat.zero_le _, Nat.zero_le _⟩ ?_
        refine lv_icmp_ge (x := FX2_sunsLeftAtWorst f a ta n z c (nI k_2) p0) (y := FX2_sunsLeftAtWorst f a ta n z c x2_1 p0) (tgt := 35) E.1 E.2.1 dX2_bestLook_30 (by decide) (fun h30 => ?_) (fun h30 => ?_)
        · have h30 := h30
          refine lv_iinc (v := nI (k_2 + 1)) (k := 0) (lv' := [(3, .int (nI (k_2 + 1))), (2, .int x2_1), (0, .ref (ad 0)), (1, .int p0)]) E.1 E.2.1 dX2_bestLook_35 hl rfl (nI_1 k_2) (by decide) rfl (fun ls hl => ?_)
          refine lv_goto (tgt := 10) E.1 E.2.1 dX2_bestLook_38 (by decide) ?_
          rw [show FX2_bestLook_L10 f a ta n z c p0 (d_1 + 1) k_2 x2_1 = FX2_bestLook_L10 f a ta n z c p0 d_1 (k_2 + 1) x2_1 from by rw [FX2_bestLook_L10, if_pos h30]]
          exact ih1 (k_2 + 1) x2_1 ls (by omega) (lv_sub hl [0, 1, 2, 3] rfl)
        · have h30 := h30
          refine lv_iload_n E.1 E.2.1 dX2_bestLook_33 rfl (lv_at hl 0 rfl) ?_
          refine lv_istore_n (lv' := [(2, .int (nI k_2)), (3, .int (nI k_2)), (0, .ref (ad 0)), (1, .int p0)]) E.1 E.2.1 dX2_bestLook_34 rfl hl (by decide) rfl (fun ls hl => ?_)
          refine lv_iinc (v := nI (k_2 + 1)) (k := 1) (lv' := [(3, .int (nI (k_2 + 1))), (2, .int (nI k_2)), (0, .ref (ad 0)), (1, .int p0)]) E.1 E.2.1 dX2_bestLook_35 hl rfl (nI_1 k_2) (by decide) rfl (fun ls hl => ?_)
          refine lv_goto (tgt := 10) E.1 E.2.1 dX2_bestLook_38 (by decide) ?_
          rw [show FX2_bestLook_L10 f a ta n z c p0 (d_1 + 1) k_2 x2_1 = FX2_bestLook_L10 f a ta n z c p0 d_1 (k_2 + 1) (nI k_2) from by rw [FX2_bestLook_L10, if_neg h30]]
          exact ih1 (k_2 + 1) (nI k_2) ls (by omega) (lv_sub hl [0, 1, 2, 3] rfl)
    rw [show FX2_bestLook f a ta n z c p0 = FX2_bestLook_L10 f a ta n z c p0 (n - 1) 1 0 from by rw [FX2_bestLook, if_neg h1]]
    have hl : lv_has ls 4 [(3, .int (nI 1)), (2, .int 0), (0, .ref (ad 0)), (1, .int p0)] := lv_sub hl [0, 1, 2, 3] rfl
    exact loop1 _ _ 0 ls (by omega) (lv_sub hl [0, 1, 2, 3] rfl)
  · have h1 := h1
    refine lv_iconst (v := (-1)) E.1 E.2.1 dX2_bestLook_4 (by decide) ?_
    exact W.iret (v := (-1)) E.1 E.2.1 hr (fun t ht _ => ⟨congrArg (fun z : Int32 => Outcome.returned (some (Value.int z))) (show (-1) = FX2_bestLook f a ta n z c p0 from by rw [FX2_bestLook, if_pos h1]), ht⟩) (fun q hq => by cases hq) dX2_bestLook_5
def FX2_about (f : Nat → Int32) (a : Nat → Nat → Int32) (ta : Nat → Nat → Int32) (n : Nat) (z : Nat) (c : Nat) (p0 : Int32) (p1 : Int32) : Int32 := (if FX2_isSite f a ta n z c p0 = 0 then (-101) else (if p1 = 0 then a 2 p0.toNatClampNeg else (if p1 = 1 then a 3 p0.toNatClampNeg else (if p1 = 2 then a 9 p0.toNatClampNeg else (if p1 = 3 then a 11 p0.toNatClampNeg else (if p1 = 4 then FX2_meltsNow f a ta n z c p0 else (if p1 = 5 then (if FX2_isKeptWith f a ta n z c p0 (a 9 p0.toNatClampNeg) = 0 then 0 else 1) else (if p1 = 6 then a 12 p0.toNatClampNeg else (-102)))))))))
set_option maxHeartbeats 4000000 in
set_option maxRecDepth 100000 in
/-- about -/
theorem c_X2_about (l : Launch) (D : va_G) (cI cB : ClassId) (ad : Nat → Nat) (f : Nat → Int32) (a ta : Nat → Nat → Int32) (n z c : Nat) (hX : IX n z c f) (p0 : Int32) (p1 : Int32) : Met l yX2_about wsX2_about ({ frames := 2, cells := 0, slots := 0, locals := 44 }) (GPc D cI cB (wX cI ad f a ta) [.ref (ad 0), .int p0, .int p1]) (QcRead (FX2_about f a ta n z c p0 p1)) 0 0 (fun _ => False) := by
  refine Met.ofW (cc := cX2_about) (maxL := 3) (ret := (some .int)) (by decide) rfl ?_
  intro p e s m args below meth cd s₁ B hml hv
  obtain ⟨rfl, hP, hK⟩ := hv
  have hts := atoms_spec (ws := wsX2_about) B.pre
  have E : CallFix p m cd cX2_about 3 s _ wsX2_about RX2 := ⟨B.exec, B.bytes, hml, findClass_of_methodNamed B.named, hts⟩
  have hr := B.returns
  have hlocks := B.notSynchronized
  have h2n := pow6 (n := n) (by have := hX.2.1; omega)
  obtain ⟨hn, hn6, hz, hz21, hc, hc6⟩ := id hX
  have in_1 : ∀ w ∈ wsX10, w ∈ wsX2_about := fun _ h => List.mem_cons_of_mem _ (List.mem_append_right _ h)
  have in_2 : ∀ w ∈ wsX20, w ∈ wsX2_about := fun _ h => List.mem_cons_of_mem _ (List.mem_append_left _ (List.mem_append_right _ h))
  have w_0 : (Cond.fieldLink RX2 16 "SnowTerm" "kinds" "[I").before _ s = true := hts _ (by decide +kernel)
  have w_1 : (Cond.fieldLink RX2 20 "SnowTerm" "wants" "[I").before _ s = true := hts _ (by decide +kernel)
  have w_2 : (Cond.fieldLink RX2 26 "SnowTerm" "now" "LSnowTerm$Term;").before _ s = true := hts _ (by decide +kernel)
  have w_3 : (Cond.fieldLink RX2 92 "SnowTerm$Term" "snow" "[I").before _ s = true := hts _ (by decide +kernel)
  have w_4 : (Cond.fieldLink RX2 95 "SnowTerm$Term" "feet" "[I").before _ s = true := hts _ (by decide +kernel)
  have w_5 : (Cond.fieldLink RX2 105 "SnowTerm$Term" "brought" "[I").before _ s = true := hts _ (by decide +kernel)
  have hl := lv_entry ([.ref (ad 0), .int p0, .int p1]) (n := 3) (Nat.le_of_ble_eq_true rfl)
  rw [lg_entry_eq]
  generalize (lg_sl ([.ref (ad 0), .int p0, .int p1]) ++ List.replicate (3 - (lg_sl ([.ref (ad 0), .int p0, .int p1])).length) Slot.unset).toArray = ls at hl ⊢
  have hl : lv_has ls 3 [(0, .ref (ad 0)), (1, .int p0), (2, .int p1)] := hl
  refine lv_aload_n E.1 E.2.1 dX2_about_0 rfl (lv_at hl 0 rfl) ?_
  refine lv_iload_n E.1 E.2.1 dX2_about_1 rfl (lv_at hl 1 rfl) ?_
  refine g_VR (As := [.int p0]) (rest := []) E hK hP (c_X2_isSite l D cI cB ad f a ta n z c hX p0) (cwV 1 E.2.2.2.2 gX2_about_X2_isSite rfl rfl rfl (by decide +kernel) ⟨Nat.le_of_ble_eq_true rfl, Nat.le_of_ble_eq_true rfl⟩) (rx hK hP) rfl hl.1 rfl (Nat.le_of_ble_eq_true rfl) dX2_about_2 ⟨Nat.zero_le _, Nat.zero_le _⟩ ?_
  refine lv_if_ne (x := FX2_isSite f a ta n z c p0) (tgt := 11) E.1 E.2.1 dX2_about_5 (by decide) (fun h5 => ?_) (fun h5 => ?_)
  · have h5 := h5
    refine lv_iload_n E.1 E.2.1 dX2_about_11 rfl (lv_at hl 2 rfl) ?_
    by_cases hs12_0 : p1 = 0
    · have hs12_0 := hs12_0
      refine lv_topi (fun y9 ey9 => ?_)
      obtain rfl : y9 = 0 := ey9.trans hs12_0
      refine lv_tableIn (x := 0) (off := 44) (tgt := 56) E.1 E.2.1 dX2_about_12 (by decide) (by decide) (by decide) (by decide) ?_
      refine lv_aload_n E.1 E.2.1 dX2_about_56 rfl (lv_at hl 0 rfl) ?_
      refine xg_0_1 E hK hP in_2 w_0 dX2_about_57 ?_
      refine lv_iload_n E.1 E.2.1 dX2_about_60 rfl (lv_at hl 1 rfl) ?_
      refine xl_2 (i := p0) E hK hP (site_X hX h5) dX2_about_61 ?_
      exact W.iret (v := a 2 p0.toNatClampNeg) E.1 E.2.1 hr (fun t ht _ => ⟨congrArg (fun z : Int32 => Outcome.returned (some (Value.int z))) (show a 2 p0.toNatClampNeg = FX2_about f a ta n z c p0 p1 from by rw [FX2_about, if_neg h5, if_pos hs12_0]), ht⟩) (fun q hq => by cases hq) dX2_about_62
    · have hs12_0 := hs12_0
      by_cases hs12_1 : p1 = 1
      · have hs12_1 := hs12_1
        refine lv_topi (fun y9 ey9 => ?_)
        obtain rfl : y9 = 1 := ey9.trans hs12_1
        refine lv_tableIn (x := 1) (off := 51) (tgt := 63) E.1 E.2.1 dX2_about_12 (by decide) (by decide) (by decide) (by decide) ?_
        refine lv_aload_n E.1 E.2.1 dX2_about_63 rfl (lv_at hl 0 rfl) ?_
        refine xg_0_2 E hK hP in_2 w_1 dX2_about_64 ?_
        refine lv_iload_n E.1 E.2.1 dX2_about_67 rfl (lv_at hl 1 rfl) ?_
        refine xl_3 (i := p0) E hK hP (site_X hX h5) dX2_about_68 ?_
        exact W.iret (v := a 3 p0.toNatClampNeg) E.1 E.2.1 hr (fun t ht _ => ⟨congrArg (fun z : Int32 => Outcome.returned (some (Value.int z))) (show a 3 p0.toNatClampNeg = FX2_about f a ta n z c p0 p1 from by rw [FX2_about, if_neg h5, if_neg hs12_0, if_pos hs12_1]), ht⟩) (fun q hq => by cases hq) dX2_about_69
      · have hs12_1 := hs12_1
        by_cases hs12_2 : p1 = 2
        · have hs12_2 := hs12_2
          refine lv_topi (fun y9 ey9 => ?_)
          obtain rfl : y9 = 2 := ey9.trans hs12_2
          refine lv_tableIn (x := 2) (off := 58) (tgt := 70) E.1 E.2.1 dX2_about_12 (by decide) (by decide) (by decide) (by decide) ?_
          refine lv_aload_n E.1 E.2.1 dX2_about_70 rfl (lv_at hl 0 rfl) ?_
          refine xg_0_3 E hK hP in_2 w_2 dX2_about_71 ?_
          refine xg_4_4 E hK hP in_1 w_3 dX2_about_74 ?_
          refine lv_iload_n E.1 E.2.1 dX2_about_77 rfl (lv_at hl 1 rfl) ?_
          refine xl_9 (i := p0) E hK hP (site_X hX h5) dX2_about_78 ?_
          exact W.iret (v := a 9 p0.toNatClampNeg) E.1 E.2.1 hr (fun t ht _ => ⟨congrArg (fun z : Int32 => Outcome.returned (some (Value.int z))) (show a 9 p0.toNatClampNeg = FX2_about f a ta n z c p0 p1 from by rw [FX2_about, if_neg h5, if_neg hs12_0, if_neg hs12_1, if_pos hs12_2]), ht⟩) (fun q hq => by cases hq) dX2_about_79
        · have hs12_2 := hs12_2
          by_cases hs12_3 : p1 = 3
          · have hs12_3 := hs12_3
            refine lv_topi (fun y9 ey9 => ?_)
            obtain rfl : y9 = 3 := ey9.trans hs12_3
            refine lv_tableIn (x := 3) (off := 68) (tgt := 80) E.1 E.2.1 dX2_about_12 (by decide) (by decide) (by decide) (by decide) ?_
            refine lv_aload_n E.1 E.2.1 dX2_about_80 rfl (lv_at hl 0 rfl) ?_
            refine xg_0_3 E hK hP in_2 w_2 dX2_about_81 ?_
            refine xg_4_6 E hK hP in_1 w_4 dX2_about_84 ?_
            refine lv_iload_n E.1 E.2.1 dX2_about_87 rfl (lv_at hl 1 rfl) ?_
            refine xl_11 (i := p0) E hK hP (site_X hX h5) dX2_about_88 ?_
            exact W.iret (v := a 11 p0.toNatClampNeg) E.1 E.2.1 hr (fun t ht _ => ⟨congrArg (fun z : Int32 => Outcome.returned (some (Value.int z))) (show a 11 p0.toNatClampNeg = FX2_about f a ta n z c p0 p1 from by rw [FX2_about, if_neg h5, if_neg hs12_0, if_neg hs12_1, if_neg hs12_2, if_pos hs12_3]), ht⟩) (fun q hq => by cases hq) dX2_about_89
          · have hs12_3 := hs12_3
            by_cases hs12_4 : p1 = 4
            · have hs12_4 := hs12_4
              refine lv_topi (fun y9 ey9 => ?_)
              obtain rfl : y9 = 4 := ey9.trans hs12_4
              refine lv_tableIn (x := 4) (off := 78) (tgt := 90) E.1 E.2.1 dX2_about_12 (by decide) (by decide) (by decide) (by decide) ?_
              refine lv_aload_n E.1 E.2.1 dX2_about_90 rfl (lv_at hl 0 rfl) ?_
              refine lv_iload_n E.1 E.2.1 dX2_about_91 rfl (lv_at hl 1 rfl) ?_
              refine g_VR (As := [.int p0]) (rest := []) E hK hP (c_X2_meltsNow l D cI cB ad f a ta n z c hX p0 (site_X hX h5)) (cwV 1 E.2.2.2.2 gX2_about_X2_meltsNow rfl rfl rfl (by decide +kernel) ⟨Nat.le_of_ble_eq_true rfl, Nat.le_of_ble_eq_true rfl⟩) (rx hK hP) rfl hl.1 rfl (Nat.le_of_ble_eq_true rfl) dX2_about_92 ⟨Nat.zero_le _, Nat.zero_le _⟩ ?_
              exact W.iret (v := FX2_meltsNow f a ta n z c p0) E.1 E.2.1 hr (fun t ht _ => ⟨congrArg (fun z : Int32 => Outcome.returned (some (Value.int z))) (show FX2_meltsNow f a ta n z c p0 = FX2_about f a ta n z c p0 p1 from by rw [FX2_about, if_neg h5, if_neg hs12_0, if_neg hs12_1, if_neg hs12_2, if_neg hs12_3, if_pos hs12_4]), ht⟩) (fun q hq => by cases hq) dX2_about_95
            · have hs12_4 := hs12_4
              by_cases hs12_5 : p1 = 5
              · have hs12_5 := hs12_5
                refine lv_topi (fun y9 ey9 => ?_)
                obtain rfl : y9 = 5 := ey9.trans hs12_5
                refine lv_tableIn (x := 5) (off := 84) (tgt := 96) E.1 E.2.1 dX2_about_12 (by decide) (by decide) (by decide) (by decide) ?_
                refine lv_aload_n E.1 E.2.1 dX2_about_96 rfl (lv_at hl 0 rfl) ?_
                refine lv_iload_n E.1 E.2.1 dX2_about_97 rfl (lv_at hl 1 rfl) ?_
                refine lv_aload_n E.1 E.2.1 dX2_about_98 rfl (lv_at hl 0 rfl) ?_
                refine xg_0_3 E hK hP in_2 w_2 dX2_about_99 ?_
                refine xg_4_4 E hK hP in_1 w_3 dX2_about_102 ?_
                refine lv_iload_n E.1 E.2.1 dX2_about_105 rfl (lv_at hl 1 rfl) ?_
                refine xl_9 (i := p0) E hK hP (site_X hX h5) dX2_about_106 ?_
                refine g_VR (As := [.int p0, .int (a 9 p0.toNatClampNeg)]) (rest := []) E hK hP (c_X2_isKeptWith l D cI cB ad f a ta n z c hX p0 (a 9 p0.toNatClampNeg) (site_X hX h5)) (cwV 2 E.2.2.2.2 gX2_about_X2_isKeptWith rfl rfl rfl (by decide +kernel) ⟨Nat.le_of_ble_eq_true rfl, Nat.le_of_ble_eq_true rfl⟩) (rx hK hP) rfl hl.1 rfl (Nat.le_of_ble_eq_true rfl) dX2_about_107 ⟨Nat.zero_le _, Nat.zero_le _⟩ ?_
                refine lv_if_eq (x := FX2_isKeptWith f a ta n z c p0 (a 9 p0.toNatClampNeg)) (tgt := 117) E.1 E.2.1 dX2_about_110 (by decide) (fun h110 => ?_) (fun h110 => ?_)
                · have h110 := h110
                  refine lv_iconst (v := 0) E.1 E.2.1 dX2_about_117 (by decide) ?_
                  exact W.iret (v := 0) E.1 E.2.1 hr (fun t ht _ => ⟨congrArg (fun z : Int32 => Outcome.returned (some (Value.int z))) (show 0 = FX2_about f a ta n z c p0 p1 from by rw [FX2_about, if_neg h5, if_neg hs12_0, if_neg hs12_1, if_neg hs12_2, if_neg hs12_3, if_neg hs12_4, if_pos hs12_5, if_pos h110]), ht⟩) (fun q hq => by cases hq) dX2_about_118
                · have h110 := h110
                  refine lv_iconst (v := 1) E.1 E.2.1 dX2_about_113 (by decide) ?_
                  refine lv_goto (tgt := 118) E.1 E.2.1 dX2_about_114 (by decide) ?_
                  exact W.iret (v := 1) E.1 E.2.1 hr (fun t ht _ => ⟨congrArg (fun z : Int32 => Outcome.returned (some (Value.int z))) (show 1 = FX2_about f a ta n z c p0 p1 from by rw [FX2_about, if_neg h5, if_neg hs12_0, if_neg hs12_1, if_neg hs12_2, if_neg hs12_3, if_neg hs12_4, if_pos hs12_5, if_neg h110]), ht⟩) (fun q hq => by cases hq) dX2_about_118
              · have hs12_5 := hs12_5
                by_cases hs12_6 : p1 = 6
                · have hs12_6 := hs12_6
                  refine lv_topi (fun y9 ey9 => ?_)
                  obtain rfl : y9 = 6 := ey9.trans hs12_6
                  refine lv_tableIn (x := 6) (off := 107) (tgt := 119) E.1 E.2.1 dX2_about_12 (by decide) (by decide) (by decide) (by decide) ?_
                  refine lv_aload_n E.1 E.2.1 dX2_about_119 rfl (lv_at hl 0 rfl) ?_
                  refine xg_0_3 E hK hP in_2 w_2 dX2_about_120 ?_
                  refine xg_4_7 E hK hP in_1 w_5 dX2_about_123 ?_
                  refine lv_iload_n E.1 E.2.1 dX2_about_126 rfl (lv_at hl 1 rfl) ?_
                  refine xl_12 (i := p0) E hK hP (site_X hX h5) dX2_about_127 ?_
                  exact W.iret (v := a 12 p0.toNatClampNeg) E.1 E.2.1 hr (fun t ht _ => ⟨congrArg (fun z : Int32 => Outcome.returned (some (Value.int z))) (show a 12 p0.toNatClampNeg = FX2_about f a ta n z c p0 p1 from by rw [FX2_about, if_neg h5, if_neg hs12_0, if_neg hs12_1, if_neg hs12_2, if_neg hs12_3, if_neg hs12_4, if_neg hs12_5, if_pos hs12_6]), ht⟩) (fun q hq => by cases hq) dX2_about_128
                · have hs12_6 := hs12_6
                  refine lv_tableOut (x := p1) (tgt := 129) E.1 E.2.1 dX2_about_12 (by have q0 := lv_neT hs12_0 (a := 0) (by decide); have q1 := lv_neT hs12_1 (a := 1) (by decide); have q2 := lv_neT hs12_2 (a := 2) (by decide); have q3 := lv_neT hs12_3 (a := 3) (by decide); have q4 := lv_neT hs12_4 (a := 4) (by decide); have q5 := lv_neT hs12_5 (a := 5) (by decide); have q6 := lv_neT hs12_6 (a := 6) (by decide); omega) (by decide) ?_
                  refine lv_bipush (v := (-102)) E.1 E.2.1 dX2_about_129 (by decide) ?_
                  exact W.iret (v := (-102)) E.1 E.2.1 hr (fun t ht _ => ⟨congrArg (fun z : Int32 => Outcome.returned (some (Value.int z))) (show (-102) = FX2_about f a ta n z c p0 p1 from by rw [FX2_about, if_neg h5, if_neg hs12_0, if_neg hs12_1, if_neg hs12_2, if_neg hs12_3, if_neg hs12_4, if_neg hs12_5, if_neg hs12_6]), ht⟩) (fun q hq => by cases hq) dX2_about_131
  · have h5 := h5
    refine lv_bipush (v := (-101)) E.1 E.2.1 dX2_about_8 (by decide) ?_
    exact W.iret (v := (-101)) E.1 E.2.1 hr (fun t ht _ => ⟨congrArg (fun z : Int32 => Outcome.returned (some (Value.int z))) (show (-101) = FX2_about f a ta n z c p0 p1 from by rw [FX2_about, if_pos h5]), ht⟩) (fun q hq => by cases hq) dX2_about_10
def FX2_as (f : Nat → Int32) (a : Nat → Nat → Int32) (ta : Nat → Nat → Int32) (n : Nat) (z : Nat) (c : Nat) (p0 : Int32) (p1 : Int32) : Int32 := (if FX2_isSite f a ta n z c p0 = 0 then (-101) else (if FX2_isWithin p1 0 4 = 0 then (-102) else (if FX2_isOfKind (a 2 p0.toNatClampNeg) p1 = 0 then (-1) else p0)))
set_option maxHeartbeats 4000000 in
set_option maxRecDepth 100000 in
/-- as -/
theorem c_X2_as (l : Launch) (D : va_G) (cI cB : ClassId) (ad : Nat → Nat) (f : Nat → Int32) (a ta : Nat → Nat → Int32) (n z c : Nat) (hX : IX n z c f) (p0 : Int32) (p1 : Int32) : Met l yX2_as wsX2_as ({ frames := 1, cells := 0, slots := 0, locals := 22 }) (GPc D cI cB (wX cI ad f a ta) [.ref (ad 0), .int p0, .int p1]) (QcRead (FX2_as f a ta n z c p0 p1)) 0 0 (fun _ => False) := by
  refine Met.ofW (cc := cX2_as) (maxL := 3) (ret := (some .int)) (by decide) rfl ?_
  intro p e s m args below meth cd s₁ B hml hv
  obtain ⟨rfl, hP, hK⟩ := hv
  have hts := atoms_spec (ws := wsX2_as) B.pre
  have E : CallFix p m cd cX2_as 3 s _ wsX2_as RX2 := ⟨B.exec, B.bytes, hml, findClass_of_methodNamed B.named, hts⟩
  have hr := B.returns
  have hlocks := B.notSynchronized
  have h2n := pow6 (n := n) (by have := hX.2.1; omega)
  obtain ⟨hn, hn6, hz, hz21, hc, hc6⟩ := id hX
  have in_2 : ∀ w ∈ wsX20, w ∈ wsX2_as := fun _ h => List.mem_cons_of_mem _ (List.mem_append_right _ h)
  have w_0 : (Cond.fieldLink RX2 16 "SnowTerm" "kinds" "[I").before _ s = true := hts _ (by decide +kernel)
  have hl := lv_entry ([.ref (ad 0), .int p0, .int p1]) (n := 3) (Nat.le_of_ble_eq_true rfl)
  rw [lg_entry_eq]
  generalize (lg_sl ([.ref (ad 0), .int p0, .int p1]) ++ List.replicate (3 - (lg_sl ([.ref (ad 0), .int p0, .int p1])).length) Slot.unset).toArray = ls at hl ⊢
  have hl : lv_has ls 3 [(0, .ref (ad 0)), (1, .int p0), (2, .int p1)] := hl
  refine lv_aload_n E.1 E.2.1 dX2_as_0 rfl (lv_at hl 0 rfl) ?_
  refine lv_iload_n E.1 E.2.1 dX2_as_1 rfl (lv_at hl 1 rfl) ?_
  refine g_VR (As := [.int p0]) (rest := []) E hK hP (c_X2_isSite l D cI cB ad f a ta n z c hX p0) (cwV 1 E.2.2.2.2 gX2_as_X2_isSite rfl rfl rfl (by decide +kernel) ⟨Nat.le_of_ble_eq_true rfl, Nat.le_of_ble_eq_true rfl⟩) (rx hK hP) rfl hl.1 rfl (Nat.le_of_ble_eq_true rfl) dX2_as_2 ⟨Nat.zero_le _, Nat.zero_le _⟩ ?_
  refine lv_if_ne (x := FX2_isSite f a ta n z c p0) (tgt := 11) E.1 E.2.1 dX2_as_5 (by decide) (fun h5 => ?_) (fun h5 => ?_)
  · have h5 := h5
    refine lv_iload_n E.1 E.2.1 dX2_as_11 rfl (lv_at hl 2 rfl) ?_
    refine lv_iconst (v := 0) E.1 E.2.1 dX2_as_12 (by decide) ?_
    refine lv_iconst (v := 4) E.1 E.2.1 dX2_as_13 (by decide) ?_
    refine g_SR (As := [.int p1, .int 0, .int 4]) (rest := []) E hK (c_X2_isWithin l D cI cB p1 0 4) (va_cwS 3 E.2.2.2.2 gX2_as_X2_isWithin rfl rfl rfl (by decide +kernel) ⟨Nat.le_of_ble_eq_true rfl, Nat.le_of_ble_eq_true rfl⟩) rfl hl.1 rfl (Nat.le_of_ble_eq_true rfl) dX2_as_14 ⟨Nat.zero_le _, Nat.zero_le _⟩ ?_
    refine lv_if_ne (x := FX2_isWithin p1 0 4) (tgt := 23) E.1 E.2.1 dX2_as_17 (by decide) (fun h17 => ?_) (fun h17 => ?_)
    · have h17 := h17
      refine lv_aload_n E.1 E.2.1 dX2_as_23 rfl (lv_at hl 0 rfl) ?_
      refine xg_0_1 E hK hP in_2 w_0 dX2_as_24 ?_
      refine lv_iload_n E.1 E.2.1 dX2_as_27 rfl (lv_at hl 1 rfl) ?_
      refine xl_2 (i := p0) E hK hP (site_X hX h5) dX2_as_28 ?_
      refine lv_iload_n E.1 E.2.1 dX2_as_29 rfl (lv_at hl 2 rfl) ?_
      refine g_SR (As := [.int (a 2 p0.toNatClampNeg), .int p1]) (rest := []) E hK (c_X2_isOfKind l D cI cB (a 2 p0.toNatClampNeg) p1) (va_cwS 2 E.2.2.2.2 gX2_as_X2_isOfKind rfl rfl rfl (by decide +kernel) ⟨Nat.le_of_ble_eq_true rfl, Nat.le_of_ble_eq_true rfl⟩) rfl hl.1 rfl (Nat.le_of_ble_eq_true rfl) dX2_as_30 ⟨Nat.zero_le _, Nat.zero_le _⟩ ?_
      refine lv_if_eq (x := FX2_isOfKind (a 2 p0.toNatClampNeg) p1) (tgt := 40) E.1 E.2.1 dX2_as_33 (by decide) (fun h33 => ?_) (fun h33 => ?_)
      · have h33 := h33
        refine lv_iconst (v := (-1)) E.1 E.2.1 dX2_as_40 (by decide) ?_
        exact W.iret (v := (-1)) E.1 E.2.1 hr (fun t ht _ => ⟨congrArg (fun z : Int32 => Outcome.returned (some (Value.int z))) (show (-1) = FX2_as f a ta n z c p0 p1 from by rw [FX2_as, if_neg h5, if_neg h17, if_pos h33]), ht⟩) (fun q hq => by cases hq) dX2_as_41
      · have h33 := h33
        refine lv_iload_n E.1 E.2.1 dX2_as_36 rfl (lv_at hl 1 rfl) ?_
        refine lv_goto (tgt := 41) E.1 E.2.1 dX2_as_37 (by decide) ?_
        exact W.iret (v := p0) E.1 E.2.1 hr (fun t ht _ => ⟨congrArg (fun z : Int32 => Outcome.returned (some (Value.int z))) (show p0 = FX2_as f a ta n z c p0 p1 from by rw [FX2_as, if_neg h5, if_neg h17, if_neg h33]), ht⟩) (fun q hq => by cases hq) dX2_as_41
    · have h17 := h17
      refine lv_bipush (v := (-102)) E.1 E.2.1 dX2_as_20 (by decide) ?_
      exact W.iret (v := (-102)) E.1 E.2.1 hr (fun t ht _ => ⟨congrArg (fun z : Int32 => Outcome.returned (some (Value.int z))) (show (-102) = FX2_as f a ta n z c p0 p1 from by rw [FX2_as, if_neg h5, if_pos h17]), ht⟩) (fun q hq => by cases hq) dX2_as_22
  · have h5 := h5
    refine lv_bipush (v := (-101)) E.1 E.2.1 dX2_as_8 (by decide) ?_
    exact W.iret (v := (-101)) E.1 E.2.1 hr (fun t ht _ => ⟨congrArg (fun z : Int32 => Outcome.returned (some (Value.int z))) (show (-101) = FX2_as f a ta n z c p0 p1 from by rw [FX2_as, if_pos h5]), ht⟩) (fun q hq => by cases hq) dX2_as_10
def FX2_need (f : Nat → Int32) (a : Nat → Nat → Int32) (ta : Nat → Nat → Int32) (n : Nat) (z : Nat) (c : Nat) (p0 : Int32) (p1 : Int32) : Int32 := (if FX2_isSite f a ta n z c p0 = 0 then (-101) else (if FX2_isWithin p1 0 9 = 0 then (-102) else FX2_loadsNeeded f a ta n z c p0 p1))
set_option maxHeartbeats 4000000 in
set_option maxRecDepth 100000 in
/-- need -/
theorem c_X2_need (l : Launch) (D : va_G) (cI cB : ClassId) (ad : Nat → Nat) (f : Nat → Int32) (a ta : Nat → Nat → Int32) (n z c : Nat) (hX : IX n z c f) (p0 : Int32) (p1 : Int32) : Met l yX2_need wsX2_need ({ frames := 3, cells := 0, slots := 0, locals := 67 }) (GPc D cI cB (wX cI ad f a ta) [.ref (ad 0), .int p0, .int p1]) (QcRead (FX2_need f a ta n z c p0 p1)) 0 0 (fun _ => False) := by
  refine Met.ofW (cc := cX2_need) (maxL := 3) (ret := (some .int)) (by decide) rfl ?_
  intro p e s m args below meth cd s₁ B hml hv
  obtain ⟨rfl, hP, hK⟩ := hv
  have hts := atoms_spec (ws := wsX2_need) B.pre
  have E : CallFix p m cd cX2_need 3 s _ wsX2_need RX2 := ⟨B.exec, B.bytes, hml, findClass_of_methodNamed B.named, hts⟩
  have hr := B.returns
  have hlocks := B.notSynchronized
  have h2n := pow6 (n := n) (by have := hX.2.1; omega)
  obtain ⟨hn, hn6, hz, hz21, hc, hc6⟩ := id hX
  have hl := lv_entry ([.ref (ad 0), .int p0, .int p1]) (n := 3) (Nat.le_of_ble_eq_true rfl)
  rw [lg_entry_eq]
  generalize (lg_sl ([.ref (ad 0), .int p0, .int p1]) ++ List.replicate (3 - (lg_sl ([.ref (ad 0), .int p0, .int p1])).length) Slot.unset).toArray = ls at hl ⊢
  have hl : lv_has ls 3 [(0, .ref (ad 0)), (1, .int p0), (2, .int p1)] := hl
  refine lv_aload_n E.1 E.2.1 dX2_need_0 rfl (lv_at hl 0 rfl) ?_
  refine lv_iload_n E.1 E.2.1 dX2_need_1 rfl (lv_at hl 1 rfl) ?_
  refine g_VR (As := [.int p0]) (rest := []) E hK hP (c_X2_isSite l D cI cB ad f a ta n z c hX p0) (cwV 1 E.2.2.2.2 gX2_need_X2_isSite rfl rfl rfl (by decide +kernel) ⟨Nat.le_of_ble_eq_true rfl, Nat.le_of_ble_eq_true rfl⟩) (rx hK hP) rfl hl.1 rfl (Nat.le_of_ble_eq_true rfl) dX2_need_2 ⟨Nat.zero_le _, Nat.zero_le _⟩ ?_
  refine lv_if_ne (x := FX2_isSite f a ta n z c p0) (tgt := 11) E.1 E.2.1 dX2_need_5 (by decide) (fun h5 => ?_) (fun h5 => ?_)
  · have h5 := h5
    refine lv_iload_n E.1 E.2.1 dX2_need_11 rfl (lv_at hl 2 rfl) ?_
    refine lv_iconst (v := 0) E.1 E.2.1 dX2_need_12 (by decide) ?_
    refine lv_bipush (v := 9) E.1 E.2.1 dX2_need_13 (by decide) ?_
    refine g_SR (As := [.int p1, .int 0, .int 9]) (rest := []) E hK (c_X2_isWithin l D cI cB p1 0 9) (va_cwS 3 E.2.2.2.2 gX2_need_X2_isWithin rfl rfl rfl (by decide +kernel) ⟨Nat.le_of_ble_eq_true rfl, Nat.le_of_ble_eq_true rfl⟩) rfl hl.1 rfl (Nat.le_of_ble_eq_true rfl) dX2_need_15 ⟨Nat.zero_le _, Nat.zero_le _⟩ ?_
    refine lv_if_ne (x := FX2_isWithin p1 0 9) (tgt := 24) E.1 E.2.1 dX2_need_18 (by decide) (fun h18 => ?_) (fun h18 => ?_)
    · have h18 := h18
      refine lv_aload_n E.1 E.2.1 dX2_need_24 rfl (lv_at hl 0 rfl) ?_
      refine lv_iload_n E.1 E.2.1 dX2_need_25 rfl (lv_at hl 1 rfl) ?_
      refine lv_iload_n E.1 E.2.1 dX2_need_26 rfl (lv_at hl 2 rfl) ?_
      refine g_VR (As := [.int p0, .int p1]) (rest := []) E hK hP (c_X2_loadsNeeded l D cI cB ad f a ta n z c hX p0 p1 (site_X hX h5)) (cwV 2 E.2.2.2.2 gX2_need_X2_loadsNeeded rfl rfl rfl (by decide +kernel) ⟨Nat.le_of_ble_eq_true rfl, Nat.le_of_ble_eq_true rfl⟩) (rx hK hP) rfl hl.1 rfl (Nat.le_of_ble_eq_true rfl) dX2_need_27 ⟨Nat.zero_le _, Nat.zero_le _⟩ ?_
      exact W.iret (v := FX2_loadsNeeded f a ta n z c p0 p1) E.1 E.2.1 hr (fun t ht _ => ⟨congrArg (fun z : Int32 => Outcome.returned (some (Value.int z))) (show FX2_loadsNeeded f a ta n z c p0 p1 = FX2_need f a ta n z c p0 p1 from by rw [FX2_need, if_neg h5, if_neg h18]), ht⟩) (fun q hq => by cases hq) dX2_need_30
    · have h18 := h18
      refine lv_bipush (v := (-102)) E.1 E.2.1 dX2_need_21 (by decide) ?_
      exact W.iret (v := (-102)) E.1 E.2.1 hr (fun t ht _ => ⟨congrArg (fun z : Int32 => Outcome.returned (some (Value.int z))) (show (-102) = FX2_need f a ta n z c p0 p1 from by rw [FX2_need, if_neg h5, if_pos h18]), ht⟩) (fun q hq => by cases hq) dX2_need_23
  · have h5 := h5
    refine lv_bipush (v := (-101)) E.1 E.2.1 dX2_need_8 (by decide) ?_
    exact W.iret (v := (-101)) E.1 E.2.1 hr (fun t ht _ => ⟨congrArg (fun z : Int32 => Outcome.returned (some (Value.int z))) (show (-101) = FX2_need f a ta n z c p0 p1 from by rw [FX2_need, if_pos h5]), ht⟩) (fun q hq => by cases hq) dX2_need_10
def FX2_error (f : Nat → Int32) (a : Nat → Nat → Int32) (ta : Nat → Nat → Int32) (n : Nat) (z : Nat) (c : Nat) (p0 : Int32) : Int32 := (if FX2_isWithin p0 0 1 = 0 then (-102) else (if nI n = 0 then (-103) else (if FX2_bestError f a ta n z c = (-1) then FX2_bestError f a ta n z c else (if p0 = 0 then FX2_bestError f a ta n z c else FX2_keptIfSwapped f a ta n z c ((FX2_bestError f a ta n z c) / 10) ((FX2_bestError f a ta n z c) - (FX2_bestError f a ta n z c) / 10 * 10)))))
set_option maxHeartbeats 4000000 in
set_option maxRecDepth 100000 in
/-- error -/
theorem c_X2_error (l : Launch) (D : va_G) (cI cB : ClassId) (ad : Nat → Nat) (f : Nat → Int32) (a ta : Nat → Nat → Int32) (n z c : Nat) (hX : IX n z c f) (p0 : Int32) : Met l yX2_error wsX2_error ({ frames := 5, cells := 0, slots := 0, locals := 106 }) (GPc D cI cB (wX cI ad f a ta) [.ref (ad 0), .int p0]) (QcRead (FX2_error f a ta n z c p0)) 0 0 (fun _ => False) := by
  refine Met.ofW (cc := cX2_error) (maxL := 3) (ret := (some .int)) (by decide) rfl ?_
  intro p e s m args below meth cd s₁ B hml hv
  obtain ⟨rfl, hP, hK⟩ := hv
  have hts := atoms_spec (ws := wsX2_error) B.pre
  have E : CallFix p m cd cX2_error 3 s _ wsX2_error RX2 := ⟨B.exec, B.bytes, hml, findClass_of_methodNamed B.named, hts⟩
  have hr := B.returns
  have hlocks := B.notSynchronized
  have h2n := pow6 (n := n) (by have := hX.2.1; omega)
  obtain ⟨hn, hn6, hz, hz21, hc, hc6⟩ := id hX
  have in_2 : ∀ w ∈ wsX20, w ∈ wsX2_error := fun _ h => List.mem_cons_of_mem _ (List.mem_append_left _ (List.mem_append_right _ h))
  have w_0 : (Cond.fieldLink RX2 39 "SnowTerm" "sites" "I").before _ s = true := hts _ (by decide +kernel)
  have hl := lv_entry ([.ref (ad 0), .int p0]) (n := 3) (Nat.le_of_ble_eq_true rfl)
  rw [lg_entry_eq]
  generalize (lg_sl ([.ref (ad 0), .int p0]) ++ List.replicate (3 - (lg_sl ([.ref (ad 0), .int p0])).length) Slot.unset).toArray = ls at hl ⊢
  have hl : lv_has ls 3 [(0, .ref (ad 0)), (1, .int p0)] := hl
  refine lv_iload_n E.1 E.2.1 dX2_error_0 rfl (lv_at hl 1 rfl) ?_
  refine lv_iconst (v := 0) E.1 E.2.1 dX2_error_1 (by decide) ?_
  refine lv_iconst (v := 1) E.1 E.2.1 dX2_error_2 (by decide) ?_
  refine g_SR (As := [.int p0, .int 0, .int 1]) (rest := []) E hK (c_X2_isWithin l D cI cB p0 0 1) (va_cwS 3 E.2.2.2.2 gX2_error_X2_isWithin rfl rfl rfl (by decide +kernel) ⟨Nat.le_of_ble_eq_true rfl, Nat.le_of_ble_eq_true rfl⟩) rfl hl.1 rfl (Nat.le_of_ble_eq_true rfl) dX2_error_3 ⟨Nat.zero_le _, Nat.zero_le _⟩ ?_
  refine lv_if_ne (x := FX2_isWithin p0 0 1) (tgt := 12) E.1 E.2.1 dX2_error_6 (by decide) (fun h6 => ?_) (fun h6 => ?_)
  · have h6 := h6
    refine lv_aload_n E.1 E.2.1 dX2_error_12 rfl (lv_at hl 0 rfl) ?_
    refine xg_0_7 E hK hP in_2 w_0 dX2_error_13 ?_
    refine lv_topi (fun y_1 ey_1 => ?_)
    obtain rfl : y_1 = nI n := ey_1.trans (hn)
    refine lv_if_ne (x := nI n) (tgt := 22) E.1 E.2.1 dX2_error_16 (by decide) (fun h16 => ?_) (fun h16 => ?_)
    · have h16 := h16
      refine lv_aload_n E.1 E.2.1 dX2_error_22 rfl (lv_at hl 0 rfl) ?_
      refine g_VR (As := []) (rest := []) E hK hP (c_X2_bestError l D cI cB ad f a ta n z c hX) (cwV 0 E.2.2.2.2 gX2_error_X2_bestError rfl rfl rfl (by decide +kernel) ⟨Nat.le_of_ble_eq_true rfl, Nat.le_of_ble_eq_true rfl⟩) (rx hK hP) rfl hl.1 rfl (Nat.le_of_ble_eq_true rfl) dX2_error_23 ⟨Nat.zero_le _, Nat.zero_le _⟩ ?_
      refine lv_istore_n (lv' := [(2, .int (FX2_bestError f a ta n z c)), (0, .ref (ad 0)), (1, .int p0)]) E.1 E.2.1 dX2_error_26 rfl hl (by decide) rfl (fun ls hl => ?_)
      refine lv_iload_n E.1 E.2.1 dX2_error_27 rfl (lv_at hl 0 rfl) ?_
      refine lv_iconst (v := (-1)) E.1 E.2.1 dX2_error_28 (by decide) ?_
      refine lv_icmp_eq (x := FX2_bestError f a ta n z c) (y := (-1)) (tgt := 36) E.1 E.2.1 dX2_error_29 (by decide) (fun h29 => ?_) (fun h29 => ?_)
      · have h29 := h29
        refine lv_iload_n E.1 E.2.1 dX2_error_36 rfl (lv_at hl 0 rfl) ?_
        exact W.iret (v := FX2_bestError f a ta n z c) E.1 E.2.1 hr (fun t ht _ => ⟨congrArg (fun z : Int32 => Outcome.returned (some (Value.int z))) (show FX2_bestError f a ta n z c = FX2_error f a ta n z c p0 from by rw [FX2_error, if_neg h6, if_neg h16, if_pos h29]), ht⟩) (fun q hq => by cases hq) dX2_error_37
      · have h29 := h29
        refine lv_iload_n E.1 E.2.1 dX2_error_32 rfl (lv_at hl 2 rfl) ?_
        refine lv_if_ne (x := p0) (tgt := 38) E.1 E.2.1 dX2_error_33 (by decide) (fun h33 => ?_) (fun h33 => ?_)
        · have h33 := h33
          refine lv_aload_n E.1 E.2.1 dX2_error_38 rfl (lv_at hl 1 rfl) ?_
          refine lv_iload_n E.1 E.2.1 dX2_error_39 rfl (lv_at hl 0 rfl) ?_
          refine lv_bipush (v := 10) E.1 E.2.1 dX2_error_40 (by decide) ?_
          refine lv_idiv (x := FX2_bestError f a ta n z c) (y := 10) E.1 E.2.1 dX2_error_42 (by decide) ?_
          refine lv_iload_n E.1 E.2.1 dX2_error_43 rfl (lv_at hl 0 rfl) ?_
          refine lv_bipush (v := 10) E.1 E.2.1 dX2_error_44 (by decide) ?_
          refine lv_irem (x := FX2_bestError f a ta n z c) (y := 10) E.1 E.2.1 dX2_error_46 (by decide) ?_
          refine g_VR (As := [.int ((FX2_bestError f a ta n z c) / 10), .int ((FX2_bestError f a ta n z c) - (FX2_bestError f a ta n z c) / 10 * 10)]) (rest := []) E hK hP (c_X2_keptIfSwapped l D cI cB ad f a ta n z c hX ((FX2_bestError f a ta n z c) / 10) ((FX2_bestError f a ta n z c) - (FX2_bestError f a ta n z c) / 10 * 10)) (cwV 2 E.2.2.2.2 gX2_error_X2_keptIfSwapped rfl rfl rfl (by decide +kernel) ⟨Nat.le_of_ble_eq_true rfl, Nat.le_of_ble_eq_true rfl⟩) (rx hK hP) rfl hl.1 rfl (Nat.le_of_ble_eq_true rfl) dX2_error_47 ⟨Nat.zero_le _, Nat.zero_le _⟩ ?_
          exact W.iret (v := FX2_keptIfSwapped f a ta n z c ((FX2_bestError f a ta n z c) / 10) ((FX2_bestError f a ta n z c) - (FX2_bestError f a ta n z c) / 10 * 10)) E.1 E.2.1 hr (fun t ht _ => ⟨congrArg (fun z : Int32 => Outcome.returned (some (Value.int z))) (show FX2_keptIfSwapped f a ta n z c ((FX2_bestError f a ta n z c) / 10) ((FX2_bestError f a ta n z c) - (FX2_bestError f a ta n z c) / 10 * 10) = FX2_error f a ta n z c p0 from by rw [FX2_error, if_neg h6, if_neg h16, if_neg h29, if_neg h33]), ht⟩) (fun q hq => by cases hq) dX2_error_50
        · have h33 := h33
          refine lv_iload_n E.1 E.2.1 dX2_error_36 rfl (lv_at hl 0 rfl) ?_
          exact W.iret (v := FX2_bestError f a ta n z c) E.1 E.2.1 hr (fun t ht _ => ⟨congrArg (fun z : Int32 => Outcome.returned (some (Value.int z))) (show FX2_bestError f a ta n z c = FX2_error f a ta n z c p0 from by rw [FX2_error, if_neg h6, if_neg h16, if_neg h29, if_pos h33]), ht⟩) (fun q hq => by cases hq) dX2_error_37
    · have h16 := h16
      refine lv_bipush (v := (-103)) E.1 E.2.1 dX2_error_19 (by decide) ?_
      exact W.iret (v := (-103)) E.1 E.2.1 hr (fun t ht _ => ⟨congrArg (fun z : Int32 => Outcome.returned (some (Value.int z))) (show (-103) = FX2_error f a ta n z c p0 from by rw [FX2_error, if_neg h6, if_pos h16]), ht⟩) (fun q hq => by cases hq) dX2_error_21
  · have h6 := h6
    refine lv_bipush (v := (-102)) E.1 E.2.1 dX2_error_9 (by decide) ?_
    exact W.iret (v := (-102)) E.1 E.2.1 hr (fun t ht _ => ⟨congrArg (fun z : Int32 => Outcome.returned (some (Value.int z))) (show (-102) = FX2_error f a ta n z c p0 from by rw [FX2_error, if_pos h6]), ht⟩) (fun q hq => by cases hq) dX2_error_11
def FX2_suns (f : Nat → Int32) (a : Nat → Nat → Int32) (ta : Nat → Nat → Int32) (n : Nat) (z : Nat) (c : Nat) : Int32 := (if nI n = 0 then (-103) else FX2_possibleSuns f a ta n z c)
set_option maxHeartbeats 4000000 in
set_option maxRecDepth 100000 in
/-- suns -/
theorem c_X2_suns (l : Launch) (D : va_G) (cI cB : ClassId) (ad : Nat → Nat) (f : Nat → Int32) (a ta : Nat → Nat → Int32) (n z c : Nat) (hX : IX n z c f)  : Met l yX2_suns wsX2_suns ({ frames := 3, cells := 0, slots := 0, locals := 68 }) (GPc D cI cB (wX cI ad f a ta) [.ref (ad 0)]) (QcRead (FX2_suns f a ta n z c)) 0 0 (fun _ => False) := by
  refine Met.ofW (cc := cX2_suns) (maxL := 1) (ret := (some .int)) (by decide) rfl ?_
  intro p e s m args below meth cd s₁ B hml hv
  obtain ⟨rfl, hP, hK⟩ := hv
  have hts := atoms_spec (ws := wsX2_suns) B.pre
  have E : CallFix p m cd cX2_suns 1 s _ wsX2_suns RX2 := ⟨B.exec, B.bytes, hml, findClass_of_methodNamed B.named, hts⟩
  have hr := B.returns
  have hlocks := B.notSynchronized
  have h2n := pow6 (n := n) (by have := hX.2.1; omega)
  obtain ⟨hn, hn6, hz, hz21, hc, hc6⟩ := id hX
  have in_2 : ∀ w ∈ wsX20, w ∈ wsX2_suns := fun _ h => List.mem_cons_of_mem _ (List.mem_append_left _ (List.mem_append_right _ h))
  have w_0 : (Cond.fieldLink RX2 39 "SnowTerm" "sites" "I").before _ s = true := hts _ (by decide +kernel)
  have hl := lv_entry ([.ref (ad 0)]) (n := 1) (Nat.le_of_ble_eq_true rfl)
  rw [lg_entry_eq]
  generalize (lg_sl ([.ref (ad 0)]) ++ List.replicate (1 - (lg_sl ([.ref (ad 0)])).length) Slot.unset).toArray = ls at hl ⊢
  have hl : lv_has ls 1 [(0, .ref (ad 0))] := hl
  refine lv_aload_n E.1 E.2.1 dX2_suns_0 rfl (lv_at hl 0 rfl) ?_
  refine xg_0_7 E hK hP in_2 w_0 dX2_suns_1 ?_
  refine lv_topi (fun y_1 ey_1 => ?_)
  obtain rfl : y_1 = nI n := ey_1.trans (hn)
  refine lv_if_ne (x := nI n) (tgt := 10) E.1 E.2.1 dX2_suns_4 (by decide) (fun h4 => ?_) (fun h4 => ?_)
  · have h4 := h4
    refine lv_aload_n E.1 E.2.1 dX2_suns_10 rfl (lv_at hl 0 rfl) ?_
    refine g_VR (As := []) (rest := []) E hK hP (c_X2_possibleSuns l D cI cB ad f a ta n z c hX) (cwV 0 E.2.2.2.2 gX2_suns_X2_possibleSuns rfl rfl rfl (by decide +kernel) ⟨Nat.le_of_ble_eq_true rfl, Nat.le_of_ble_eq_true rfl⟩) (rx hK hP) rfl hl.1 rfl (Nat.le_of_ble_eq_true rfl) dX2_suns_11 ⟨Nat.zero_le _, Nat.zero_le _⟩ ?_
    exact W.iret (v := FX2_possibleSuns f a ta n z c) E.1 E.2.1 hr (fun t ht _ => ⟨congrArg (fun z : Int32 => Outcome.returned (some (Value.int z))) (show FX2_possibleSuns f a ta n z c = FX2_suns f a ta n z c from by rw [FX2_suns, if_neg h4]), ht⟩) (fun q hq => by cases hq) dX2_suns_14
  · have h4 := h4
    refine lv_bipush (v := (-103)) E.1 E.2.1 dX2_suns_7 (by decide) ?_
    exact W.iret (v := (-103)) E.1 E.2.1 hr (fun t ht _ => ⟨congrArg (fun z : Int32 => Outcome.returned (some (Value.int z))) (show (-103) = FX2_suns f a ta n z c from by rw [FX2_suns, if_pos h4]), ht⟩) (fun q hq => by cases hq) dX2_suns_9
def FX2_look (f : Nat → Int32) (a : Nat → Nat → Int32) (ta : Nat → Nat → Int32) (n : Nat) (z : Nat) (c : Nat) : Int32 := (if nI n = 0 then (-103) else FX2_bestLook f a ta n z c (FX2_possibleSuns f a ta n z c))
set_option maxHeartbeats 4000000 in
set_option maxRecDepth 100000 in
/-- look -/
theorem c_X2_look (l : Launch) (D : va_G) (cI cB : ClassId) (ad : Nat → Nat) (f : Nat → Int32) (a ta : Nat → Nat → Int32) (n z c : Nat) (hX : IX n z c f)  : Met l yX2_look wsX2_look ({ frames := 5, cells := 0, slots := 0, locals := 118 }) (GPc D cI cB (wX cI ad f a ta) [.ref (ad 0)]) (QcRead (FX2_look f a ta n z c)) 0 0 (fun _ => False) := by
  refine Met.ofW (cc := cX2_look) (maxL := 1) (ret := (some .int)) (by decide) rfl ?_
  intro p e s m args below meth cd s₁ B hml hv
  obtain ⟨rfl, hP, hK⟩ := hv
  have hts := atoms_spec (ws := wsX2_look) B.pre
  have E : CallFix p m cd cX2_look 1 s _ wsX2_look RX2 := ⟨B.exec, B.bytes, hml, findClass_of_methodNamed B.named, hts⟩
  have hr := B.returns
  have hlocks := B.notSynchronized
  have h2n := pow6 (n := n) (by have := hX.2.1; omega)
  obtain ⟨hn, hn6, hz, hz21, hc, hc6⟩ := id hX
  have in_2 : ∀ w ∈ wsX20, w ∈ wsX2_look := fun _ h => List.mem_cons_of_mem _ (List.mem_append_left _ (List.mem_append_right _ h))
  have w_0 : (Cond.fieldLink RX2 39 "SnowTerm" "sites" "I").before _ s = true := hts _ (by decide +kernel)
  have hl := lv_entry ([.ref (ad 0)]) (n := 1) (Nat.le_of_ble_eq_true rfl)
  rw [lg_entry_eq]
  generalize (lg_sl ([.ref (ad 0)]) ++ List.replicate (1 - (lg_sl ([.ref (ad 0)])).length) Slot.unset).toArray = ls at hl ⊢
  have hl : lv_has ls 1 [(0, .ref (ad 0))] := hl
  refine lv_aload_n E.1 E.2.1 dX2_look_0 rfl (lv_at hl 0 rfl) ?_
  refine xg_0_7 E hK hP in_2 w_0 dX2_look_1 ?_
  refine lv_topi (fun y_1 ey_1 => ?_)
  obtain rfl : y_1 = nI n := ey_1.trans (hn)
  refine lv_if_ne (x := nI n) (tgt := 10) E.1 E.2.1 dX2_look_4 (by decide) (fun h4 => ?_) (fun h4 => ?_)
  · have h4 := h4
    refine lv_aload_n E.1 E.2.1 dX2_look_10 rfl (lv_at hl 0 rfl) ?_
    refine lv_aload_n E.1 E.2.1 dX2_look_11 rfl (lv_at hl 0 rfl) ?_
    refine g_VR (As := []) (rest := [.ref (ad 0)]) E hK hP (c_X2_possibleSuns l D cI cB ad f a ta n z c hX) (cwV 0 E.2.2.2.2 gX2_look_X2_possibleSuns rfl rfl rfl (by decide +kernel) ⟨Nat.le_of_ble_eq_true rfl, Nat.le_of_ble_eq_true rfl⟩) (rx hK hP) rfl hl.1 rfl (Nat.le_of_ble_eq_true rfl) dX2_look_12 ⟨Nat.zero_le _, Nat.zero_le _⟩ ?_
    refine g_VR (As := [.int (FX2_possibleSuns f a ta n z c)]) (rest := []) E hK hP (c_X2_bestLook l D cI cB ad f a ta n z c hX (FX2_possibleSuns f a ta n z c)) (cwV 1 E.2.2.2.2 gX2_look_X2_bestLook rfl rfl rfl (by decide +kernel) ⟨Nat.le_of_ble_eq_true rfl, Nat.le_of_ble_eq_true rfl⟩) (rx hK hP) rfl hl.1 rfl (Nat.le_of_ble_eq_true rfl) dX2_look_15 ⟨Nat.zero_le _, Nat.zero_le _⟩ ?_
    exact W.iret (v := FX2_bestLook f a ta n z c (FX2_possibleSuns f a ta n z c)) E.1 E.2.1 hr (fun t ht _ => ⟨congrArg (fun z : Int32 => Outcome.returned (some (Value.int z))) (show FX2_bestLook f a ta n z c (FX2_possibleSuns f a ta n z c) = FX2_look f a ta n z c from by rw [FX2_look, if_neg h4]), ht⟩) (fun q hq => by cases hq) dX2_look_18
  · have h4 := h4
    refine lv_bipush (v := (-103)) E.1 E.2.1 dX2_look_7 (by decide) ?_
    exact W.iret (v := (-103)) E.1 E.2.1 hr (fun t ht _ => ⟨congrArg (fun z : Int32 => Outcome.returned (some (Value.int z))) (show (-103) = FX2_look f a ta n z c from by rw [FX2_look, if_pos h4]), ht⟩) (fun q hq => by cases hq) dX2_look_9
def FX2_count (f : Nat → Int32) (a : Nat → Nat → Int32) (ta : Nat → Nat → Int32) (n : Nat) (z : Nat) (c : Nat) (p0 : Int32) : Int32 := (if p0 = 0 then nI n else (if p0 = 1 then f 5 else (if p0 = 2 then f 4 else (if p0 = 3 then FX2_snowIn_at9 f a ta n z c else (if p0 = 4 then FX2_keptIn_at9 f a ta n z c else (if p0 = 5 then f 7 else (if p0 = 6 then f 6 else (if p0 = 7 then nI c else (if p0 = 8 then nI z else (if p0 = 9 then f 1 else (-102)))))))))))
set_option maxHeartbeats 4000000 in
set_option maxRecDepth 100000 in
/-- count -/
theorem c_X2_count (l : Launch) (D : va_G) (cI cB : ClassId) (ad : Nat → Nat) (f : Nat → Int32) (a ta : Nat → Nat → Int32) (n z c : Nat) (hX : IX n z c f) (p0 : Int32) : Met l yX2_count wsX2_count ({ frames := 2, cells := 0, slots := 0, locals := 45 }) (GPc D cI cB (wX cI ad f a ta) [.ref (ad 0), .int p0]) (QcRead (FX2_count f a ta n z c p0)) 0 0 (fun _ => False) := by
  refine Met.ofW (cc := cX2_count) (maxL := 2) (ret := (some .int)) (by decide) rfl ?_
  intro p e s m args below meth cd s₁ B hml hv
  obtain ⟨rfl, hP, hK⟩ := hv
  have hts := atoms_spec (ws := wsX2_count) B.pre
  have E : CallFix p m cd cX2_count 2 s _ wsX2_count RX2 := ⟨B.exec, B.bytes, hml, findClass_of_methodNamed B.named, hts⟩
  have hr := B.returns
  have hlocks := B.notSynchronized
  have h2n := pow6 (n := n) (by have := hX.2.1; omega)
  obtain ⟨hn, hn6, hz, hz21, hc, hc6⟩ := id hX
  have in_0 : ∀ w ∈ wsX00, w ∈ wsX2_count := fun _ h => List.mem_cons_of_mem _ (List.mem_append_right _ h)
  have in_1 : ∀ w ∈ wsX10, w ∈ wsX2_count := fun _ h => List.mem_cons_of_mem _ (List.mem_append_left _ (List.mem_append_right _ h))
  have in_2 : ∀ w ∈ wsX20, w ∈ wsX2_count := fun _ h => List.mem_cons_of_mem _ (List.mem_append_left _ (List.mem_append_left _ (List.mem_append_right _ h)))
  have w_0 : (Cond.fieldLink RX2 39 "SnowTerm" "sites" "I").before _ s = true := hts _ (by decide +kernel)
  have w_1 : (Cond.fieldLink RX2 26 "SnowTerm" "now" "LSnowTerm$Term;").before _ s = true := hts _ (by decide +kernel)
  have w_2 : (Cond.fieldLink RX2 121 "SnowTerm$Term" "sun" "I").before _ s = true := hts _ (by decide +kernel)
  have w_3 : (Cond.fieldLink RX2 194 "SnowTerm$Term" "day" "I").before _ s = true := hts _ (by decide +kernel)
  have w_4 : (Cond.fieldLink RX2 92 "SnowTerm$Term" "snow" "[I").before _ s = true := hts _ (by decide +kernel)
  have w_5 : (Cond.fieldLink RX2 200 "SnowTerm$Term" "praise" "I").before _ s = true := hts _ (by decide +kernel)
  have w_6 : (Cond.fieldLink RX2 115 "SnowTerm$Term" "cost" "I").before _ s = true := hts _ (by decide +kernel)
  have w_7 : (Cond.fieldLink RX2 161 "SnowTerm$Term" "foundCount" "I").before _ s = true := hts _ (by decide +kernel)
  have w_8 : (Cond.fieldLink RX2 10 "SnowTerm" "page" "LSnowTerm$Page;").before _ s = true := hts _ (by decide +kernel)
  have w_9 : (Cond.fieldLink RX2 58 "SnowTerm$Page" "size" "I").before _ s = true := hts _ (by decide +kernel)
  have w_10 : (Cond.fieldLink RX2 43 "SnowTerm" "citiesRead" "I").before _ s = true := hts _ (by decide +kernel)
  have hl := lv_entry ([.ref (ad 0), .int p0]) (n := 2) (Nat.le_of_ble_eq_true rfl)
  rw [lg_entry_eq]
  generalize (lg_sl ([.ref (ad 0), .int p0]) ++ List.replicate (2 - (lg_sl ([.ref (ad 0), .int p0])).length) Slot.unset).toArray = ls at hl ⊢
  have hl : lv_has ls 2 [(0, .ref (ad 0)), (1, .int p0)] := hl
  refine lv_iload_n E.1 E.2.1 dX2_count_0 rfl (lv_at hl 1 rfl) ?_
  by_cases hs1_0 : p0 = 0
  · have hs1_0 := hs1_0
    refine lv_topi (fun y9 ey9 => ?_)
    obtain rfl : y9 = 0 := ey9.trans hs1_0
    refine lv_tableIn (x := 0) (off := 55) (tgt := 56) E.1 E.2.1 dX2_count_1 (by decide) (by decide) (by decide) (by decide) ?_
    refine lv_aload_n E.1 E.2.1 dX2_count_56 rfl (lv_at hl 0 rfl) ?_
    refine xg_0_7 E hK hP in_2 w_0 dX2_count_57 ?_
    refine lv_topi (fun y_1 ey_1 => ?_)
    obtain rfl : y_1 = nI n := ey_1.trans (hn)
    exact W.iret (v := nI n) E.1 E.2.1 hr (fun t ht _ => ⟨congrArg (fun z : Int32 => Outcome.returned (some (Value.int z))) (show nI n = FX2_count f a ta n z c p0 from by rw [FX2_count, if_pos hs1_0]), ht⟩) (fun q hq => by cases hq) dX2_count_60
  · have hs1_0 := hs1_0
    by_cases hs1_1 : p0 = 1
    · have hs1_1 := hs1_1
      refine lv_topi (fun y9 ey9 => ?_)
      obtain rfl : y9 = 1 := ey9.trans hs1_1
      refine lv_tableIn (x := 1) (off := 60) (tgt := 61) E.1 E.2.1 dX2_count_1 (by decide) (by decide) (by decide) (by decide) ?_
      refine lv_aload_n E.1 E.2.1 dX2_count_61 rfl (lv_at hl 0 rfl) ?_
      refine xg_0_3 E hK hP in_2 w_1 dX2_count_62 ?_
      refine xg_4_1 E hK hP in_1 w_2 dX2_count_65 ?_
      exact W.iret (v := f 5) E.1 E.2.1 hr (fun t ht _ => ⟨congrArg (fun z : Int32 => Outcome.returned (some (Value.int z))) (show f 5 = FX2_count f a ta n z c p0 from by rw [FX2_count, if_neg hs1_0, if_pos hs1_1]), ht⟩) (fun q hq => by cases hq) dX2_count_68
    · have hs1_1 := hs1_1
      by_cases hs1_2 : p0 = 2
      · have hs1_2 := hs1_2
        refine lv_topi (fun y9 ey9 => ?_)
        obtain rfl : y9 = 2 := ey9.trans hs1_2
        refine lv_tableIn (x := 2) (off := 68) (tgt := 69) E.1 E.2.1 dX2_count_1 (by decide) (by decide) (by decide) (by decide) ?_
        refine lv_aload_n E.1 E.2.1 dX2_count_69 rfl (lv_at hl 0 rfl) ?_
        refine xg_0_3 E hK hP in_2 w_1 dX2_count_70 ?_
        refine xg_4_0 E hK hP in_1 w_3 dX2_count_73 ?_
        exact W.iret (v := f 4) E.1 E.2.1 hr (fun t ht _ => ⟨congrArg (fun z : Int32 => Outcome.returned (some (Value.int z))) (show f 4 = FX2_count f a ta n z c p0 from by rw [FX2_count, if_neg hs1_0, if_neg hs1_1, if_pos hs1_2]), ht⟩) (fun q hq => by cases hq) dX2_count_76
      · have hs1_2 := hs1_2
        by_cases hs1_3 : p0 = 3
        · have hs1_3 := hs1_3
          refine lv_topi (fun y9 ey9 => ?_)
          obtain rfl : y9 = 3 := ey9.trans hs1_3
          refine lv_tableIn (x := 3) (off := 76) (tgt := 77) E.1 E.2.1 dX2_count_1 (by decide) (by decide) (by decide) (by decide) ?_
          refine lv_aload_n E.1 E.2.1 dX2_count_77 rfl (lv_at hl 0 rfl) ?_
          refine lv_aload_n E.1 E.2.1 dX2_count_78 rfl (lv_at hl 0 rfl) ?_
          refine xg_0_3 E hK hP in_2 w_1 dX2_count_79 ?_
          refine xg_4_4 E hK hP in_1 w_4 dX2_count_82 ?_
          refine g_VR (As := [.ref (ad 9)]) (rest := []) E hK hP (c_X2_snowIn_at9 l D cI cB ad f a ta n z c hX) (cwV 1 E.2.2.2.2 gX2_count_X2_snowIn rfl rfl rfl (by decide +kernel) ⟨Nat.le_of_ble_eq_true rfl, Nat.le_of_ble_eq_true rfl⟩) (rx hK hP) rfl hl.1 rfl (Nat.le_of_ble_eq_true rfl) dX2_count_85 ⟨Nat.zero_le _, Nat.zero_le _⟩ ?_
          exact W.iret (v := FX2_snowIn_at9 f a ta n z c) E.1 E.2.1 hr (fun t ht _ => ⟨congrArg (fun z : Int32 => Outcome.returned (some (Value.int z))) (show FX2_snowIn_at9 f a ta n z c = FX2_count f a ta n z c p0 from by rw [FX2_count, if_neg hs1_0, if_neg hs1_1, if_neg hs1_2, if_pos hs1_3]), ht⟩) (fun q hq => by cases hq) dX2_count_88
        · have hs1_3 := hs1_3
          by_cases hs1_4 : p0 = 4
          · have hs1_4 := hs1_4
            refine lv_topi (fun y9 ey9 => ?_)
            obtain rfl : y9 = 4 := ey9.trans hs1_4
            refine lv_tableIn (x := 4) (off := 88) (tgt := 89) E.1 E.2.1 dX2_count_1 (by decide) (by decide) (by decide) (by decide) ?_
            refine lv_aload_n E.1 E.2.1 dX2_count_89 rfl (lv_at hl 0 rfl) ?_
            refine lv_aload_n E.1 E.2.1 dX2_count_90 rfl (lv_at hl 0 rfl) ?_
            refine xg_0_3 E hK hP in_2 w_1 dX2_count_91 ?_
            refine xg_4_4 E hK hP in_1 w_4 dX2_count_94 ?_
            refine g_VR (As := [.ref (ad 9)]) (rest := []) E hK hP (c_X2_keptIn_at9 l D cI cB ad f a ta n z c hX) (cwV 1 E.2.2.2.2 gX2_count_X2_keptIn rfl rfl rfl (by decide +kernel) ⟨Nat.le_of_ble_eq_true rfl, Nat.le_of_ble_eq_true rfl⟩) (rx hK hP) rfl hl.1 rfl (Nat.le_of_ble_eq_true rfl) dX2_count_97 ⟨Nat.zero_le _, Nat.zero_le _⟩ ?_
            exact W.iret (v := FX2_keptIn_at9 f a ta n z c) E.1 E.2.1 hr (fun t ht _ => ⟨congrArg (fun z : Int32 => Outcome.returned (some (Value.int z))) (show FX2_keptIn_at9 f a ta n z c = FX2_count f a ta n z c p0 from by rw [FX2_count, if_neg hs1_0, if_neg hs1_1, if_neg hs1_2, if_neg hs1_3, if_pos hs1_4]), ht⟩) (fun q hq => by cases hq) dX2_count_100
          · have hs1_4 := hs1_4
            by_cases hs1_5 : p0 = 5
            · have hs1_5 := hs1_5
              refine lv_topi (fun y9 ey9 => ?_)
              obtain rfl : y9 = 5 := ey9.trans hs1_5
              refine lv_tableIn (x := 5) (off := 100) (tgt := 101) E.1 E.2.1 dX2_count_1 (by decide) (by decide) (by decide) (by decide) ?_
              refine lv_aload_n E.1 E.2.1 dX2_count_101 rfl (lv_at hl 0 rfl) ?_
              refine xg_0_3 E hK hP in_2 w_1 dX2_count_102 ?_
              refine xg_4_3 E hK hP in_1 w_5 dX2_count_105 ?_
              exact W.iret (v := f 7) E.1 E.2.1 hr (fun t ht _ => ⟨congrArg (fun z : Int32 => Outcome.returned (some (Value.int z))) (show f 7 = FX2_count f a ta n z c p0 from by rw [FX2_count, if_neg hs1_0, if_neg hs1_1, if_neg hs1_2, if_neg hs1_3, if_neg hs1_4, if_pos hs1_5]), ht⟩) (fun q hq => by cases hq) dX2_count_108
            · have hs1_5 := hs1_5
              by_cases hs1_6 : p0 = 6
              · have hs1_6 := hs1_6
                refine lv_topi (fun y9 ey9 => ?_)
                obtain rfl : y9 = 6 := ey9.trans hs1_6
                refine lv_tableIn (x := 6) (off := 108) (tgt := 109) E.1 E.2.1 dX2_count_1 (by decide) (by decide) (by decide) (by decide) ?_
                refine lv_aload_n E.1 E.2.1 dX2_count_109 rfl (lv_at hl 0 rfl) ?_
                refine xg_0_3 E hK hP in_2 w_1 dX2_count_110 ?_
                refine xg_4_2 E hK hP in_1 w_6 dX2_count_113 ?_
                exact W.iret (v := f 6) E.1 E.2.1 hr (fun t ht _ => ⟨congrArg (fun z : Int32 => Outcome.returned (some (Value.int z))) (show f 6 = FX2_count f a ta n z c p0 from by rw [FX2_count, if_neg hs1_0, if_neg hs1_1, if_neg hs1_2, if_neg hs1_3, if_neg hs1_4, if_neg hs1_5, if_pos hs1_6]), ht⟩) (fun q hq => by cases hq) dX2_count_116
              · have hs1_6 := hs1_6
                by_cases hs1_7 : p0 = 7
                · have hs1_7 := hs1_7
                  refine lv_topi (fun y9 ey9 => ?_)
                  obtain rfl : y9 = 7 := ey9.trans hs1_7
                  refine lv_tableIn (x := 7) (off := 116) (tgt := 117) E.1 E.2.1 dX2_count_1 (by decide) (by decide) (by decide) (by decide) ?_
                  refine lv_aload_n E.1 E.2.1 dX2_count_117 rfl (lv_at hl 0 rfl) ?_
                  refine xg_0_3 E hK hP in_2 w_1 dX2_count_118 ?_
                  refine xg_4_12 E hK hP in_1 w_7 dX2_count_121 ?_
                  refine lv_topi (fun y_2 ey_2 => ?_)
                  obtain rfl : y_2 = nI c := ey_2.trans (hc)
                  exact W.iret (v := nI c) E.1 E.2.1 hr (fun t ht _ => ⟨congrArg (fun z : Int32 => Outcome.returned (some (Value.int z))) (show nI c = FX2_count f a ta n z c p0 from by rw [FX2_count, if_neg hs1_0, if_neg hs1_1, if_neg hs1_2, if_neg hs1_3, if_neg hs1_4, if_neg hs1_5, if_neg hs1_6, if_pos hs1_7]), ht⟩) (fun q hq => by cases hq) dX2_count_124
                · have hs1_7 := hs1_7
                  by_cases hs1_8 : p0 = 8
                  · have hs1_8 := hs1_8
                    refine lv_topi (fun y9 ey9 => ?_)
                    obtain rfl : y9 = 8 := ey9.trans hs1_8
                    refine lv_tableIn (x := 8) (off := 124) (tgt := 125) E.1 E.2.1 dX2_count_1 (by decide) (by decide) (by decide) (by decide) ?_
                    refine lv_aload_n E.1 E.2.1 dX2_count_125 rfl (lv_at hl 0 rfl) ?_
                    refine xg_0_0 E hK hP in_2 w_8 dX2_count_126 ?_
                    refine xg_1_1 E hK hP in_0 w_9 dX2_count_129 ?_
                    refine lv_topi (fun y_3 ey_3 => ?_)
                    obtain rfl : y_3 = nI z := ey_3.trans (hz)
                    exact W.iret (v := nI z) E.1 E.2.1 hr (fun t ht _ => ⟨congrArg (fun z : Int32 => Outcome.returned (some (Value.int z))) (show nI z = FX2_count f a ta n z c p0 from by rw [FX2_count, if_neg hs1_0, if_neg hs1_1, if_neg hs1_2, if_neg hs1_3, if_neg hs1_4, if_neg hs1_5, if_neg hs1_6, if_neg hs1_7, if_pos hs1_8]), ht⟩) (fun q hq => by cases hq) dX2_count_132
                  · have hs1_8 := hs1_8
                    by_cases hs1_9 : p0 = 9
                    · have hs1_9 := hs1_9
                      refine lv_topi (fun y9 ey9 => ?_)
                      obtain rfl : y9 = 9 := ey9.trans hs1_9
                      refine lv_tableIn (x := 9) (off := 132) (tgt := 133) E.1 E.2.1 dX2_count_1 (by decide) (by decide) (by decide) (by decide) ?_
                      refine lv_aload_n E.1 E.2.1 dX2_count_133 rfl (lv_at hl 0 rfl) ?_
                      refine xg_0_8 E hK hP in_2 w_10 dX2_count_134 ?_
                      exact W.iret (v := f 1) E.1 E.2.1 hr (fun t ht _ => ⟨congrArg (fun z : Int32 => Outcome.returned (some (Value.int z))) (show f 1 = FX2_count f a ta n z c p0 from by rw [FX2_count, if_neg hs1_0, if_neg hs1_1, if_neg hs1_2, if_neg hs1_3, if_neg hs1_4, if_neg hs1_5, if_neg hs1_6, if_neg hs1_7, if_neg hs1_8, if_pos hs1_9]), ht⟩) (fun q hq => by cases hq) dX2_count_137
                    · have hs1_9 := hs1_9
                      refine lv_tableOut (x := p0) (tgt := 138) E.1 E.2.1 dX2_count_1 (by have q0 := lv_neT hs1_0 (a := 0) (by decide); have q1 := lv_neT hs1_1 (a := 1) (by decide); have q2 := lv_neT hs1_2 (a := 2) (by decide); have q3 := lv_neT hs1_3 (a := 3) (by decide); have q4 := lv_neT hs1_4 (a := 4) (by decide); have q5 := lv_neT hs1_5 (a := 5) (by decide); have q6 := lv_neT hs1_6 (a := 6) (by decide); have q7 := lv_neT hs1_7 (a := 7) (by decide); have q8 := lv_neT hs1_8 (a := 8) (by decide); have q9 := lv_neT hs1_9 (a := 9) (by decide); omega) (by decide) ?_
                      refine lv_bipush (v := (-102)) E.1 E.2.1 dX2_count_138 (by decide) ?_
                      exact W.iret (v := (-102)) E.1 E.2.1 hr (fun t ht _ => ⟨congrArg (fun z : Int32 => Outcome.returned (some (Value.int z))) (show (-102) = FX2_count f a ta n z c p0 from by rw [FX2_count, if_neg hs1_0, if_neg hs1_1, if_neg hs1_2, if_neg hs1_3, if_neg hs1_4, if_neg hs1_5, if_neg hs1_6, if_neg hs1_7, if_neg hs1_8, if_neg hs1_9]), ht⟩) (fun q hq => by cases hq) dX2_count_140
def FX0_codeAt (f : Nat → Int32) (a : Nat → Nat → Int32) (ta : Nat → Nat → Int32) (n : Nat) (z : Nat) (c : Nat) (p0 : Int32) : Int32 := (if p0 < 0 then 0 else (if 21 ≤ p0 then 0 else a 8 p0.toNatClampNeg))
set_option maxHeartbeats 4000000 in
set_option maxRecDepth 100000 in
/-- a letter of the page -/
theorem c_X0_codeAt (l : Launch) (D : va_G) (cI cB : ClassId) (ad : Nat → Nat) (f : Nat → Int32) (a ta : Nat → Nat → Int32) (n z c : Nat) (hX : IX n z c f) (p0 : Int32) : Met l yX0_codeAt wsX0_codeAt ({ frames := 0, cells := 0, slots := 0, locals := 0 }) (GPc D cI cB (wX cI ad f a ta) [.ref (ad 1), .int p0]) (QcRead (FX0_codeAt f a ta n z c p0)) 0 0 (fun _ => False) := by
  refine Met.ofW (cc := cX0_codeAt) (maxL := 2) (ret := (some .int)) (by decide) rfl ?_
  intro p e s m args below meth cd s₁ B hml hv
  obtain ⟨rfl, hP, hK⟩ := hv
  have hts := atoms_spec (ws := wsX0_codeAt) B.pre
  have E : CallFix p m cd cX0_codeAt 2 s _ wsX0_codeAt RX0 := ⟨B.exec, B.bytes, hml, findClass_of_methodNamed B.named, hts⟩
  have hr := B.returns
  have hlocks := B.notSynchronized
  have h2n := pow6 (n := n) (by have := hX.2.1; omega)
  obtain ⟨hn, hn6, hz, hz21, hc, hc6⟩ := id hX
  have in_0 : ∀ w ∈ wsX00, w ∈ wsX0_codeAt := fun _ h => List.mem_cons_of_mem _ (List.mem_append_right _ h)
  have w_0 : (Cond.fieldLink RX0 9 "SnowTerm$Page" "codes" "[I").before _ s = true := hts _ (by decide +kernel)
  have hl := lv_entry ([.ref (ad 1), .int p0]) (n := 2) (Nat.le_of_ble_eq_true rfl)
  rw [lg_entry_eq]
  generalize (lg_sl ([.ref (ad 1), .int p0]) ++ List.replicate (2 - (lg_sl ([.ref (ad 1), .int p0])).length) Slot.unset).toArray = ls at hl ⊢
  have hl : lv_has ls 2 [(0, .ref (ad 1)), (1, .int p0)] := hl
  refine lv_iload_n E.1 E.2.1 dX0_codeAt_0 rfl (lv_at hl 1 rfl) ?_
  refine lv_if_lt (x := p0) (tgt := 22) E.1 E.2.1 dX0_codeAt_1 (by decide) (fun h1 => ?_) (fun h1 => ?_)
  · have h1 := h1
    refine lv_iconst (v := 0) E.1 E.2.1 dX0_codeAt_22 (by decide) ?_
    exact W.iret (v := 0) E.1 E.2.1 hr (fun t ht _ => ⟨congrArg (fun z : Int32 => Outcome.returned (some (Value.int z))) (show 0 = FX0_codeAt f a ta n z c p0 from by rw [FX0_codeAt, if_pos h1]), ht⟩) (fun q hq => by cases hq) dX0_codeAt_23
  · have h1 := h1
    refine lv_iload_n E.1 E.2.1 dX0_codeAt_4 rfl (lv_at hl 1 rfl) ?_
    refine lv_aload_n E.1 E.2.1 dX0_codeAt_5 rfl (lv_at hl 0 rfl) ?_
    refine xg_1_0 E hK hP in_0 w_0 dX0_codeAt_6 ?_
    refine xn_8 E hK hP dX0_codeAt_9 ?_
    refine lv_icmp_ge (x := p0) (y := 21) (tgt := 22) E.1 E.2.1 dX0_codeAt_10 (by decide) (fun h10 => ?_) (fun h10 => ?_)
    · have h10 := h10
      refine lv_iconst (v := 0) E.1 E.2.1 dX0_codeAt_22 (by decide) ?_
      exact W.iret (v := 0) E.1 E.2.1 hr (fun t ht _ => ⟨congrArg (fun z : Int32 => Outcome.returned (some (Value.int z))) (show 0 = FX0_codeAt f a ta n z c p0 from by rw [FX0_codeAt, if_neg h1, if_pos h10]), ht⟩) (fun q hq => by cases hq) dX0_codeAt_23
    · have h10 := h10
      refine lv_aload_n E.1 E.2.1 dX0_codeAt_13 rfl (lv_at hl 0 rfl) ?_
      refine xg_1_0 E hK hP in_0 w_0 dX0_codeAt_14 ?_
      refine lv_iload_n E.1 E.2.1 dX0_codeAt_17 rfl (lv_at hl 1 rfl) ?_
      refine xl_8 (i := p0) E hK hP (in_lt (n := 21) (N := 21) h1 h10 (Nat.le_refl _) (by omega)) dX0_codeAt_18 ?_
      refine lv_goto (tgt := 23) E.1 E.2.1 dX0_codeAt_19 (by decide) ?_
      exact W.iret (v := a 8 p0.toNatClampNeg) E.1 E.2.1 hr (fun t ht _ => ⟨congrArg (fun z : Int32 => Outcome.returned (some (Value.int z))) (show a 8 p0.toNatClampNeg = FX0_codeAt f a ta n z c p0 from by rw [FX0_codeAt, if_neg h1, if_neg h10]), ht⟩) (fun q hq => by cases hq) dX0_codeAt_23
