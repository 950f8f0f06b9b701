def FX3_within (p0 : Int32) (p1 : Int32) (p2 : Int32) : Int32 := (if p0 < p1 then 0 else (if p2 < p0 then 0 else 1))
set_option maxHeartbeats 4000000 in
set_option maxRecDepth 100000 in
/-- within -/
theorem c_X3_within (l : Launch) (D : va_G) (cI cB : ClassId)  (p0 : Int32) (p1 : Int32) (p2 : Int32) : Met l yX3_within wsX3_within ({ frames := 0, cells := 0, slots := 0, locals := 0 }) (GPc D cI cB ([]) [.int p0, .int p1, .int p2]) (QcRead (FX3_within p0 p1 p2)) 0 0 (fun _ => False) := by
  refine Met.ofW (cc := cX3_within) (maxL := 3) (ret := (some .boolean)) (by decide) rfl ?_
  intro p e s m args below meth cd s₁ B hml hv
  obtain ⟨rfl, hP, hK⟩ := hv
  have hts := atoms_spec (ws := wsX3_within) B.pre
  have E : CallFix p m cd cX3_within 3 s _ wsX3_within RX3 := ⟨B.exec, B.bytes, hml, findClass_of_methodNamed B.named, hts⟩
  have hr := B.returns
  have hlocks := B.notSynchronized
  have hl := lv_entry ([.int p0, .int p1, .int p2]) (n := 3) (Nat.le_of_ble_eq_true rfl)
  rw [lg_entry_eq]
  generalize (lg_sl ([.int p0, .int p1, .int p2]) ++ List.replicate (3 - (lg_sl ([.int p0, .int p1, .int p2])).length) Slot.unset).toArray = ls at hl ⊢
  have hl : lv_has ls 3 [(0, .int p0), (1, .int p1), (2, .int p2)] := hl
  refine lv_iload_n E.1 E.2.1 dX3_within_0 rfl (lv_at hl 0 rfl) ?_
  refine lv_iload_n E.1 E.2.1 dX3_within_1 rfl (lv_at hl 1 rfl) ?_
  refine lv_icmp_lt (x := p0) (y := p1) (tgt := 14) E.1 E.2.1 dX3_within_2 (by decide) (fun h2 => ?_) (fun h2 => ?_)
  · have h2 := h2
    refine lv_iconst (v := 0) E.1 E.2.1 dX3_within_14 (by decide) ?_
    exact W.zret (v := 0) E.1 E.2.1 hr rfl (fun t ht _ => ⟨congrArg (fun z : Int32 => Outcome.returned (some (Value.int z))) (show 0 = FX3_within p0 p1 p2 from by rw [FX3_within, if_pos h2]), ht⟩) (fun q hq => by cases hq) dX3_within_15
  · have h2 := h2
    refine lv_iload_n E.1 E.2.1 dX3_within_5 rfl (lv_at hl 0 rfl) ?_
    refine lv_iload_n E.1 E.2.1 dX3_within_6 rfl (lv_at hl 2 rfl) ?_
    refine lv_icmp_gt (x := p0) (y := p2) (tgt := 14) E.1 E.2.1 dX3_within_7 (by decide) (fun h7 => ?_) (fun h7 => ?_)
    · have h7 := h7
      refine lv_iconst (v := 0) E.1 E.2.1 dX3_within_14 (by decide) ?_
      exact W.zret (v := 0) E.1 E.2.1 hr rfl (fun t ht _ => ⟨congrArg (fun z : Int32 => Outcome.returned (some (Value.int z))) (show 0 = FX3_within p0 p1 p2 from by rw [FX3_within, if_neg h2, if_pos h7]), ht⟩) (fun q hq => by cases hq) dX3_within_15
    · have h7 := h7
      refine lv_iconst (v := 1) E.1 E.2.1 dX3_within_10 (by decide) ?_
      refine lv_goto (tgt := 15) E.1 E.2.1 dX3_within_11 (by decide) ?_
      exact W.zret (v := 1) E.1 E.2.1 hr rfl (fun t ht _ => ⟨congrArg (fun z : Int32 => Outcome.returned (some (Value.int z))) (show 1 = FX3_within p0 p1 p2 from by rw [FX3_within, if_neg h2, if_neg h7]), ht⟩) (fun q hq => by cases hq) dX3_within_15
def FX3_isIn (p0 : Int32) (p1 : Int32) : Int32 := (if (p0 >>> (p1 &&& 31)) &&& 1 = 1 then 1 else 0)
set_option maxHeartbeats 4000000 in
set_option maxRecDepth 100000 in
/-- a bit -/
theorem c_X3_isIn (l : Launch) (D : va_G) (cI cB : ClassId)  (p0 : Int32) (p1 : Int32) : Met l yX3_isIn wsX3_isIn ({ frames := 0, cells := 0, slots := 0, locals := 0 }) (GPc D cI cB ([]) [.int p0, .int p1]) (QcRead (FX3_isIn p0 p1)) 0 0 (fun _ => False) := by
  refine Met.ofW (cc := cX3_isIn) (maxL := 2) (ret := (some .boolean)) (by decide) rfl ?_
  intro p e s m args below meth cd s₁ B hml hv
  obtain ⟨rfl, hP, hK⟩ := hv
  have hts := atoms_spec (ws := wsX3_isIn) B.pre
  have E : CallFix p m cd cX3_isIn 2 s _ wsX3_isIn RX3 := ⟨B.exec, B.bytes, hml, findClass_of_methodNamed B.named, hts⟩
  have hr := B.returns
  have hlocks := B.notSynchronized
  have hl := lv_entry ([.int p0, .int p1]) (n := 2) (Nat.le_of_ble_eq_true rfl)
  rw [lg_entry_eq]
  generalize (lg_sl ([.int p0, .int p1]) ++ List.replicate (2 - (lg_sl ([.int p0, .int p1])).length) Slot.unset).toArray = ls at hl ⊢
  have hl : lv_has ls 2 [(0, .int p0), (1, .int p1)] := hl
  refine lv_iload_n E.1 E.2.1 dX3_isIn_0 rfl (lv_at hl 0 rfl) ?_
  refine lv_iload_n E.1 E.2.1 dX3_isIn_1 rfl (lv_at hl 1 rfl) ?_
  refine lv_ishr (x := p0) (y := p1) E.1 E.2.1 dX3_isIn_2 ?_
  refine lv_iconst (v := 1) E.1 E.2.1 dX3_isIn_3 (by decide) ?_
  refine lv_iand (x := p0 >>> (p1 &&& 31)) (y := 1) E.1 E.2.1 dX3_isIn_4 ?_
  refine lv_iconst (v := 1) E.1 E.2.1 dX3_isIn_5 (by decide) ?_
  refine lv_icmp_ne (x := (p0 >>> (p1 &&& 31)) &&& 1) (y := 1) (tgt := 13) E.1 E.2.1 dX3_isIn_6 (by decide) (fun h6 => ?_) (fun h6 => ?_)
  · have h6 := h6
    refine lv_iconst (v := 0) E.1 E.2.1 dX3_isIn_13 (by decide) ?_
    exact W.zret (v := 0) E.1 E.2.1 hr rfl (fun t ht _ => ⟨congrArg (fun z : Int32 => Outcome.returned (some (Value.int z))) (show 0 = FX3_isIn p0 p1 from by rw [FX3_isIn, if_neg h6]), ht⟩) (fun q hq => by cases hq) dX3_isIn_14
  · have h6 := h6
    refine lv_iconst (v := 1) E.1 E.2.1 dX3_isIn_9 (by decide) ?_
    refine lv_goto (tgt := 14) E.1 E.2.1 dX3_isIn_10 (by decide) ?_
    exact W.zret (v := 1) E.1 E.2.1 hr rfl (fun t ht _ => ⟨congrArg (fun z : Int32 => Outcome.returned (some (Value.int z))) (show 1 = FX3_isIn p0 p1 from by rw [FX3_isIn, if_pos h6]), ht⟩) (fun q hq => by cases hq) dX3_isIn_14
def FX3_size_L4 (p0 : Int32) : Nat → Nat → Int32 → Int32
  | 0, k_2, x1_1 => x1_1
  | d_1 + 1, k_2, x1_1 => FX3_size_L4 p0 d_1 (k_2 + 1) (x1_1 + ((p0 >>> ((nI k_2) &&& 31)) &&& 1))
def FX3_size (p0 : Int32) : Int32 := FX3_size_L4 p0 10 0 0
set_option maxHeartbeats 4000000 in
set_option maxRecDepth 100000 in
/-- how many bits -/
theorem c_X3_size (l : Launch) (D : va_G) (cI cB : ClassId)  (p0 : Int32) : Met l yX3_size wsX3_size ({ frames := 0, cells := 0, slots := 0, locals := 0 }) (GPc D cI cB ([]) [.int p0]) (QcRead (FX3_size p0)) 0 0 (fun _ => False) := by
  refine Met.ofW (cc := cX3_size) (maxL := 3) (ret := (some .int)) (by decide) rfl ?_
  intro p e s m args below meth cd s₁ B hml hv
  obtain ⟨rfl, hP, hK⟩ := hv
  have hts := atoms_spec (ws := wsX3_size) B.pre
  have E : CallFix p m cd cX3_size 3 s _ wsX3_size RX3 := ⟨B.exec, B.bytes, hml, findClass_of_methodNamed B.named, hts⟩
  have hr := B.returns
  have hlocks := B.notSynchronized
  have hl := lv_entry ([.int p0]) (n := 3) (Nat.le_of_ble_eq_true rfl)
  rw [lg_entry_eq]
  generalize (lg_sl ([.int p0]) ++ List.replicate (3 - (lg_sl ([.int p0])).length) Slot.unset).toArray = ls at hl ⊢
  have hl : lv_has ls 3 [(0, .int p0)] := hl
  refine lv_iconst (v := 0) E.1 E.2.1 dX3_size_0 (by decide) ?_
  refine lv_istore_n (lv' := [(1, .int 0), (0, .int p0)]) E.1 E.2.1 dX3_size_1 rfl hl (by decide) rfl (fun ls hl => ?_)
  refine lv_iconst (v := 0) E.1 E.2.1 dX3_size_2 (by decide) ?_
  refine lv_istore_n (lv' := [(2, .int 0), (1, .int 0), (0, .int p0)]) E.1 E.2.1 dX3_size_3 rfl hl (by decide) rfl (fun ls hl => ?_)
  have loop1 : ∀ (d_1 k_2 : Nat) (x1_1 : Int32) (ls : Array Slot), k_2 + d_1 = 10 → lv_has ls 3 [(2, .int (nI k_2)), (1, .int x1_1), (0, .int p0)] → W p l e (headSpec wsX3_size { frames := 0, cells := 0, slots := 0, locals := 0 }).room s m ([.int p0] : List Value).toArray below meth cd s.heap [] 0 0 (MQ below (QcRead (FX3_size_L4 p0 d_1 k_2 x1_1)) ([.int p0] : List Value).toArray s 0 0 (fun _ => False)) (F0 m 4 ls []) := by
    intro d_1
    induction d_1 with
    | zero =>
      intro k_2 x1_1 ls hk1 hl
      refine lv_iload_n E.1 E.2.1 dX3_size_4 rfl (lv_at hl 0 rfl) ?_
      refine lv_bipush (v := 10) E.1 E.2.1 dX3_size_5 (by decide) ?_
      refine lv_icmp_ge (x := nI k_2) (y := 10) (tgt := 24) E.1 E.2.1 dX3_size_7 (by decide) (fun _ => ?_) (fun h9 => absurd (nI_le (a := 10) (b := k_2) (by omega) (by omega)) h9)
      refine lv_iload_n E.1 E.2.1 dX3_size_24 rfl (lv_at hl 1 rfl) ?_
      exact W.iret (v := x1_1) E.1 E.2.1 hr (fun t ht _ => ⟨congrArg (fun z : Int32 => Outcome.returned (some (Value.int z))) (show x1_1 = FX3_size_L4 p0 0 k_2 x1_1 from by rw [FX3_size_L4]), ht⟩) (fun q hq => by cases hq) dX3_size_25
    | succ d_1 ih1 =>
      intro k_2 x1_1 ls hk1 hl
      refine lv_iload_n E.1 E.2.1 dX3_size_4 rfl (lv_at hl 0 rfl) ?_
      refine lv_bipush (v := 10) E.1 E.2.1 dX3_size_5 (by decide) ?_
      refine lv_icmp_ge (x := nI k_2) (y := 10) (tgt := 24) E.1 E.2.1 dX3_size_7 (by decide) (fun h9 => absurd h9 (nI_ge (a := k_2) (b := 10) (by omega) (by omega))) (fun _ => ?_)
      refine lv_iload_n E.1 E.2.1 dX3_size_10 rfl (lv_at hl 1 rfl) ?_
      refine lv_iload_n E.1 E.2.1 dX3_size_11 rfl (lv_at hl 2 rfl) ?_
      refine lv_iload_n E.1 E.2.1 dX3_size_12 rfl (lv_at hl 0 rfl) ?_
      refine lv_ishr (x := p0) (y := nI k_2) E.1 E.2.1 dX3_size_13 ?_
      refine lv_iconst (v := 1) E.1 E.2.1 dX3_size_14 (by decide) ?_
      refine lv_iand (x := p0 >>> ((nI k_2) &&& 31)) (y := 1) E.1 E.2.1 dX3_size_15 ?_
      refine lv_iadd (x := x1_1) (y := (p0 >>> ((nI k_2) &&& 31)) &&& 1) E.1 E.2.1 dX3_size_16 ?_
      refine lv_istore_n (lv' := [(1, .int (x1_1 + ((p0 >>> ((nI k_2) &&& 31)) &&& 1))), (2, .int (nI k_2)), (0, .int p0)]) E.1 E.2.1 dX3_size_17 rfl hl (by decide) rfl (fun ls hl => ?_)
      refine lv_iinc (v := nI (k_2 + 1)) (k := 1) (lv' := [(2, .int (nI (k_2 + 1))), (1, .int (x1_1 + ((p0 >>> ((nI k_2) &&& 31)) &&& 1))), (0, .int p0)]) E.1 E.2.1 dX3_size_18 hl rfl (nI_1 k_2) (by decide) rfl (fun ls hl => ?_)
      refine lv_goto (tgt := 4) E.1 E.2.1 dX3_size_21 (by decide) ?_
      rw [show FX3_size_L4 p0 (d_1 + 1) k_2 x1_1 = FX3_size_L4 p0 d_1 (k_2 + 1) (x1_1 + ((p0 >>> ((nI k_2) &&& 31)) &&& 1)) from by rw [FX3_size_L4]]
      exact ih1 (k_2 + 1) (x1_1 + ((p0 >>> ((nI k_2) &&& 31)) &&& 1)) ls (by omega) (lv_sub hl [0, 1, 2] rfl)
  rw [show FX3_size p0 = FX3_size_L4 p0 10 0 0 from by rw [FX3_size]]
  have hl : lv_has ls 3 [(2, .int (nI 0)), (1, .int 0), (0, .int p0)] := lv_sub hl [0, 1, 2] rfl
  exact loop1 _ _ 0 ls (by omega) (lv_sub hl [0, 1, 2] rfl)
def FX3_atMost (p0 : Int32) : Int32 := (if p0 ≤ 30 then p0 else 30)
set_option maxHeartbeats 4000000 in
set_option maxRecDepth 100000 in
/-- at most 30 -/
theorem c_X3_atMost (l : Launch) (D : va_G) (cI cB : ClassId)  (p0 : Int32) : Met l yX3_atMost wsX3_atMost ({ frames := 0, cells := 0, slots := 0, locals := 0 }) (GPc D cI cB ([]) [.int p0]) (QcRead (FX3_atMost p0)) 0 0 (fun _ => False) := by
  refine Met.ofW (cc := cX3_atMost) (maxL := 1) (ret := (some .int)) (by decide) rfl ?_
  intro p e s m args below meth cd s₁ B hml hv
  obtain ⟨rfl, hP, hK⟩ := hv
  have hts := atoms_spec (ws := wsX3_atMost) B.pre
  have E : CallFix p m cd cX3_atMost 1 s _ wsX3_atMost RX3 := ⟨B.exec, B.bytes, hml, findClass_of_methodNamed B.named, hts⟩
  have hr := B.returns
  have hlocks := B.notSynchronized
  have hl := lv_entry ([.int p0]) (n := 1) (Nat.le_of_ble_eq_true rfl)
  rw [lg_entry_eq]
  generalize (lg_sl ([.int p0]) ++ List.replicate (1 - (lg_sl ([.int p0])).length) Slot.unset).toArray = ls at hl ⊢
  have hl : lv_has ls 1 [(0, .int p0)] := hl
  refine lv_iload_n E.1 E.2.1 dX3_atMost_0 rfl (lv_at hl 0 rfl) ?_
  refine lv_bipush (v := 30) E.1 E.2.1 dX3_atMost_1 (by decide) ?_
  refine lv_icmp_le (x := p0) (y := 30) (tgt := 11) E.1 E.2.1 dX3_atMost_3 (by decide) (fun h3 => ?_) (fun h3 => ?_)
  · have h3 := h3
    refine lv_iload_n E.1 E.2.1 dX3_atMost_11 rfl (lv_at hl 0 rfl) ?_
    exact W.iret (v := p0) E.1 E.2.1 hr (fun t ht _ => ⟨congrArg (fun z : Int32 => Outcome.returned (some (Value.int z))) (show p0 = FX3_atMost p0 from by rw [FX3_atMost, if_pos h3]), ht⟩) (fun q hq => by cases hq) dX3_atMost_12
  · have h3 := h3
    refine lv_bipush (v := 30) E.1 E.2.1 dX3_atMost_6 (by decide) ?_
    refine lv_goto (tgt := 12) E.1 E.2.1 dX3_atMost_8 (by decide) ?_
    exact W.iret (v := 30) E.1 E.2.1 hr (fun t ht _ => ⟨congrArg (fun z : Int32 => Outcome.returned (some (Value.int z))) (show 30 = FX3_atMost p0 from by rw [FX3_atMost, if_neg h3]), ht⟩) (fun q hq => by cases hq) dX3_atMost_12
def FX3_notBelow (p0 : Int32) : Int32 := (if 0 ≤ p0 then p0 else 0)
set_option maxHeartbeats 4000000 in
set_option maxRecDepth 100000 in
/-- not below 0 -/
theorem c_X3_notBelow (l : Launch) (D : va_G) (cI cB : ClassId)  (p0 : Int32) : Met l yX3_notBelow wsX3_notBelow ({ frames := 0, cells := 0, slots := 0, locals := 0 }) (GPc D cI cB ([]) [.int p0]) (QcRead (FX3_notBelow p0)) 0 0 (fun _ => False) := by
  refine Met.ofW (cc := cX3_notBelow) (maxL := 1) (ret := (some .int)) (by decide) rfl ?_
  intro p e s m args below meth cd s₁ B hml hv
  obtain ⟨rfl, hP, hK⟩ := hv
  have hts := atoms_spec (ws := wsX3_notBelow) B.pre
  have E : CallFix p m cd cX3_notBelow 1 s _ wsX3_notBelow RX3 := ⟨B.exec, B.bytes, hml, findClass_of_methodNamed B.named, hts⟩
  have hr := B.returns
  have hlocks := B.notSynchronized
  have hl := lv_entry ([.int p0]) (n := 1) (Nat.le_of_ble_eq_true rfl)
  rw [lg_entry_eq]
  generalize (lg_sl ([.int p0]) ++ List.replicate (1 - (lg_sl ([.int p0])).length) Slot.unset).toArray = ls at hl ⊢
  have hl : lv_has ls 1 [(0, .int p0)] := hl
  refine lv_iload_n E.1 E.2.1 dX3_notBelow_0 rfl (lv_at hl 0 rfl) ?_
  refine lv_if_ge (x := p0) (tgt := 8) E.1 E.2.1 dX3_notBelow_1 (by decide) (fun h1 => ?_) (fun h1 => ?_)
  · have h1 := h1
    refine lv_iload_n E.1 E.2.1 dX3_notBelow_8 rfl (lv_at hl 0 rfl) ?_
    exact W.iret (v := p0) E.1 E.2.1 hr (fun t ht _ => ⟨congrArg (fun z : Int32 => Outcome.returned (some (Value.int z))) (show p0 = FX3_notBelow p0 from by rw [FX3_notBelow, if_pos h1]), ht⟩) (fun q hq => by cases hq) dX3_notBelow_9
  · have h1 := h1
    refine lv_iconst (v := 0) E.1 E.2.1 dX3_notBelow_4 (by decide) ?_
    refine lv_goto (tgt := 9) E.1 E.2.1 dX3_notBelow_5 (by decide) ?_
    exact W.iret (v := 0) E.1 E.2.1 hr (fun t ht _ => ⟨congrArg (fun z : Int32 => Outcome.returned (some (Value.int z))) (show 0 = FX3_notBelow p0 from by rw [FX3_notBelow, if_neg h1]), ht⟩) (fun q hq => by cases hq) dX3_notBelow_9
def FX3_kindBy (p0 : Int32) : Int32 := (if p0 = 98 then 3 else (if p0 = 103 then 2 else (if p0 = 115 then 0 else (if p0 = 116 then 4 else (if p0 = 121 then 1 else (-1))))))
set_option maxHeartbeats 4000000 in
set_option maxRecDepth 100000 in
/-- a kind by its letter -/
theorem c_X3_kindBy (l : Launch) (D : va_G) (cI cB : ClassId)  (p0 : Int32) : Met l yX3_kindBy wsX3_kindBy ({ frames := 0, cells := 0, slots := 0, locals := 0 }) (GPc D cI cB ([]) [.int p0]) (QcRead (FX3_kindBy p0)) 0 0 (fun _ => False) := by
  refine Met.ofW (cc := cX3_kindBy) (maxL := 1) (ret := (some .int)) (by decide) rfl ?_
  intro p e s m args below meth cd s₁ B hml hv
  obtain ⟨rfl, hP, hK⟩ := hv
  have hts := atoms_spec (ws := wsX3_kindBy) B.pre
  have E : CallFix p m cd cX3_kindBy 1 s _ wsX3_kindBy RX3 := ⟨B.exec, B.bytes, hml, findClass_of_methodNamed B.named, hts⟩
  have hr := B.returns
  have hlocks := B.notSynchronized
  have hl := lv_entry ([.int p0]) (n := 1) (Nat.le_of_ble_eq_true rfl)
  rw [lg_entry_eq]
  generalize (lg_sl ([.int p0]) ++ List.replicate (1 - (lg_sl ([.int p0])).length) Slot.unset).toArray = ls at hl ⊢
  have hl : lv_has ls 1 [(0, .int p0)] := hl
  refine lv_iload_n E.1 E.2.1 dX3_kindBy_0 rfl (lv_at hl 0 rfl) ?_
  by_cases hs1_98 : p0 = 98
  · have hs1_98 := hs1_98
    refine lv_topi (fun y9 ey9 => ?_)
    obtain rfl : y9 = 98 := ey9.trans hs1_98
    refine lv_lookup (x := 98) (tgt := 58) E.1 E.2.1 dX3_kindBy_1 (by decide) rfl (by decide) ?_
    refine lv_iconst (v := 3) E.1 E.2.1 dX3_kindBy_58 (by decide) ?_
    exact W.iret (v := 3) E.1 E.2.1 hr (fun t ht _ => ⟨congrArg (fun z : Int32 => Outcome.returned (some (Value.int z))) (show 3 = FX3_kindBy p0 from by rw [FX3_kindBy, if_pos hs1_98]), ht⟩) (fun q hq => by cases hq) dX3_kindBy_59
  · have hs1_98 := hs1_98
    by_cases hs1_103 : p0 = 103
    · have hs1_103 := hs1_103
      refine lv_topi (fun y9 ey9 => ?_)
      obtain rfl : y9 = 103 := ey9.trans hs1_103
      refine lv_lookup (x := 103) (tgt := 56) E.1 E.2.1 dX3_kindBy_1 (by decide) rfl (by decide) ?_
      refine lv_iconst (v := 2) E.1 E.2.1 dX3_kindBy_56 (by decide) ?_
      exact W.iret (v := 2) E.1 E.2.1 hr (fun t ht _ => ⟨congrArg (fun z : Int32 => Outcome.returned (some (Value.int z))) (show 2 = FX3_kindBy p0 from by rw [FX3_kindBy, if_neg hs1_98, if_pos hs1_103]), ht⟩) (fun q hq => by cases hq) dX3_kindBy_57
    · have hs1_103 := hs1_103
      by_cases hs1_115 : p0 = 115
      · have hs1_115 := hs1_115
        refine lv_topi (fun y9 ey9 => ?_)
        obtain rfl : y9 = 115 := ey9.trans hs1_115
        refine lv_lookup (x := 115) (tgt := 52) E.1 E.2.1 dX3_kindBy_1 (by decide) rfl (by decide) ?_
        refine lv_iconst (v := 0) E.1 E.2.1 dX3_kindBy_52 (by decide) ?_
        exact W.iret (v := 0) E.1 E.2.1 hr (fun t ht _ => ⟨congrArg (fun z : Int32 => Outcome.returned (some (Value.int z))) (show 0 = FX3_kindBy p0 from by rw [FX3_kindBy, if_neg hs1_98, if_neg hs1_103, if_pos hs1_115]), ht⟩) (fun q hq => by cases hq) dX3_kindBy_53
      · have hs1_115 := hs1_115
        by_cases hs1_116 : p0 = 116
        · have hs1_116 := hs1_116
          refine lv_topi (fun y9 ey9 => ?_)
          obtain rfl : y9 = 116 := ey9.trans hs1_116
          refine lv_lookup (x := 116) (tgt := 60) E.1 E.2.1 dX3_kindBy_1 (by decide) rfl (by decide) ?_
          refine lv_iconst (v := 4) E.1 E.2.1 dX3_kindBy_60 (by decide) ?_
          exact W.iret (v := 4) E.1 E.2.1 hr (fun t ht _ => ⟨congrArg (fun z : Int32 => Outcome.returned (some (Value.int z))) (show 4 = FX3_kindBy p0 from by rw [FX3_kindBy, if_neg hs1_98, if_neg hs1_103, if_neg hs1_115, if_pos hs1_116]), ht⟩) (fun q hq => by cases hq) dX3_kindBy_61
        · have hs1_116 := hs1_116
          by_cases hs1_121 : p0 = 121
          · have hs1_121 := hs1_121
            refine lv_topi (fun y9 ey9 => ?_)
            obtain rfl : y9 = 121 := ey9.trans hs1_121
            refine lv_lookup (x := 121) (tgt := 54) E.1 E.2.1 dX3_kindBy_1 (by decide) rfl (by decide) ?_
            refine lv_iconst (v := 1) E.1 E.2.1 dX3_kindBy_54 (by decide) ?_
            exact W.iret (v := 1) E.1 E.2.1 hr (fun t ht _ => ⟨congrArg (fun z : Int32 => Outcome.returned (some (Value.int z))) (show 1 = FX3_kindBy p0 from by rw [FX3_kindBy, if_neg hs1_98, if_neg hs1_103, if_neg hs1_115, if_neg hs1_116, if_pos hs1_121]), ht⟩) (fun q hq => by cases hq) dX3_kindBy_55
          · have hs1_121 := hs1_121
            refine lv_lookup (x := p0) (off := 61) (tgt := 62) E.1 E.2.1 dX3_kindBy_1 (by decide) ((lv_osw hs1_98 (by decide)).trans ((lv_osw hs1_103 (by decide)).trans ((lv_osw hs1_115 (by decide)).trans ((lv_osw hs1_116 (by decide)).trans ((lv_osw hs1_121 (by decide)).trans (rfl)))))) (by decide) ?_
            refine lv_iconst (v := (-1)) E.1 E.2.1 dX3_kindBy_62 (by decide) ?_
            exact W.iret (v := (-1)) E.1 E.2.1 hr (fun t ht _ => ⟨congrArg (fun z : Int32 => Outcome.returned (some (Value.int z))) (show (-1) = FX3_kindBy p0 from by rw [FX3_kindBy, if_neg hs1_98, if_neg hs1_103, if_neg hs1_115, if_neg hs1_116, if_neg hs1_121]), ht⟩) (fun q hq => by cases hq) dX3_kindBy_63
theorem nar_b {x : Int32} (h : x = 0 ∨ x = 1) : narrow .boolean (.int x) = .int x := by
  rcases h with rfl | rfl <;> rfl
theorem within_b (x lo hi : Int32) : FX3_within x lo hi = 0 ∨ FX3_within x lo hi = 1 := by
  rw [FX3_within]
  by_cases h1 : x < lo
  · rw [if_pos h1]; exact Or.inl rfl
  · rw [if_neg h1]
    by_cases h2 : hi < x
    · rw [if_pos h2]; exact Or.inl rfl
    · rw [if_neg h2]; exact Or.inr rfl
theorem within_t {x lo hi : Int32} (h : ¬ FX3_within x lo hi = 0) : ¬ x < lo ∧ ¬ hi < x := by
  rw [FX3_within] at h
  by_cases h1 : x < lo
  · rw [if_pos h1] at h; exact absurd rfl h
  · rw [if_neg h1] at h
    by_cases h2 : hi < x
    · rw [if_pos h2] at h; exact absurd rfl h
    · exact ⟨h1, h2⟩
theorem cl_lt (x : Int32) : x.toNatClampNeg < 2 ^ 31 := by
  by_cases h : x < 0
  · have h1 : x.toInt < 0 := by
      have := Int32.lt_iff_toInt_lt.mp h
      have e0 : (0 : Int32).toInt = 0 := by decide
      omega
    show x.toInt.toNat < 2 ^ 31
    omega
  · obtain ⟨j, hj, rfl⟩ := nI_of h
    rw [nI_clamp hj]
    exact hj

def FX3_isSite (g : Nat → Int32) (b : Nat → Nat → Int32) (tb : Nat → Nat → Int32) (n : Nat) (z : Nat) (c : Nat) (p0 : Int32) : Int32 := FX3_within p0 0 ((nI n) - 1)
set_option maxHeartbeats 4000000 in
set_option maxRecDepth 100000 in
/-- is it a site -/
theorem c_X3_isSite (l : Launch) (D : va_G) (cI cB : ClassId) (ad : Nat → Nat) (g t : Nat → Int32) (gl : Nat → Int64) (b tb : Nat → Nat → Int32) (n z c : Nat) (hM : IM n z c g b) (p0 : Int32) : Met l yX3_isSite wsX3_isSite ({ frames := 1, cells := 0, slots := 0, locals := 22 }) (GPc D cI cB (wM cI cB ad g t gl b tb) [.ref (ad 0), .int p0]) (QcRead (FX3_isSite g b tb n z c p0)) 0 0 (fun _ => False) := by
  refine Met.ofW (cc := cX3_isSite) (maxL := 2) (ret := (some .boolean)) (by decide) rfl ?_
  intro p e s m args below meth cd s₁ B hml hv
  obtain ⟨rfl, hP, hK⟩ := hv
  have hts := atoms_spec (ws := wsX3_isSite) B.pre
  have E : CallFix p m cd cX3_isSite 2 s _ wsX3_isSite RX3 := ⟨B.exec, B.bytes, hml, findClass_of_methodNamed B.named, hts⟩
  have hr := B.returns
  have hlocks := B.notSynchronized
  have h2n := pow6 (n := n) (by have := hM.2.1; omega)
  obtain ⟨hn, hn6, hz, hz21, hc, hc6, hfs⟩ := id hM
  have in_3 : ∀ w ∈ wsX30, w ∈ wsX3_isSite := fun _ h => List.mem_cons_of_mem _ (List.mem_append_right _ h)
  have w_0 : (Cond.fieldLink RX3 94 "SnowTermModel" "sites" "I").before _ s = true := hts _ (by decide +kernel)
  have hl := lv_entry ([.ref (ad 0), .int p0]) (n := 2) (Nat.le_of_ble_eq_true rfl)
  rw [lg_entry_eq]
  generalize (lg_sl ([.ref (ad 0), .int p0]) ++ List.replicate (2 - (lg_sl ([.ref (ad 0), .int p0])).length) Slot.unset).toArray = ls at hl ⊢
  have hl : lv_has ls 2 [(0, .ref (ad 0)), (1, .int p0)] := hl
  refine lv_iload_n E.1 E.2.1 dX3_isSite_0 rfl (lv_at hl 1 rfl) ?_
  refine lv_iconst (v := 0) E.1 E.2.1 dX3_isSite_1 (by decide) ?_
  refine lv_aload_n E.1 E.2.1 dX3_isSite_2 rfl (lv_at hl 0 rfl) ?_
  refine mg_0_1 E hK hP in_3 w_0 dX3_isSite_3 ?_
  refine lv_topi (fun y_1 ey_1 => ?_)
  obtain rfl : y_1 = nI n := ey_1.trans (hn)
  refine lv_iconst (v := 1) E.1 E.2.1 dX3_isSite_6 (by decide) ?_
  refine lv_isub (x := nI n) (y := 1) E.1 E.2.1 dX3_isSite_7 ?_
  refine g_SR (As := [.int p0, .int 0, .int ((nI n) - 1)]) (rest := []) E hK (c_X3_within l D cI cB p0 0 ((nI n) - 1)) (va_cwS 3 E.2.2.2.2 gX3_isSite_X3_within rfl rfl rfl (by decide +kernel) ⟨Nat.le_of_ble_eq_true rfl, Nat.le_of_ble_eq_true rfl⟩) rfl hl.1 rfl (Nat.le_of_ble_eq_true rfl) dX3_isSite_8 ⟨Nat.zero_le _, Nat.zero_le _⟩ ?_
  exact W.zret (v := FX3_within p0 0 ((nI n) - 1)) E.1 E.2.1 hr (nar_b (within_b _ _ _)) (fun t ht _ => ⟨congrArg (fun z : Int32 => Outcome.returned (some (Value.int z))) (show FX3_within p0 0 ((nI n) - 1) = FX3_isSite g b tb n z c p0 from by rw [FX3_isSite]), ht⟩) (fun q hq => by cases hq) dX3_isSite_11
theorem site_M {g : Nat → Int32} {b tb : Nat → Nat → Int32} {n z c : Nat} {x : Int32} (hM : IM n z c g b) (h : ¬ FX3_isSite g b tb n z c x = 0) : vp_in x 6 := by
  rw [FX3_isSite, FX3_within] at h
  by_cases h1 : x < 0
  · rw [if_pos h1] at h; exact absurd rfl h
  · rw [if_neg h1] at h
    by_cases h2 : nI n - 1 < x
    · rw [if_pos h2] at h; exact absurd rfl h
    · refine in_lt (n := n) h1 (fun h3 => h2 ?_) hM.2.1 (by omega)
      have h6 := hM.2.1
      rw [Int32.le_iff_toInt_le, nI_toInt (by omega)] at h3
      rw [Int32.lt_iff_toInt_lt]
      rcases (show n = 0 ∨ n = 1 ∨ n = 2 ∨ n = 3 ∨ n = 4 ∨ n = 5 ∨ n = 6 by omega) with rfl | rfl | rfl | rfl | rfl | rfl | rfl
      · have e : (nI 0 - 1 : Int32).toInt = -1 := by decide
        omega
      · have e : (nI 1 - 1 : Int32).toInt = 0 := by decide
        omega
      · have e : (nI 2 - 1 : Int32).toInt = 1 := by decide
        omega
      · have e : (nI 3 - 1 : Int32).toInt = 2 := by decide
        omega
      · have e : (nI 4 - 1 : Int32).toInt = 3 := by decide
        omega
      · have e : (nI 5 - 1 : Int32).toInt = 4 := by decide
        omega
      · have e : (nI 6 - 1 : Int32).toInt = 5 := by decide
        omega

def FX3_meltsBy (g : Nat → Int32) (b : Nat → Nat → Int32) (tb : Nat → Nat → Int32) (n : Nat) (z : Nat) (c : Nat) (p0 : Int32) (p1 : Int32) : Int32 := (if b 1 p0.toNatClampNeg = 1 then FX3_notBelow ((p1 + (b 6 p0.toNatClampNeg)) - 2) else (if b 1 p0.toNatClampNeg = 2 then (p1 + (b 6 p0.toNatClampNeg)) / 2 else (if b 1 p0.toNatClampNeg = 3 then p1 else (if b 1 p0.toNatClampNeg = 4 then FX3_notBelow (((p1 + (b 6 p0.toNatClampNeg)) / 2) - 1) else p1 + (b 6 p0.toNatClampNeg)))))
set_option maxHeartbeats 4000000 in
set_option maxRecDepth 100000 in
/-- how much melts -/
theorem c_X3_meltsBy (l : Launch) (D : va_G) (cI cB : ClassId) (ad : Nat → Nat) (g t : Nat → Int32) (gl : Nat → Int64) (b tb : Nat → Nat → Int32) (n z c : Nat) (hM : IM n z c g b) (p0 : Int32) (p1 : Int32) (hs0 : vp_in p0 6) : Met l yX3_meltsBy wsX3_meltsBy ({ frames := 1, cells := 0, slots := 0, locals := 20 }) (GPc D cI cB (wM cI cB ad g t gl b tb) [.ref (ad 0), .int p0, .int p1]) (QcRead (FX3_meltsBy g b tb n z c p0 p1)) 0 0 (fun _ => False) := by
  refine Met.ofW (cc := cX3_meltsBy) (maxL := 4) (ret := (some .int)) (by decide) rfl ?_
  intro p e s m args below meth cd s₁ B hml hv
  obtain ⟨rfl, hP, hK⟩ := hv
  have hts := atoms_spec (ws := wsX3_meltsBy) B.pre
  have E : CallFix p m cd cX3_meltsBy 4 s _ wsX3_meltsBy RX3 := ⟨B.exec, B.bytes, hml, findClass_of_methodNamed B.named, hts⟩
  have hr := B.returns
  have hlocks := B.notSynchronized
  have h2n := pow6 (n := n) (by have := hM.2.1; omega)
  obtain ⟨hn, hn6, hz, hz21, hc, hc6, hfs⟩ := id hM
  have in_3 : ∀ w ∈ wsX30, w ∈ wsX3_meltsBy := fun _ h => List.mem_cons_of_mem _ (List.mem_append_right _ h)
  have w_0 : (Cond.fieldLink RX3 25 "SnowTermModel" "feetOf" "[I").before _ s = true := hts _ (by decide +kernel)
  have w_1 : (Cond.fieldLink RX3 7 "SnowTermModel" "kindOf" "[I").before _ s = true := hts _ (by decide +kernel)
  have hl := lv_entry ([.ref (ad 0), .int p0, .int p1]) (n := 4) (Nat.le_of_ble_eq_true rfl)
  rw [lg_entry_eq]
  generalize (lg_sl ([.ref (ad 0), .int p0, .int p1]) ++ List.replicate (4 - (lg_sl ([.ref (ad 0), .int p0, .int p1])).length) Slot.unset).toArray = ls at hl ⊢
  have hl : lv_has ls 4 [(0, .ref (ad 0)), (1, .int p0), (2, .int p1)] := hl
  refine lv_iload_n E.1 E.2.1 dX3_meltsBy_0 rfl (lv_at hl 2 rfl) ?_
  refine lv_aload_n E.1 E.2.1 dX3_meltsBy_1 rfl (lv_at hl 0 rfl) ?_
  refine mg_0_7 E hK hP in_3 w_0 dX3_meltsBy_2 ?_
  refine lv_iload_n E.1 E.2.1 dX3_meltsBy_5 rfl (lv_at hl 1 rfl) ?_
  refine ml_6 (i := p0) E hK hP (hs0) dX3_meltsBy_6 ?_
  refine lv_iadd (x := p1) (y := b 6 p0.toNatClampNeg) E.1 E.2.1 dX3_meltsBy_7 ?_
  refine lv_istore_n (lv' := [(3, .int (p1 + (b 6 p0.toNatClampNeg))), (0, .ref (ad 0)), (1, .int p0), (2, .int p1)]) E.1 E.2.1 dX3_meltsBy_8 rfl hl (by decide) rfl (fun ls hl => ?_)
  refine lv_aload_n E.1 E.2.1 dX3_meltsBy_9 rfl (lv_at hl 1 rfl) ?_
  refine mg_0_2 E hK hP in_3 w_1 dX3_meltsBy_10 ?_
  refine lv_iload_n E.1 E.2.1 dX3_meltsBy_13 rfl (lv_at hl 2 rfl) ?_
  refine ml_1 (i := p0) E hK hP (hs0) dX3_meltsBy_14 ?_
  by_cases hs15_1 : b 1 p0.toNatClampNeg = 1
  · have hs15_1 := hs15_1
    refine lv_topi (fun y9 ey9 => ?_)
    obtain rfl : y9 = 1 := ey9.trans hs15_1
    refine lv_tableIn (x := 1) (off := 29) (tgt := 44) E.1 E.2.1 dX3_meltsBy_15 (by decide) (by decide) (by decide) (by decide) ?_
    refine lv_iload_n E.1 E.2.1 dX3_meltsBy_44 rfl (lv_at hl 0 rfl) ?_
    refine lv_iconst (v := 2) E.1 E.2.1 dX3_meltsBy_45 (by decide) ?_
    refine lv_isub (x := p1 + (b 6 p0.toNatClampNeg)) (y := 2) E.1 E.2.1 dX3_meltsBy_46 ?_
    refine g_SR (As := [.int ((p1 + (b 6 p0.toNatClampNeg)) - 2)]) (rest := []) E hK (c_X3_notBelow l D cI cB ((p1 + (b 6 p0.toNatClampNeg)) - 2)) (va_cwS 1 E.2.2.2.2 gX3_meltsBy_X3_notBelow rfl rfl rfl (by decide +kernel) ⟨Nat.le_of_ble_eq_true rfl, Nat.le_of_ble_eq_true rfl⟩) rfl hl.1 rfl (Nat.le_of_ble_eq_true rfl) dX3_meltsBy_47 ⟨Nat.zero_le _, Nat.zero_le _⟩ ?_
    exact W.iret (v := FX3_notBelow ((p1 + (b 6 p0.toNatClampNeg)) - 2)) E.1 E.2.1 hr (fun t ht _ => ⟨congrArg (fun z : Int32 => Outcome.returned (some (Value.int z))) (show FX3_notBelow ((p1 + (b 6 p0.toNatClampNeg)) - 2) = FX3_meltsBy g b tb n z c p0 p1 from by rw [FX3_meltsBy, if_pos hs15_1]), ht⟩) (fun q hq => by cases hq) dX3_meltsBy_50
  · have hs15_1 := hs15_1
    by_cases hs15_2 : b 1 p0.toNatClampNeg = 2
    · have hs15_2 := hs15_2
      refine lv_topi (fun y9 ey9 => ?_)
      obtain rfl : y9 = 2 := ey9.trans hs15_2
      refine lv_tableIn (x := 2) (off := 36) (tgt := 51) E.1 E.2.1 dX3_meltsBy_15 (by decide) (by decide) (by decide) (by decide) ?_
      refine lv_iload_n E.1 E.2.1 dX3_meltsBy_51 rfl (lv_at hl 0 rfl) ?_
      refine lv_iconst (v := 2) E.1 E.2.1 dX3_meltsBy_52 (by decide) ?_
      refine lv_idiv (x := p1 + (b 6 p0.toNatClampNeg)) (y := 2) E.1 E.2.1 dX3_meltsBy_53 (by decide) ?_
      exact W.iret (v := (p1 + (b 6 p0.toNatClampNeg)) / 2) E.1 E.2.1 hr (fun t ht _ => ⟨congrArg (fun z : Int32 => Outcome.returned (some (Value.int z))) (show (p1 + (b 6 p0.toNatClampNeg)) / 2 = FX3_meltsBy g b tb n z c p0 p1 from by rw [FX3_meltsBy, if_neg hs15_1, if_pos hs15_2]), ht⟩) (fun q hq => by cases hq) dX3_meltsBy_54
    · have hs15_2 := hs15_2
      by_cases hs15_3 : b 1 p0.toNatClampNeg = 3
      · have hs15_3 := hs15_3
        refine lv_topi (fun y9 ey9 => ?_)
        obtain rfl : y9 = 3 := ey9.trans hs15_3
        refine lv_tableIn (x := 3) (off := 40) (tgt := 55) E.1 E.2.1 dX3_meltsBy_15 (by decide) (by decide) (by decide) (by decide) ?_
        refine lv_iload_n E.1 E.2.1 dX3_meltsBy_55 rfl (lv_at hl 3 rfl) ?_
        exact W.iret (v := p1) E.1 E.2.1 hr (fun t ht _ => ⟨congrArg (fun z : Int32 => Outcome.returned (some (Value.int z))) (show p1 = FX3_meltsBy g b tb n z c p0 p1 from by rw [FX3_meltsBy, if_neg hs15_1, if_neg hs15_2, if_pos hs15_3]), ht⟩) (fun q hq => by cases hq) dX3_meltsBy_56
      · have hs15_3 := hs15_3
        by_cases hs15_4 : b 1 p0.toNatClampNeg = 4
        · have hs15_4 := hs15_4
          refine lv_topi (fun y9 ey9 => ?_)
          obtain rfl : y9 = 4 := ey9.trans hs15_4
          refine lv_tableIn (x := 4) (off := 42) (tgt := 57) E.1 E.2.1 dX3_meltsBy_15 (by decide) (by decide) (by decide) (by decide) ?_
          refine lv_iload_n E.1 E.2.1 dX3_meltsBy_57 rfl (lv_at hl 0 rfl) ?_
          refine lv_iconst (v := 2) E.1 E.2.1 dX3_meltsBy_58 (by decide) ?_
          refine lv_idiv (x := p1 + (b 6 p0.toNatClampNeg)) (y := 2) E.1 E.2.1 dX3_meltsBy_59 (by decide) ?_
          refine lv_iconst (v := 1) E.1 E.2.1 dX3_meltsBy_60 (by decide) ?_
          refine lv_isub (x := (p1 + (b 6 p0.toNatClampNeg)) / 2) (y := 1) E.1 E.2.1 dX3_meltsBy_61 ?_
          refine g_SR (As := [.int (((p1 + (b 6 p0.toNatClampNeg)) / 2) - 1)]) (rest := []) E hK (c_X3_notBelow l D cI cB (((p1 + (b 6 p0.toNatClampNeg)) / 2) - 1)) (va_cwS 1 E.2.2.2.2 gX3_meltsBy_X3_notBelow rfl rfl rfl (by decide +kernel) ⟨Nat.le_of_ble_eq_true rfl, Nat.le_of_ble_eq_true rfl⟩) rfl hl.1 rfl (Nat.le_of_ble_eq_true rfl) dX3_meltsBy_62 ⟨Nat.zero_le _, Nat.zero_le _⟩ ?_
          exact W.iret (v := FX3_notBelow (((p1 + (b 6 p0.toNatClampNeg)) / 2) - 1)) E.1 E.2.1 hr (fun t ht _ => ⟨congrArg (fun z : Int32 => Outcome.returned (some (Value.int z))) (show FX3_notBelow (((p1 + (b 6 p0.toNatClampNeg)) / 2) - 1) = FX3_meltsBy g b tb n z c p0 p1 from by rw [FX3_meltsBy, if_neg hs15_1, if_neg hs15_2, if_neg hs15_3, if_pos hs15_4]), ht⟩) (fun q hq => by cases hq) dX3_meltsBy_65
        · have hs15_4 := hs15_4
          refine lv_tableOut (x := b 1 p0.toNatClampNeg) (tgt := 66) E.1 E.2.1 dX3_meltsBy_15 (by have q0 := lv_neT hs15_1 (a := 1) (by decide); have q1 := lv_neT hs15_2 (a := 2) (by decide); have q2 := lv_neT hs15_3 (a := 3) (by decide); have q3 := lv_neT hs15_4 (a := 4) (by decide); omega) (by decide) ?_
          refine lv_iload_n E.1 E.2.1 dX3_meltsBy_66 rfl (lv_at hl 0 rfl) ?_
          exact W.iret (v := p1 + (b 6 p0.toNatClampNeg)) E.1 E.2.1 hr (fun t ht _ => ⟨congrArg (fun z : Int32 => Outcome.returned (some (Value.int z))) (show p1 + (b 6 p0.toNatClampNeg) = FX3_meltsBy g b tb n z c p0 p1 from by rw [FX3_meltsBy, if_neg hs15_1, if_neg hs15_2, if_neg hs15_3, if_neg hs15_4]), ht⟩) (fun q hq => by cases hq) dX3_meltsBy_67
def FX3_isKept (g : Nat → Int32) (b : Nat → Nat → Int32) (tb : Nat → Nat → Int32) (n : Nat) (z : Nat) (c : Nat) (p0 : Int32) (p1 : Int32) : Int32 := (if p1 < b 2 p0.toNatClampNeg then 0 else 1)
set_option maxHeartbeats 4000000 in
set_option maxRecDepth 100000 in
/-- is it kept so deep -/
theorem c_X3_isKept (l : Launch) (D : va_G) (cI cB : ClassId) (ad : Nat → Nat) (g t : Nat → Int32) (gl : Nat → Int64) (b tb : Nat → Nat → Int32) (n z c : Nat) (hM : IM n z c g b) (p0 : Int32) (p1 : Int32) (hs0 : vp_in p0 6) : Met l yX3_isKept wsX3_isKept ({ frames := 0, cells := 0, slots := 0, locals := 0 }) (GPc D cI cB (wM cI cB ad g t gl b tb) [.ref (ad 0), .int p0, .int p1]) (QcRead (FX3_isKept g b tb n z c p0 p1)) 0 0 (fun _ => False) := by
  refine Met.ofW (cc := cX3_isKept) (maxL := 3) (ret := (some .boolean)) (by decide) rfl ?_
  intro p e s m args below meth cd s₁ B hml hv
  obtain ⟨rfl, hP, hK⟩ := hv
  have hts := atoms_spec (ws := wsX3_isKept) B.pre
  have E : CallFix p m cd cX3_isKept 3 s _ wsX3_isKept RX3 := ⟨B.exec, B.bytes, hml, findClass_of_methodNamed B.named, hts⟩
  have hr := B.returns
  have hlocks := B.notSynchronized
  have h2n := pow6 (n := n) (by have := hM.2.1; omega)
  obtain ⟨hn, hn6, hz, hz21, hc, hc6, hfs⟩ := id hM
  have in_3 : ∀ w ∈ wsX30, w ∈ wsX3_isKept := fun _ h => List.mem_cons_of_mem _ (List.mem_append_right _ h)
  have w_0 : (Cond.fieldLink RX3 13 "SnowTermModel" "wantOf" "[I").before _ s = true := hts _ (by decide +kernel)
  have hl := lv_entry ([.ref (ad 0), .int p0, .int p1]) (n := 3) (Nat.le_of_ble_eq_true rfl)
  rw [lg_entry_eq]
  generalize (lg_sl ([.ref (ad 0), .int p0, .int p1]) ++ List.replicate (3 - (lg_sl ([.ref (ad 0), .int p0, .int p1])).length) Slot.unset).toArray = ls at hl ⊢
  have hl : lv_has ls 3 [(0, .ref (ad 0)), (1, .int p0), (2, .int p1)] := hl
  refine lv_iload_n E.1 E.2.1 dX3_isKept_0 rfl (lv_at hl 2 rfl) ?_
  refine lv_aload_n E.1 E.2.1 dX3_isKept_1 rfl (lv_at hl 0 rfl) ?_
  refine mg_0_3 E hK hP in_3 w_0 dX3_isKept_2 ?_
  refine lv_iload_n E.1 E.2.1 dX3_isKept_5 rfl (lv_at hl 1 rfl) ?_
  refine ml_2 (i := p0) E hK hP (hs0) dX3_isKept_6 ?_
  refine lv_icmp_lt (x := p1) (y := b 2 p0.toNatClampNeg) (tgt := 14) E.1 E.2.1 dX3_isKept_7 (by decide) (fun h7 => ?_) (fun h7 => ?_)
  · have h7 := h7
    refine lv_iconst (v := 0) E.1 E.2.1 dX3_isKept_14 (by decide) ?_
    exact W.zret (v := 0) E.1 E.2.1 hr rfl (fun t ht _ => ⟨congrArg (fun z : Int32 => Outcome.returned (some (Value.int z))) (show 0 = FX3_isKept g b tb n z c p0 p1 from by rw [FX3_isKept, if_pos h7]), ht⟩) (fun q hq => by cases hq) dX3_isKept_15
  · have h7 := h7
    refine lv_iconst (v := 1) E.1 E.2.1 dX3_isKept_10 (by decide) ?_
    refine lv_goto (tgt := 15) E.1 E.2.1 dX3_isKept_11 (by decide) ?_
    exact W.zret (v := 1) E.1 E.2.1 hr rfl (fun t ht _ => ⟨congrArg (fun z : Int32 => Outcome.returned (some (Value.int z))) (show 1 = FX3_isKept g b tb n z c p0 p1 from by rw [FX3_isKept, if_neg h7]), ht⟩) (fun q hq => by cases hq) dX3_isKept_15
def FX3_siteNow (g : Nat → Int32) (b : Nat → Nat → Int32) (tb : Nat → Nat → Int32) (n : Nat) (z : Nat) (c : Nat) (p0 : Int32) (p1 : Int32) : Int32 := (if p1 = 0 then b 1 p0.toNatClampNeg else (if p1 = 1 then b 2 p0.toNatClampNeg else (if p1 = 2 then b 3 p0.toNatClampNeg else (if p1 = 3 then b 6 p0.toNatClampNeg else (if p1 = 4 then FX3_meltsBy g b tb n z c p0 (g 8) else (if p1 = 5 then (if FX3_isKept g b tb n z c p0 (b 3 p0.toNatClampNeg) = 0 then 0 else 1) else b 5 p0.toNatClampNeg))))))
set_option maxHeartbeats 4000000 in
set_option maxRecDepth 100000 in
/-- of a site -/
theorem c_X3_siteNow (l : Launch) (D : va_G) (cI cB : ClassId) (ad : Nat → Nat) (g t : Nat → Int32) (gl : Nat → Int64) (b tb : Nat → Nat → Int32) (n z c : Nat) (hM : IM n z c g b) (p0 : Int32) (p1 : Int32) (hs0 : vp_in p0 6) : Met l yX3_siteNow wsX3_siteNow ({ frames := 2, cells := 0, slots := 0, locals := 43 }) (GPc D cI cB (wM cI cB ad g t gl b tb) [.ref (ad 0), .int p0, .int p1]) (QcRead (FX3_siteNow g b tb n z c p0 p1)) 0 0 (fun _ => False) := by
  refine Met.ofW (cc := cX3_siteNow) (maxL := 3) (ret := (some .int)) (by decide) rfl ?_
  intro p e s m args below meth cd s₁ B hml hv
  obtain ⟨rfl, hP, hK⟩ := hv
  have hts := atoms_spec (ws := wsX3_siteNow) B.pre
  have E : CallFix p m cd cX3_siteNow 3 s _ wsX3_siteNow RX3 := ⟨B.exec, B.bytes, hml, findClass_of_methodNamed B.named, hts⟩
  have hr := B.returns
  have hlocks := B.notSynchronized
  have h2n := pow6 (n := n) (by have := hM.2.1; omega)
  obtain ⟨hn, hn6, hz, hz21, hc, hc6, hfs⟩ := id hM
  have in_3 : ∀ w ∈ wsX30, w ∈ wsX3_siteNow := fun _ h => List.mem_cons_of_mem _ (List.mem_append_right _ h)
  have w_0 : (Cond.fieldLink RX3 7 "SnowTermModel" "kindOf" "[I").before _ s = true := hts _ (by decide +kernel)
  have w_1 : (Cond.fieldLink RX3 13 "SnowTermModel" "wantOf" "[I").before _ s = true := hts _ (by decide +kernel)
  have w_2 : (Cond.fieldLink RX3 16 "SnowTermModel" "deepOf" "[I").before _ s = true := hts _ (by decide +kernel)
  have w_3 : (Cond.fieldLink RX3 25 "SnowTermModel" "feetOf" "[I").before _ s = true := hts _ (by decide +kernel)
  have w_4 : (Cond.fieldLink RX3 97 "SnowTermModel" "sunNow" "I").before _ s = true := hts _ (by decide +kernel)
  have w_5 : (Cond.fieldLink RX3 22 "SnowTermModel" "broughtTo" "[I").before _ s = true := hts _ (by decide +kernel)
  have hl := lv_entry ([.ref (ad 0), .int p0, .int p1]) (n := 3) (Nat.le_of_ble_eq_true rfl)
  rw [lg_entry_eq]
  generalize (lg_sl ([.ref (ad 0), .int p0, .int p1]) ++ List.replicate (3 - (lg_sl ([.ref (ad 0), .int p0, .int p1])).length) Slot.unset).toArray = ls at hl ⊢
  have hl : lv_has ls 3 [(0, .ref (ad 0)), (1, .int p0), (2, .int p1)] := hl
  refine lv_iload_n E.1 E.2.1 dX3_siteNow_0 rfl (lv_at hl 2 rfl) ?_
  by_cases hs1_0 : p1 = 0
  · have hs1_0 := hs1_0
    refine lv_topi (fun y9 ey9 => ?_)
    obtain rfl : y9 = 0 := ey9.trans hs1_0
    refine lv_tableIn (x := 0) (off := 39) (tgt := 40) E.1 E.2.1 dX3_siteNow_1 (by decide) (by decide) (by decide) (by decide) ?_
    refine lv_aload_n E.1 E.2.1 dX3_siteNow_40 rfl (lv_at hl 0 rfl) ?_
    refine mg_0_2 E hK hP in_3 w_0 dX3_siteNow_41 ?_
    refine lv_iload_n E.1 E.2.1 dX3_siteNow_44 rfl (lv_at hl 1 rfl) ?_
    refine ml_1 (i := p0) E hK hP (hs0) dX3_siteNow_45 ?_
    exact W.iret (v := b 1 p0.toNatClampNeg) E.1 E.2.1 hr (fun t ht _ => ⟨congrArg (fun z : Int32 => Outcome.returned (some (Value.int z))) (show b 1 p0.toNatClampNeg = FX3_siteNow g b tb n z c p0 p1 from by rw [FX3_siteNow, if_pos hs1_0]), ht⟩) (fun q hq => by cases hq) dX3_siteNow_46
  · have hs1_0 := hs1_0
    by_cases hs1_1 : p1 = 1
    · have hs1_1 := hs1_1
      refine lv_topi (fun y9 ey9 => ?_)
      obtain rfl : y9 = 1 := ey9.trans hs1_1
      refine lv_tableIn (x := 1) (off := 46) (tgt := 47) E.1 E.2.1 dX3_siteNow_1 (by decide) (by decide) (by decide) (by decide) ?_
      refine lv_aload_n E.1 E.2.1 dX3_siteNow_47 rfl (lv_at hl 0 rfl) ?_
      refine mg_0_3 E hK hP in_3 w_1 dX3_siteNow_48 ?_
      refine lv_iload_n E.1 E.2.1 dX3_siteNow_51 rfl (lv_at hl 1 rfl) ?_
      refine ml_2 (i := p0) E hK hP (hs0) dX3_siteNow_52 ?_
      exact W.iret (v := b 2 p0.toNatClampNeg) E.1 E.2.1 hr (fun t ht _ => ⟨congrArg (fun z : Int32 => Outcome.returned (some (Value.int z))) (show b 2 p0.toNatClampNeg = FX3_siteNow g b tb n z c p0 p1 from by rw [FX3_siteNow, if_neg hs1_0, if_pos hs1_1]), ht⟩) (fun q hq => by cases hq) dX3_siteNow_53
    · have hs1_1 := hs1_1
      by_cases hs1_2 : p1 = 2
      · have hs1_2 := hs1_2
        refine lv_topi (fun y9 ey9 => ?_)
        obtain rfl : y9 = 2 := ey9.trans hs1_2
        refine lv_tableIn (x := 2) (off := 53) (tgt := 54) E.1 E.2.1 dX3_siteNow_1 (by decide) (by decide) (by decide) (by decide) ?_
        refine lv_aload_n E.1 E.2.1 dX3_siteNow_54 rfl (lv_at hl 0 rfl) ?_
        refine mg_0_4 E hK hP in_3 w_2 dX3_siteNow_55 ?_
        refine lv_iload_n E.1 E.2.1 dX3_siteNow_58 rfl (lv_at hl 1 rfl) ?_
        refine ml_3 (i := p0) E hK hP (hs0) dX3_siteNow_59 ?_
        exact W.iret (v := b 3 p0.toNatClampNeg) E.1 E.2.1 hr (fun t ht _ => ⟨congrArg (fun z : Int32 => Outcome.returned (some (Value.int z))) (show b 3 p0.toNatClampNeg = FX3_siteNow g b tb n z c p0 p1 from by rw [FX3_siteNow, if_neg hs1_0, if_neg hs1_1, if_pos hs1_2]), ht⟩) (fun q hq => by cases hq) dX3_siteNow_60
      · have hs1_2 := hs1_2
        by_cases hs1_3 : p1 = 3
        · have hs1_3 := hs1_3
          refine lv_topi (fun y9 ey9 => ?_)
          obtain rfl : y9 = 3 := ey9.trans hs1_3
          refine lv_tableIn (x := 3) (off := 60) (tgt := 61) E.1 E.2.1 dX3_siteNow_1 (by decide) (by decide) (by decide) (by decide) ?_
          refine lv_aload_n E.1 E.2.1 dX3_siteNow_61 rfl (lv_at hl 0 rfl) ?_
          refine mg_0_7 E hK hP in_3 w_3 dX3_siteNow_62 ?_
          refine lv_iload_n E.1 E.2.1 dX3_siteNow_65 rfl (lv_at hl 1 rfl) ?_
          refine ml_6 (i := p0) E hK hP (hs0) dX3_siteNow_66 ?_
          exact W.iret (v := b 6 p0.toNatClampNeg) E.1 E.2.1 hr (fun t ht _ => ⟨congrArg (fun z : Int32 => Outcome.returned (some (Value.int z))) (show b 6 p0.toNatClampNeg = FX3_siteNow g b tb n z c p0 p1 from by rw [FX3_siteNow, if_neg hs1_0, if_neg hs1_1, if_neg hs1_2, if_pos hs1_3]), ht⟩) (fun q hq => by cases hq) dX3_siteNow_67
        · have hs1_3 := hs1_3
          by_cases hs1_4 : p1 = 4
          · have hs1_4 := hs1_4
            refine lv_topi (fun y9 ey9 => ?_)
            obtain rfl : y9 = 4 := ey9.trans hs1_4
            refine lv_tableIn (x := 4) (off := 67) (tgt := 68) E.1 E.2.1 dX3_siteNow_1 (by decide) (by decide) (by decide) (by decide) ?_
            refine lv_aload_n E.1 E.2.1 dX3_siteNow_68 rfl (lv_at hl 0 rfl) ?_
            refine lv_iload_n E.1 E.2.1 dX3_siteNow_69 rfl (lv_at hl 1 rfl) ?_
            refine lv_aload_n E.1 E.2.1 dX3_siteNow_70 rfl (lv_at hl 0 rfl) ?_
            refine mg_0_8 E hK hP in_3 w_4 dX3_siteNow_71 ?_
            refine g_VR (As := [.int p0, .int (g 8)]) (rest := []) E hK hP (c_X3_meltsBy l D cI cB ad g t gl b tb n z c hM p0 (g 8) (hs0)) (cwV 2 E.2.2.2.2 gX3_siteNow_X3_meltsBy rfl rfl rfl (by decide +kernel) ⟨Nat.le_of_ble_eq_true rfl, Nat.le_of_ble_eq_true rfl⟩) (rm0x hK hP) rfl hl.1 rfl (Nat.le_of_ble_eq_true rfl) dX3_siteNow_74 ⟨Nat.zero_le _, Nat.zero_le _⟩ ?_
            exact W.iret (v := FX3_meltsBy g b tb n z c p0 (g 8)) E.1 E.2.1 hr (fun t ht _ => ⟨congrArg (fun z : Int32 => Outcome.returned (some (Value.int z))) (show FX3_meltsBy g b tb n z c p0 (g 8) = FX3_siteNow g b tb n z c p0 p1 from by rw [FX3_siteNow, if_neg hs1_0, if_neg hs1_1, if_neg hs1_2, if_neg hs1_3, if_pos hs1_4]), ht⟩) (fun q hq => by cases hq) dX3_siteNow_77
          · have hs1_4 := hs1_4
            by_cases hs1_5 : p1 = 5
            · have hs1_5 := hs1_5
              refine lv_topi (fun y9 ey9 => ?_)
              obtain rfl : y9 = 5 := ey9.trans hs1_5
              refine lv_tableIn (x := 5) (off := 77) (tgt := 78) E.1 E.2.1 dX3_siteNow_1 (by decide) (by decide) (by decide) (by decide) ?_
              refine lv_aload_n E.1 E.2.1 dX3_siteNow_78 rfl (lv_at hl 0 rfl) ?_
              refine lv_iload_n E.1 E.2.1 dX3_siteNow_79 rfl (lv_at hl 1 rfl) ?_
              refine lv_aload_n E.1 E.2.1 dX3_siteNow_80 rfl (lv_at hl 0 rfl) ?_
              refine mg_0_4 E hK hP in_3 w_2 dX3_siteNow_81 ?_
              refine lv_iload_n E.1 E.2.1 dX3_siteNow_84 rfl (lv_at hl 1 rfl) ?_
              refine ml_3 (i := p0) E hK hP (hs0) dX3_siteNow_85 ?_
              refine g_VR (As := [.int p0, .int (b 3 p0.toNatClampNeg)]) (rest := []) E hK hP (c_X3_isKept l D cI cB ad g t gl b tb n z c hM p0 (b 3 p0.toNatClampNeg) (hs0)) (cwV 2 E.2.2.2.2 gX3_siteNow_X3_isKept rfl rfl rfl (by decide +kernel) ⟨Nat.le_of_ble_eq_true rfl, Nat.le_of_ble_eq_true rfl⟩) (rm0x hK hP) rfl hl.1 rfl (Nat.le_of_ble_eq_true rfl) dX3_siteNow_86 ⟨Nat.zero_le _, Nat.zero_le _⟩ ?_
              refine lv_if_eq (x := FX3_isKept g b tb n z c p0 (b 3 p0.toNatClampNeg)) (tgt := 96) E.1 E.2.1 dX3_siteNow_89 (by decide) (fun h89 => ?_) (fun h89 => ?_)
              · have h89 := h89
                refine lv_iconst (v := 0) E.1 E.2.1 dX3_siteNow_96 (by decide) ?_
                exact W.iret (v := 0) E.1 E.2.1 hr (fun t ht _ => ⟨congrArg (fun z : Int32 => Outcome.returned (some (Value.int z))) (show 0 = FX3_siteNow g b tb n z c p0 p1 from by rw [FX3_siteNow, if_neg hs1_0, if_neg hs1_1, if_neg hs1_2, if_neg hs1_3, if_neg hs1_4, if_pos hs1_5, if_pos h89]), ht⟩) (fun q hq => by cases hq) dX3_siteNow_97
              · have h89 := h89
                refine lv_iconst (v := 1) E.1 E.2.1 dX3_siteNow_92 (by decide) ?_
                refine lv_goto (tgt := 97) E.1 E.2.1 dX3_siteNow_93 (by decide) ?_
                exact W.iret (v := 1) E.1 E.2.1 hr (fun t ht _ => ⟨congrArg (fun z : Int32 => Outcome.returned (some (Value.int z))) (show 1 = FX3_siteNow g b tb n z c p0 p1 from by rw [FX3_siteNow, if_neg hs1_0, if_neg hs1_1, if_neg hs1_2, if_neg hs1_3, if_neg hs1_4, if_pos hs1_5, if_neg h89]), ht⟩) (fun q hq => by cases hq) dX3_siteNow_97
            · have hs1_5 := hs1_5
              refine lv_tableOut (x := p1) (tgt := 98) E.1 E.2.1 dX3_siteNow_1 (by have q0 := lv_neT hs1_0 (a := 0) (by decide); have q1 := lv_neT hs1_1 (a := 1) (by decide); have q2 := lv_neT hs1_2 (a := 2) (by decide); have q3 := lv_neT hs1_3 (a := 3) (by decide); have q4 := lv_neT hs1_4 (a := 4) (by decide); have q5 := lv_neT hs1_5 (a := 5) (by decide); omega) (by decide) ?_
              refine lv_aload_n E.1 E.2.1 dX3_siteNow_98 rfl (lv_at hl 0 rfl) ?_
              refine mg_0_6 E hK hP in_3 w_5 dX3_siteNow_99 ?_
              refine lv_iload_n E.1 E.2.1 dX3_siteNow_102 rfl (lv_at hl 1 rfl) ?_
              refine ml_5 (i := p0) E hK hP (hs0) dX3_siteNow_103 ?_
              exact W.iret (v := b 5 p0.toNatClampNeg) E.1 E.2.1 hr (fun t ht _ => ⟨congrArg (fun z : Int32 => Outcome.returned (some (Value.int z))) (show b 5 p0.toNatClampNeg = FX3_siteNow g b tb n z c p0 p1 from by rw [FX3_siteNow, if_neg hs1_0, if_neg hs1_1, if_neg hs1_2, if_neg hs1_3, if_neg hs1_4, if_neg hs1_5]), ht⟩) (fun q hq => by cases hq) dX3_siteNow_104
def FX3_about (g : Nat → Int32) (b : Nat → Nat → Int32) (tb : Nat → Nat → Int32) (n : Nat) (z : Nat) (c : Nat) (p0 : Int32) (p1 : Int32) : Int32 := (if FX3_isSite g b tb n z c p0 = 0 then (-101) else (if FX3_within p1 0 6 = 0 then (-102) else FX3_siteNow g b tb n z c p0 p1))
set_option maxHeartbeats 4000000 in
set_option maxRecDepth 100000 in
/-- about -/
theorem c_X3_about (l : Launch) (D : va_G) (cI cB : ClassId) (ad : Nat → Nat) (g t : Nat → Int32) (gl : Nat → Int64) (b tb : Nat → Nat → Int32) (n z c : Nat) (hM : IM n z c g b) (p0 : Int32) (p1 : Int32) : Met l yX3_about wsX3_about ({ frames := 3, cells := 0, slots := 0, locals := 65 }) (GPc D cI cB (wM cI cB ad g t gl b tb) [.ref (ad 0), .int p0, .int p1]) (QcRead (FX3_about g b tb n z c p0 p1)) 0 0 (fun _ => False) := by
  refine Met.ofW (cc := cX3_about) (maxL := 3) (ret := (some .int)) (by decide) rfl ?_
  intro p e s m args below meth cd s₁ B hml hv
  obtain ⟨rfl, hP, hK⟩ := hv
  have hts := atoms_spec (ws := wsX3_about) B.pre
  have E : CallFix p m cd cX3_about 3 s _ wsX3_about RX3 := ⟨B.exec, B.bytes, hml, findClass_of_methodNamed B.named, hts⟩
  have hr := B.returns
  have hlocks := B.notSynchronized
  have h2n := pow6 (n := n) (by have := hM.2.1; omega)
  obtain ⟨hn, hn6, hz, hz21, hc, hc6, hfs⟩ := id hM
  have hl := lv_entry ([.ref (ad 0), .int p0, .int p1]) (n := 3) (Nat.le_of_ble_eq_true rfl)
  rw [lg_entry_eq]
  generalize (lg_sl ([.ref (ad 0), .int p0, .int p1]) ++ List.replicate (3 - (lg_sl ([.ref (ad 0), .int p0, .int p1])).length) Slot.unset).toArray = ls at hl ⊢
  have hl : lv_has ls 3 [(0, .ref (ad 0)), (1, .int p0), (2, .int p1)] := hl
  refine lv_aload_n E.1 E.2.1 dX3_about_0 rfl (lv_at hl 0 rfl) ?_
  refine lv_iload_n E.1 E.2.1 dX3_about_1 rfl (lv_at hl 1 rfl) ?_
  refine g_VR (As := [.int p0]) (rest := []) E hK hP (c_X3_isSite l D cI cB ad g t gl b tb n z c hM p0) (cwV 1 E.2.2.2.2 gX3_about_X3_isSite rfl rfl rfl (by decide +kernel) ⟨Nat.le_of_ble_eq_true rfl, Nat.le_of_ble_eq_true rfl⟩) (rm0x hK hP) rfl hl.1 rfl (Nat.le_of_ble_eq_true rfl) dX3_about_2 ⟨Nat.zero_le _, Nat.zero_le _⟩ ?_
  refine lv_if_ne (x := FX3_isSite g b tb n z c p0) (tgt := 13) E.1 E.2.1 dX3_about_5 (by decide) (fun h5 => ?_) (fun h5 => ?_)
  · have h5 := h5
    refine lv_iload_n E.1 E.2.1 dX3_about_13 rfl (lv_at hl 2 rfl) ?_
    refine lv_iconst (v := 0) E.1 E.2.1 dX3_about_14 (by decide) ?_
    refine lv_bipush (v := 6) E.1 E.2.1 dX3_about_15 (by decide) ?_
    refine g_SR (As := [.int p1, .int 0, .int 6]) (rest := []) E hK (c_X3_within l D cI cB p1 0 6) (va_cwS 3 E.2.2.2.2 gX3_about_X3_within rfl rfl rfl (by decide +kernel) ⟨Nat.le_of_ble_eq_true rfl, Nat.le_of_ble_eq_true rfl⟩) rfl hl.1 rfl (Nat.le_of_ble_eq_true rfl) dX3_about_17 ⟨Nat.zero_le _, Nat.zero_le _⟩ ?_
    refine lv_if_eq (x := FX3_within p1 0 6) (tgt := 32) E.1 E.2.1 dX3_about_20 (by decide) (fun h20 => ?_) (fun h20 => ?_)
    · have h20 := h20
      refine lv_bipush (v := (-102)) E.1 E.2.1 dX3_about_32 (by decide) ?_
      exact W.iret (v := (-102)) E.1 E.2.1 hr (fun t ht _ => ⟨congrArg (fun z : Int32 => Outcome.returned (some (Value.int z))) (show (-102) = FX3_about g b tb n z c p0 p1 from by rw [FX3_about, if_neg h5, if_pos h20]), ht⟩) (fun q hq => by cases hq) dX3_about_34
    · have h20 := h20
      refine lv_aload_n E.1 E.2.1 dX3_about_23 rfl (lv_at hl 0 rfl) ?_
      refine lv_iload_n E.1 E.2.1 dX3_about_24 rfl (lv_at hl 1 rfl) ?_
      refine lv_iload_n E.1 E.2.1 dX3_about_25 rfl (lv_at hl 2 rfl) ?_
      refine g_VR (As := [.int p0, .int p1]) (rest := []) E hK hP (c_X3_siteNow l D cI cB ad g t gl b tb n z c hM p0 p1 (site_M hM h5)) (cwV 2 E.2.2.2.2 gX3_about_X3_siteNow rfl rfl rfl (by decide +kernel) ⟨Nat.le_of_ble_eq_true rfl, Nat.le_of_ble_eq_true rfl⟩) (rm0x hK hP) rfl hl.1 rfl (Nat.le_of_ble_eq_true rfl) dX3_about_26 ⟨Nat.zero_le _, Nat.zero_le _⟩ ?_
      refine lv_goto (tgt := 34) E.1 E.2.1 dX3_about_29 (by decide) ?_
      exact W.iret (v := FX3_siteNow g b tb n z c p0 p1) E.1 E.2.1 hr (fun t ht _ => ⟨congrArg (fun z : Int32 => Outcome.returned (some (Value.int z))) (show FX3_siteNow g b tb n z c p0 p1 = FX3_about g b tb n z c p0 p1 from by rw [FX3_about, if_neg h5, if_neg h20]), ht⟩) (fun q hq => by cases hq) dX3_about_34
  · have h5 := h5
    refine lv_bipush (v := (-101)) E.1 E.2.1 dX3_about_8 (by decide) ?_
    refine lv_goto (tgt := 34) E.1 E.2.1 dX3_about_10 (by decide) ?_
    exact W.iret (v := (-101)) E.1 E.2.1 hr (fun t ht _ => ⟨congrArg (fun z : Int32 => Outcome.returned (some (Value.int z))) (show (-101) = FX3_about g b tb n z c p0 p1 from by rw [FX3_about, if_pos h5]), ht⟩) (fun q hq => by cases hq) dX3_about_34
def FX3_as (g : Nat → Int32) (b : Nat → Nat → Int32) (tb : Nat → Nat → Int32) (n : Nat) (z : Nat) (c : Nat) (p0 : Int32) (p1 : Int32) : Int32 := (if FX3_isSite g b tb n z c p0 = 0 then (-101) else (if FX3_within p1 0 4 = 0 then (-102) else (if p1 = 0 then p0 else (if b 1 p0.toNatClampNeg = p1 then p0 else (if p1 = 2 then (if b 1 p0.toNatClampNeg = 4 then p0 else (-1)) else (-1))))))
set_option maxHeartbeats 4000000 in
set_option maxRecDepth 100000 in
/-- as -/
theorem c_X3_as (l : Launch) (D : va_G) (cI cB : ClassId) (ad : Nat → Nat) (g t : Nat → Int32) (gl : Nat → Int64) (b tb : Nat → Nat → Int32) (n z c : Nat) (hM : IM n z c g b) (p0 : Int32) (p1 : Int32) : Met l yX3_as wsX3_as ({ frames := 2, cells := 0, slots := 0, locals := 43 }) (GPc D cI cB (wM cI cB ad g t gl b tb) [.ref (ad 0), .int p0, .int p1]) (QcRead (FX3_as g b tb n z c p0 p1)) 0 0 (fun _ => False) := by
  refine Met.ofW (cc := cX3_as) (maxL := 4) (ret := (some .int)) (by decide) rfl ?_
  intro p e s m args below meth cd s₁ B hml hv
  obtain ⟨rfl, hP, hK⟩ := hv
  have hts := atoms_spec (ws := wsX3_as) B.pre
  have E : CallFix p m cd cX3_as 4 s _ wsX3_as RX3 := ⟨B.exec, B.bytes, hml, findClass_of_methodNamed B.named, hts⟩
  have hr := B.returns
  have hlocks := B.notSynchronized
  have h2n := pow6 (n := n) (by have := hM.2.1; omega)
  obtain ⟨hn, hn6, hz, hz21, hc, hc6, hfs⟩ := id hM
  have in_3 : ∀ w ∈ wsX30, w ∈ wsX3_as := fun _ h => List.mem_cons_of_mem _ (List.mem_append_right _ h)
  have w_0 : (Cond.fieldLink RX3 7 "SnowTermModel" "kindOf" "[I").before _ s = true := hts _ (by decide +kernel)
  have hl := lv_entry ([.ref (ad 0), .int p0, .int p1]) (n := 4) (Nat.le_of_ble_eq_true rfl)
  rw [lg_entry_eq]
  generalize (lg_sl ([.ref (ad 0), .int p0, .int p1]) ++ List.replicate (4 - (lg_sl ([.ref (ad 0), .int p0, .int p1])).length) Slot.unset).toArray = ls at hl ⊢
  have hl : lv_has ls 4 [(0, .ref (ad 0)), (1, .int p0), (2, .int p1)] := hl
  refine lv_aload_n E.1 E.2.1 dX3_as_0 rfl (lv_at hl 0 rfl) ?_
  refine lv_iload_n E.1 E.2.1 dX3_as_1 rfl (lv_at hl 1 rfl) ?_
  refine g_VR (As := [.int p0]) (rest := []) E hK hP (c_X3_isSite l D cI cB ad g t gl b tb n z c hM p0) (cwV 1 E.2.2.2.2 gX3_as_X3_isSite rfl rfl rfl (by decide +kernel) ⟨Nat.le_of_ble_eq_true rfl, Nat.le_of_ble_eq_true rfl⟩) (rm0x hK hP) rfl hl.1 rfl (Nat.le_of_ble_eq_true rfl) dX3_as_2 ⟨Nat.zero_le _, Nat.zero_le _⟩ ?_
  refine lv_if_ne (x := FX3_isSite g b tb n z c p0) (tgt := 11) E.1 E.2.1 dX3_as_5 (by decide) (fun h5 => ?_) (fun h5 => ?_)
  · have h5 := h5
    refine lv_iload_n E.1 E.2.1 dX3_as_11 rfl (lv_at hl 2 rfl) ?_
    refine lv_iconst (v := 0) E.1 E.2.1 dX3_as_12 (by decide) ?_
    refine lv_iconst (v := 4) E.1 E.2.1 dX3_as_13 (by decide) ?_
    refine g_SR (As := [.int p1, .int 0, .int 4]) (rest := []) E hK (c_X3_within l D cI cB p1 0 4) (va_cwS 3 E.2.2.2.2 gX3_as_X3_within rfl rfl rfl (by decide +kernel) ⟨Nat.le_of_ble_eq_true rfl, Nat.le_of_ble_eq_true rfl⟩) rfl hl.1 rfl (Nat.le_of_ble_eq_true rfl) dX3_as_14 ⟨Nat.zero_le _, Nat.zero_le _⟩ ?_
    refine lv_if_ne (x := FX3_within p1 0 4) (tgt := 23) E.1 E.2.1 dX3_as_17 (by decide) (fun h17 => ?_) (fun h17 => ?_)
    · have h17 := h17
      refine lv_aload_n E.1 E.2.1 dX3_as_23 rfl (lv_at hl 0 rfl) ?_
      refine mg_0_2 E hK hP in_3 w_0 dX3_as_24 ?_
      refine lv_iload_n E.1 E.2.1 dX3_as_27 rfl (lv_at hl 1 rfl) ?_
      refine ml_1 (i := p0) E hK hP (site_M hM h5) dX3_as_28 ?_
      refine lv_istore_n (lv' := [(3, .int (b 1 p0.toNatClampNeg)), (0, .ref (ad 0)), (1, .int p0), (2, .int p1)]) E.1 E.2.1 dX3_as_29 rfl hl (by decide) rfl (fun ls hl => ?_)
      refine lv_iload_n E.1 E.2.1 dX3_as_30 rfl (lv_at hl 3 rfl) ?_
      refine lv_if_eq (x := p1) (tgt := 49) E.1 E.2.1 dX3_as_31 (by decide) (fun h31 => ?_) (fun h31 => ?_)
      · have h31 := h31
        refine lv_iload_n E.1 E.2.1 dX3_as_49 rfl (lv_at hl 2 rfl) ?_
        refine lv_goto (tgt := 54) E.1 E.2.1 dX3_as_50 (by decide) ?_
        exact W.iret (v := p0) E.1 E.2.1 hr (fun t ht _ => ⟨congrArg (fun z : Int32 => Outcome.returned (some (Value.int z))) (show p0 = FX3_as g b tb n z c p0 p1 from by rw [FX3_as, if_neg h5, if_neg h17, if_pos h31]), ht⟩) (fun q hq => by cases hq) dX3_as_54
      · have h31 := h31
        refine lv_iload_n E.1 E.2.1 dX3_as_34 rfl (lv_at hl 0 rfl) ?_
        refine lv_iload_n E.1 E.2.1 dX3_as_35 rfl (lv_at hl 3 rfl) ?_
        refine lv_icmp_eq (x := b 1 p0.toNatClampNeg) (y := p1) (tgt := 49) E.1 E.2.1 dX3_as_36 (by decide) (fun h36 => ?_) (fun h36 => ?_)
        · have h36 := h36
          refine lv_iload_n E.1 E.2.1 dX3_as_49 rfl (lv_at hl 2 rfl) ?_
          refine lv_goto (tgt := 54) E.1 E.2.1 dX3_as_50 (by decide) ?_
          exact W.iret (v := p0) E.1 E.2.1 hr (fun t ht _ => ⟨congrArg (fun z : Int32 => Outcome.returned (some (Value.int z))) (show p0 = FX3_as g b tb n z c p0 p1 from by rw [FX3_as, if_neg h5, if_neg h17, if_neg h31, if_pos h36]), ht⟩) (fun q hq => by cases hq) dX3_as_54
        · have h36 := h36
          refine lv_iload_n E.1 E.2.1 dX3_as_39 rfl (lv_at hl 3 rfl) ?_
          refine lv_iconst (v := 2) E.1 E.2.1 dX3_as_40 (by decide) ?_
          refine lv_icmp_ne (x := p1) (y := 2) (tgt := 53) E.1 E.2.1 dX3_as_41 (by decide) (fun h41 => ?_) (fun h41 => ?_)
          · have h41 := h41
            refine lv_iconst (v := (-1)) E.1 E.2.1 dX3_as_53 (by decide) ?_
            exact W.iret (v := (-1)) E.1 E.2.1 hr (fun t ht _ => ⟨congrArg (fun z : Int32 => Outcome.returned (some (Value.int z))) (show (-1) = FX3_as g b tb n z c p0 p1 from by rw [FX3_as, if_neg h5, if_neg h17, if_neg h31, if_neg h36, if_neg h41]), ht⟩) (fun q hq => by cases hq) dX3_as_54
          · have h41 := h41
            refine lv_iload_n E.1 E.2.1 dX3_as_44 rfl (lv_at hl 0 rfl) ?_
            refine lv_iconst (v := 4) E.1 E.2.1 dX3_as_45 (by decide) ?_
            refine lv_icmp_ne (x := b 1 p0.toNatClampNeg) (y := 4) (tgt := 53) E.1 E.2.1 dX3_as_46 (by decide) (fun h46 => ?_) (fun h46 => ?_)
            · have h46 := h46
              refine lv_iconst (v := (-1)) E.1 E.2.1 dX3_as_53 (by decide) ?_
              exact W.iret (v := (-1)) E.1 E.2.1 hr (fun t ht _ => ⟨congrArg (fun z : Int32 => Outcome.returned (some (Value.int z))) (show (-1) = FX3_as g b tb n z c p0 p1 from by rw [FX3_as, if_neg h5, if_neg h17, if_neg h31, if_neg h36, if_pos h41, if_neg h46]), ht⟩) (fun q hq => by cases hq) dX3_as_54
            · have h46 := h46
              refine lv_iload_n E.1 E.2.1 dX3_as_49 rfl (lv_at hl 2 rfl) ?_
              refine lv_goto (tgt := 54) E.1 E.2.1 dX3_as_50 (by decide) ?_
              exact W.iret (v := p0) E.1 E.2.1 hr (fun t ht _ => ⟨congrArg (fun z : Int32 => Outcome.returned (some (Value.int z))) (show p0 = FX3_as g b tb n z c p0 p1 from by rw [FX3_as, if_neg h5, if_neg h17, if_neg h31, if_neg h36, if_pos h41, if_pos h46]), ht⟩) (fun q hq => by cases hq) dX3_as_54
    · have h17 := h17
      refine lv_bipush (v := (-102)) E.1 E.2.1 dX3_as_20 (by decide) ?_
      exact W.iret (v := (-102)) E.1 E.2.1 hr (fun t ht _ => ⟨congrArg (fun z : Int32 => Outcome.returned (some (Value.int z))) (show (-102) = FX3_as g b tb n z c p0 p1 from by rw [FX3_as, if_neg h5, if_pos h17]), ht⟩) (fun q hq => by cases hq) dX3_as_22
  · have h5 := h5
    refine lv_bipush (v := (-101)) E.1 E.2.1 dX3_as_8 (by decide) ?_
    exact W.iret (v := (-101)) E.1 E.2.1 hr (fun t ht _ => ⟨congrArg (fun z : Int32 => Outcome.returned (some (Value.int z))) (show (-101) = FX3_as g b tb n z c p0 p1 from by rw [FX3_as, if_pos h5]), ht⟩) (fun q hq => by cases hq) dX3_as_10
def FX3_keptNow_L4 (g : Nat → Int32) (b : Nat → Nat → Int32) (tb : Nat → Nat → Int32) (n : Nat) (z : Nat) (c : Nat) : Nat → Nat → Int32 → Int32
  | 0, k_2, x1_1 => x1_1
  | d_1 + 1, k_2, x1_1 => (if FX3_isKept g b tb n z c (nI k_2) (b 3 k_2) = 0 then FX3_keptNow_L4 g b tb n z c d_1 (k_2 + 1) (x1_1 + 0) else FX3_keptNow_L4 g b tb n z c d_1 (k_2 + 1) (x1_1 + 1))
def FX3_keptNow (g : Nat → Int32) (b : Nat → Nat → Int32) (tb : Nat → Nat → Int32) (n : Nat) (z : Nat) (c : Nat) : Int32 := FX3_keptNow_L4 g b tb n z c n 0 0
set_option maxHeartbeats 4000000 in
set_option maxRecDepth 100000 in
/-- how many are kept -/
theorem c_X3_keptNow (l : Launch) (D : va_G) (cI cB : ClassId) (ad : Nat → Nat) (g t : Nat → Int32) (gl : Nat → Int64) (b tb : Nat → Nat → Int32) (n z c : Nat) (hM : IM n z c g b)  : Met l yX3_keptNow wsX3_keptNow ({ frames := 1, cells := 0, slots := 0, locals := 22 }) (GPc D cI cB (wM cI cB ad g t gl b tb) [.ref (ad 0)]) (QcRead (FX3_keptNow g b tb n z c)) 0 0 (fun _ => False) := by
  refine Met.ofW (cc := cX3_keptNow) (maxL := 3) (ret := (some .int)) (by decide) rfl ?_
  intro p e s m args below meth cd s₁ B hml hv
  obtain ⟨rfl, hP, hK⟩ := hv
  have hts := atoms_spec (ws := wsX3_keptNow) B.pre
  have E : CallFix p m cd cX3_keptNow 3 s _ wsX3_keptNow RX3 := ⟨B.exec, B.bytes, hml, findClass_of_methodNamed B.named, hts⟩
  have hr := B.returns
  have hlocks := B.notSynchronized
  have h2n := pow6 (n := n) (by have := hM.2.1; omega)
  obtain ⟨hn, hn6, hz, hz21, hc, hc6, hfs⟩ := id hM
  have in_3 : ∀ w ∈ wsX30, w ∈ wsX3_keptNow := fun _ h => List.mem_cons_of_mem _ (List.mem_append_right _ h)
  have w_0 : (Cond.fieldLink RX3 94 "SnowTermModel" "sites" "I").before _ s = true := hts _ (by decide +kernel)
  have w_1 : (Cond.fieldLink RX3 16 "SnowTermModel" "deepOf" "[I").before _ s = true := hts _ (by decide +kernel)
  have hl := lv_entry ([.ref (ad 0)]) (n := 3) (Nat.le_of_ble_eq_true rfl)
  rw [lg_entry_eq]
  generalize (lg_sl ([.ref (ad 0)]) ++ List.replicate (3 - (lg_sl ([.ref (ad 0)])).length) Slot.unset).toArray = ls at hl ⊢
  have hl : lv_has ls 3 [(0, .ref (ad 0))] := hl
  refine lv_iconst (v := 0) E.1 E.2.1 dX3_keptNow_0 (by decide) ?_
  refine lv_istore_n (lv' := [(1, .int 0), (0, .ref (ad 0))]) E.1 E.2.1 dX3_keptNow_1 rfl hl (by decide) rfl (fun ls hl => ?_)
  refine lv_iconst (v := 0) E.1 E.2.1 dX3_keptNow_2 (by decide) ?_
  refine lv_istore_n (lv' := [(2, .int 0), (1, .int 0), (0, .ref (ad 0))]) E.1 E.2.1 dX3_keptNow_3 rfl hl (by decide) rfl (fun ls hl => ?_)
  have loop1 : ∀ (d_1 k_2 : Nat) (x1_1 : Int32) (ls : Array Slot), k_2 + d_1 = n → lv_has ls 3 [(2, .int (nI k_2)), (1, .int x1_1), (0, .ref (ad 0))] → W p l e (headSpec wsX3_keptNow { frames := 1, cells := 0, slots := 0, locals := 22 }).room s m ([.ref (ad 0)] : List Value).toArray below meth cd s.heap [] 0 0 (MQ below (QcRead (FX3_keptNow_L4 g b tb n z c d_1 k_2 x1_1)) ([.ref (ad 0)] : List Value).toArray s 0 0 (fun _ => False)) (F0 m 4 ls []) := by
    intro d_1
    induction d_1 with
    | zero =>
      intro k_2 x1_1 ls hk1 hl
      refine lv_iload_n E.1 E.2.1 dX3_keptNow_4 rfl (lv_at hl 0 rfl) ?_
      refine lv_aload_n E.1 E.2.1 dX3_keptNow_5 rfl (lv_at hl 2 rfl) ?_
      refine mg_0_1 E hK hP in_3 w_0 dX3_keptNow_6 ?_
      refine lv_topi (fun y_3 ey_3 => ?_)
      obtain rfl : y_3 = nI n := ey_3.trans (hn)
      refine lv_icmp_ge (x := nI k_2) (y := nI n) (tgt := 40) E.1 E.2.1 dX3_keptNow_9 (by decide) (fun _ => ?_) (fun h9 => absurd (nI_le (a := n) (b := k_2) (by omega) (by omega)) h9)
      refine lv_iload_n E.1 E.2.1 dX3_keptNow_40 rfl (lv_at hl 1 rfl) ?_
      exact W.iret (v := x1_1) E.1 E.2.1 hr (fun t ht _ => ⟨congrArg (fun z : Int32 => Outcome.returned (some (Value.int z))) (show x1_1 = FX3_keptNow_L4 g b tb n z c 0 k_2 x1_1 from by rw [FX3_keptNow_L4]), ht⟩) (fun q hq => by cases hq) dX3_keptNow_41
    | succ d_1 ih1 =>
      intro k_2 x1_1 ls hk1 hl
      refine lv_iload_n E.1 E.2.1 dX3_keptNow_4 rfl (lv_at hl 0 rfl) ?_
      refine lv_aload_n E.1 E.2.1 dX3_keptNow_5 rfl (lv_at hl 2 rfl) ?_
      refine mg_0_1 E hK hP in_3 w_0 dX3_keptNow_6 ?_
      refine lv_topi (fun y_4 ey_4 => ?_)
      obtain rfl : y_4 = nI n := ey_4.trans (hn)
      refine lv_icmp_ge (x := nI k_2) (y := nI n) (tgt := 40) E.1 E.2.1 dX3_keptNow_9 (by decide) (fun h9 => absurd h9 (nI_ge (a := k_2) (b := n) (by omega) (by omega))) (fun _ => ?_)
      refine lv_iload_n E.1 E.2.1 dX3_keptNow_12 rfl (lv_at hl 1 rfl) ?_
      refine lv_aload_n E.1 E.2.1 dX3_keptNow_13 rfl (lv_at hl 2 rfl) ?_
      refine lv_iload_n E.1 E.2.1 dX3_keptNow_14 rfl (lv_at hl 0 rfl) ?_
      refine lv_aload_n E.1 E.2.1 dX3_keptNow_15 rfl (lv_at hl 2 rfl) ?_
      refine mg_0_4 E hK hP in_3 w_1 dX3_keptNow_16 ?_
      refine lv_iload_n E.1 E.2.1 dX3_keptNow_19 rfl (lv_at hl 0 rfl) ?_
      refine ml_3 (i := nI k_2) E hK hP (vp_in_nI (by omega) (by omega)) dX3_keptNow_20 ?_
      refine lv_topi (fun y_5 ey_5 => ?_)
      obtain rfl : y_5 = b 3 k_2 := ey_5.trans (by rw [nI_clamp (show k_2 < 2 ^ 31 by omega)] <;> rfl)
      refine g_VR (As := [.int (nI k_2), .int (b 3 k_2)]) (rest := [.int x1_1]) E hK hP (c_X3_isKept l D cI cB ad g t gl b tb n z c hM (nI k_2) (b 3 k_2) (vp_in_nI (by omega) (by omega))) (cwV 2 E.2.2.2.2 gX3_keptNow_X3_isKept rfl rfl rfl (by decide +kernel) ⟨Nat.le_of_ble_eq_true rfl, Nat.le_of_ble_eq_true rfl⟩) (rm0x hK hP) rfl hl.1 rfl (Nat.le_of_ble_eq_true rfl) dX3_keptNow_21 ⟨Nat.zero_le _, Nat.zero_le _⟩ ?_
      refine lv_if_eq (x := FX3_isKept g b tb n z c (nI k_2) (b 3 k_2)) (tgt := 31) E.1 E.2.1 dX3_keptNow_24 (by decide) (fun h24 => ?_) (fun h24 => ?_)
      · have h24 := h24
        refine lv_iconst (v := 0) E.1 E.2.1 dX3_keptNow_31 (by decide) ?_
        refine lv_iadd (x := x1_1) (y := 0) E.1 E.2.1 dX3_keptNow_32 ?_
        refine lv_istore_n (lv' := [(1, .int (x1_1 + 0)), (2, .int (nI k_2)), (0, .ref (ad 0))]) E.1 E.2.1 dX3_keptNow_33 rfl hl (by decide) rfl (fun ls hl => ?_)
        refine lv_iinc (v := nI (k_2 + 1)) (k := 1) (lv' := [(2, .int (nI (k_2 + 1))), (1, .int (x1_1 + 0)), (0, .ref (ad 0))]) E.1 E.2.1 dX3_keptNow_34 hl rfl (nI_1 k_2) (by decide) rfl (fun ls hl => ?_)
        refine lv_goto (tgt := 4) E.1 E.2.1 dX3_keptNow_37 (by decide) ?_
        rw [show FX3_keptNow_L4 g b tb n z c (d_1 + 1) k_2 x1_1 = FX3_keptNow_L4 g b tb n z c d_1 (k_2 + 1) (x1_1 + 0) from by rw [FX3_keptNow_L4, if_pos h24]]
        exact ih1 (k_2 + 1) (x1_1 + 0) ls (by omega) (lv_sub hl [0, 1, 2] rfl)
      · have h24 := h24
        refine lv_iconst (v := 1) E.1 E.2.1 dX3_keptNow_27 (by decide) ?_
        refine lv_goto (tgt := 32) E.1 E.2.1 dX3_keptNow_28 (by decide) ?_
        refine lv_iadd (x := x1_1) (y := 1) E.1 E.2.1 dX3_keptNow_32 ?_
        refine lv_istore_n (lv' := [(1, .int (x1_1 + 1)), (2, .int (nI k_2)), (0, .ref (ad 0))]) E.1 E.2.1 dX3_keptNow_33 rfl hl (by decide) rfl (fun ls hl => ?_)
        refine lv_iinc (v := nI (k_2 + 1)) (k := 1) (lv' := [(2, .int (nI (k_2 + 1))), (1, .int (x1_1 + 1)), (0, .ref (ad 0))]) E.1 E.2.1 dX3_keptNow_34 hl rfl (nI_1 k_2) (by decide) rfl (fun ls hl => ?_)
        refine lv_goto (tgt := 4) E.1 E.2.1 dX3_keptNow_37 (by decide) ?_
        rw [show FX3_keptNow_L4 g b tb n z c (d_1 + 1) k_2 x1_1 = FX3_keptNow_L4 g b tb n z c d_1 (k_2 + 1) (x1_1 + 1) from by rw [FX3_keptNow_L4, if_neg h24]]
        exact ih1 (k_2 + 1) (x1_1 + 1) ls (by omega) (lv_sub hl [0, 1, 2] rfl)
  rw [show FX3_keptNow g b tb n z c = FX3_keptNow_L4 g b tb n z c n 0 0 from by rw [FX3_keptNow]]
  have hl : lv_has ls 3 [(2, .int (nI 0)), (1, .int 0), (0, .ref (ad 0))] := lv_sub hl [0, 1, 2] rfl
  exact loop1 _ _ 0 ls (by omega) (lv_sub hl [0, 1, 2] rfl)
def FX3_isKeptFor_L37 (g : Nat → Int32) (b : Nat → Nat → Int32) (tb : Nat → Nat → Int32) (n : Nat) (z : Nat) (c : Nat) (p0 : Int32) (p1 : Int32) (p2 : Nat) : Nat → Nat → Int32 → Int32 → Int32
  | 0, k_2, x4_1, x5_1 => x5_1
  | d_1 + 1, k_2, x4_1, x5_1 => (if x5_1 = 0 then FX3_isKeptFor_L37 g b tb n z c p0 p1 p2 d_1 (k_2 + 1) (FX3_notBelow (x4_1 - (FX3_meltsBy g b tb n z c p0 (g 8)))) 0 else (if FX3_isKept g b tb n z c p0 (FX3_notBelow (x4_1 - (FX3_meltsBy g b tb n z c p0 (g 8)))) = 0 then FX3_isKeptFor_L37 g b tb n z c p0 p1 p2 d_1 (k_2 + 1) (FX3_notBelow (x4_1 - (FX3_meltsBy g b tb n z c p0 (g 8)))) 0 else FX3_isKeptFor_L37 g b tb n z c p0 p1 p2 d_1 (k_2 + 1) (FX3_notBelow (x4_1 - (FX3_meltsBy g b tb n z c p0 (g 8)))) 1))
def FX3_isKeptFor (g : Nat → Int32) (b : Nat → Nat → Int32) (tb : Nat → Nat → Int32) (n : Nat) (z : Nat) (c : Nat) (p0 : Int32) (p1 : Int32) (p2 : Nat) : Int32 := (if 0 < nI p2 then FX3_isKeptFor_L37 g b tb n z c p0 p1 p2 p2 0 (FX3_atMost ((b 3 p0.toNatClampNeg) + p1)) 1 else (if FX3_isKept g b tb n z c p0 (FX3_atMost ((b 3 p0.toNatClampNeg) + p1)) = 0 then FX3_isKeptFor_L37 g b tb n z c p0 p1 p2 p2 0 (FX3_atMost ((b 3 p0.toNatClampNeg) + p1)) 0 else FX3_isKeptFor_L37 g b tb n z c p0 p1 p2 p2 0 (FX3_atMost ((b 3 p0.toNatClampNeg) + p1)) 1))
set_option maxHeartbeats 4000000 in
set_option maxRecDepth 100000 in
/-- is it kept so long -/
theorem c_X3_isKeptFor (l : Launch) (D : va_G) (cI cB : ClassId) (ad : Nat → Nat) (g t : Nat → Int32) (gl : Nat → Int64) (b tb : Nat → Nat → Int32) (n z c : Nat) (hM : IM n z c g b) (p0 : Int32) (p1 : Int32) (p2 : Nat) (hs0 : vp_in p0 6) (hq : p2 < 2 ^ 31) : Met l yX3_isKeptFor wsX3_isKeptFor ({ frames := 2, cells := 0, slots := 0, locals := 43 }) (GPc D cI cB (wM cI cB ad g t gl b tb) [.ref (ad 0), .int p0, .int p1, .int (nI p2)]) (QcRead (FX3_isKeptFor g b tb n z c p0 p1 p2)) 0 0 (fun _ => False) := by
  refine Met.ofW (cc := cX3_isKeptFor) (maxL := 7) (ret := (some .boolean)) (by decide) rfl ?_
  intro p e s m args below meth cd s₁ B hml hv
  obtain ⟨rfl, hP, hK⟩ := hv
  have hts := atoms_spec (ws := wsX3_isKeptFor) B.pre
  have E : CallFix p m cd cX3_isKeptFor 7 s _ wsX3_isKeptFor RX3 := ⟨B.exec, B.bytes, hml, findClass_of_methodNamed B.named, hts⟩
  have hr := B.returns
  have hlocks := B.notSynchronized
  have h2n := pow6 (n := n) (by have := hM.2.1; omega)
  obtain ⟨hn, hn6, hz, hz21, hc, hc6, hfs⟩ := id hM
  have in_3 : ∀ w ∈ wsX30, w ∈ wsX3_isKeptFor := fun _ h => List.mem_cons_of_mem _ (List.mem_append_right _ h)
  have w_0 : (Cond.fieldLink RX3 16 "SnowTermModel" "deepOf" "[I").before _ s = true := hts _ (by decide +kernel)
  have w_1 : (Cond.fieldLink RX3 97 "SnowTermModel" "sunNow" "I").before _ s = true := hts _ (by decide +kernel)
  have hl := lv_entry ([.ref (ad 0), .int p0, .int p1, .int (nI p2)]) (n := 7) (Nat.le_of_ble_eq_true rfl)
  rw [lg_entry_eq]
  generalize (lg_sl ([.ref (ad 0), .int p0, .int p1, .int (nI p2)]) ++ List.replicate (7 - (lg_sl ([.ref (ad 0), .int p0, .int p1, .int (nI p2)])).length) Slot.unset).toArray = ls at hl ⊢
  have hl : lv_has ls 7 [(0, .ref (ad 0)), (1, .int p0), (2, .int p1), (3, .int (nI p2))] := hl
  refine lv_aload_n E.1 E.2.1 dX3_isKeptFor_0 rfl (lv_at hl 0 rfl) ?_
  refine mg_0_4 E hK hP in_3 w_0 dX3_isKeptFor_1 ?_
  refine lv_iload_n E.1 E.2.1 dX3_isKeptFor_4 rfl (lv_at hl 1 rfl) ?_
  refine ml_3 (i := p0) E hK hP (hs0) dX3_isKeptFor_5 ?_
  refine lv_iload_n E.1 E.2.1 dX3_isKeptFor_6 rfl (lv_at hl 2 rfl) ?_
  refine lv_iadd (x := b 3 p0.toNatClampNeg) (y := p1) E.1 E.2.1 dX3_isKeptFor_7 ?_
  refine g_SR (As := [.int ((b 3 p0.toNatClampNeg) + p1)]) (rest := []) E hK (c_X3_atMost l D cI cB ((b 3 p0.toNatClampNeg) + p1)) (va_cwS 1 E.2.2.2.2 gX3_isKeptFor_X3_atMost rfl rfl rfl (by decide +kernel) ⟨Nat.le_of_ble_eq_true rfl, Nat.le_of_ble_eq_true rfl⟩) rfl hl.1 rfl (Nat.le_of_ble_eq_true rfl) dX3_isKeptFor_8 ⟨Nat.zero_le _, Nat.zero_le _⟩ ?_
  refine lv_istore (lv' := [(4, .int (FX3_atMost ((b 3 p0.toNatClampNeg) + p1))), (0, .ref (ad 0)), (1, .int p0), (2, .int p1), (3, .int (nI p2))]) E.1 E.2.1 dX3_isKeptFor_11 hl (by decide) rfl (fun ls hl => ?_)
  refine lv_iload_n E.1 E.2.1 dX3_isKeptFor_13 rfl (lv_at hl 4 rfl) ?_
  refine lv_if_gt (x := nI p2) (tgt := 27) E.1 E.2.1 dX3_isKeptFor_14 (by decide) (fun h14 => ?_) (fun h14 => ?_)
  · have h14 := h14
    refine lv_iconst (v := 1) E.1 E.2.1 dX3_isKeptFor_27 (by decide) ?_
    refine lv_goto (tgt := 32) E.1 E.2.1 dX3_isKeptFor_28 (by decide) ?_
    refine lv_istore (lv' := [(5, .int 1), (4, .int (FX3_atMost ((b 3 p0.toNatClampNeg) + p1))), (0, .ref (ad 0)), (1, .int p0), (2, .int p1), (3, .int (nI p2))]) E.1 E.2.1 dX3_isKeptFor_32 hl (by decide) rfl (fun ls hl => ?_)
    refine lv_iconst (v := 0) E.1 E.2.1 dX3_isKeptFor_34 (by decide) ?_
    refine lv_istore (lv' := [(6, .int 0), (5, .int 1), (4, .int (FX3_atMost ((b 3 p0.toNatClampNeg) + p1))), (0, .ref (ad 0)), (1, .int p0), (2, .int p1), (3, .int (nI p2))]) E.1 E.2.1 dX3_isKeptFor_35 hl (by decide) rfl (fun ls hl => ?_)
    have loop1 : ∀ (d_1 k_2 : Nat) (x4_1 x5_1 : Int32) (ls : Array Slot), k_2 + d_1 = p2 → (x5_1 = 0 ∨ x5_1 = 1) → lv_has ls 7 [(6, .int (nI k_2)), (4, .int x4_1), (5, .int x5_1), (0, .ref (ad 0)), (1, .int p0), (2, .int p1), (3, .int (nI p2))] → W p l e (headSpec wsX3_isKeptFor { frames := 2, cells := 0, slots := 0, locals := 43 }).room s m ([.ref (ad 0), .int p0, .int p1, .int (nI p2)] : List Value).toArray below meth cd s.heap [] 0 0 (MQ below (QcRead (FX3_isKeptFor_L37 g b tb n z c p0 p1 p2 d_1 k_2 x4_1 x5_1)) ([.ref (ad 0), .int p0, .int p1, .int (nI p2)] : List Value).toArray s 0 0 (fun _ => False)) (F0 m 37 ls []) := by
      intro d_1
      induction d_1 with
      | zero =>
        intro k_2 x4_1 x5_1 ls hk1 hbx5_1 hl
        refine lv_iload E.1 E.2.1 dX3_isKeptFor_37 (lv_at hl 0 rfl) ?_
        refine lv_iload_n E.1 E.2.1 dX3_isKeptFor_39 rfl (lv_at hl 6 rfl) ?_
        refine lv_icmp_ge (x := nI k_2) (y := nI p2) (tgt := 88) E.1 E.2.1 dX3_isKeptFor_40 (by decide) (fun _ => ?_) (fun h9 => absurd (nI_le (a := p2) (b := k_2) (by omega) (by omega)) h9)
        refine lv_iload E.1 E.2.1 dX3_isKeptFor_88 (lv_at hl 2 rfl) ?_
        exact W.zret (v := x5_1) E.1 E.2.1 hr (by rcases hbx5_1 with hq9 | hq9 <;> rw [hq9] <;> rfl) (fun t ht _ => ⟨congrArg (fun z : Int32 => Outcome.returned (some (Value.int z))) (show x5_1 = FX3_isKeptFor_L37 g b tb n z c p0 p1 p2 0 k_2 x4_1 x5_1 from by rw [FX3_isKeptFor_L37]), ht⟩) (fun q hq => by cases hq) dX3_isKeptFor_90
      | succ d_1 ih1 =>
        intro k_2 x4_1 x5_1 ls hk1 hbx5_1 hl
        refine lv_iload E.1 E.2.1 dX3_isKeptFor_37 (lv_at hl 0 rfl) ?_
        refine lv_iload_n E.1 E.2.1 dX3_isKeptFor_39 rfl (lv_at hl 6 rfl) ?_
        refine lv_icmp_ge (x := nI k_2) (y := nI p2) (tgt := 88) E.1 E.2.1 dX3_isKeptFor_40 (by decide) (fun h9 => absurd h9 (nI_ge (a := k_2) (b := p2) (by omega) (by omega))) (fun _ => ?_)
        refine lv_iload E.1 E.2.1 dX3_isKeptFor_43 (lv_at hl 1 rfl) ?_
        refine lv_aload_n E.1 E.2.1 dX3_isKeptFor_45 rfl (lv_at hl 3 rfl) ?_
        refine lv_iload_n E.1 E.2.1 dX3_isKeptFor_46 rfl (lv_at hl 4 rfl) ?_
        refine lv_aload_n E.1 E.2.1 dX3_isKeptFor_47 rfl (lv_at hl 3 rfl) ?_
        refine mg_0_8 E hK hP in_3 w_1 dX3_isKeptFor_48 ?_
        refine g_VR (As := [.int p0, .int (g 8)]) (rest := [.int x4_1]) E hK hP (c_X3_meltsBy l D cI cB ad g t gl b tb n z c hM p0 (g 8) (hs0)) (cwV 2 E.2.2.2.2 gX3_isKeptFor_X3_meltsBy rfl rfl rfl (by decide +kernel) ⟨Nat.le_of_ble_eq_true rfl, Nat.le_of_ble_eq_true rfl⟩) (rm0x hK hP) rfl hl.1 rfl (Nat.le_of_ble_eq_true rfl) dX3_isKeptFor_51 ⟨Nat.zero_le _, Nat.zero_le _⟩ ?_
        refine lv_isub (x := x4_1) (y := FX3_meltsBy g b tb n z c p0 (g 8)) E.1 E.2.1 dX3_isKeptFor_54 ?_
        refine g_SR (As := [.int (x4_1 - (FX3_meltsBy g b tb n z c p0 (g 8)))]) (rest := []) E hK (c_X3_notBelow l D cI cB (x4_1 - (FX3_meltsBy g b tb n z c p0 (g 8)))) (va_cwS 1 E.2.2.2.2 gX3_isKeptFor_X3_notBelow rfl rfl rfl (by decide +kernel) ⟨Nat.le_of_ble_eq_true rfl, Nat.le_of_ble_eq_true rfl⟩) rfl hl.1 rfl (Nat.le_of_ble_eq_true rfl) dX3_isKeptFor_55 ⟨Nat.zero_le _, Nat.zero_le _⟩ ?_
        refine lv_istore (lv' := [(4, .int (FX3_notBelow (x4_1 - (FX3_meltsBy g b tb n z c p0 (g 8))))), (6, .int (nI k_2)), (5, .int x5_1), (0, .ref (ad 0)), (1, .int p0), (2, .int p1), (3, .int (nI p2))]) E.1 E.2.1 dX3_isKeptFor_58 hl (by decide) rfl (fun ls hl => ?_)
        refine lv_iload E.1 E.2.1 dX3_isKeptFor_60 (lv_at hl 2 rfl) ?_
        refine lv_if_eq (x := x5_1) (tgt := 79) E.1 E.2.1 dX3_isKeptFor_62 (by decide) (fun h62 => ?_) (fun h62 => ?_)
        · have h62 := h62
          refine lv_iconst (v := 0) E.1 E.2.1 dX3_isKeptFor_79 (by decide) ?_
          refine lv_istore (lv' := [(5, .int 0), (4, .int (FX3_notBelow (x4_1 - (FX3_meltsBy g b tb n z c p0 (g 8))))), (6, .int (nI k_2)), (0, .ref (ad 0)), (1, .int p0), (2, .int p1), (3, .int (nI p2))]) E.1 E.2.1 dX3_isKeptFor_80 hl (by decide) rfl (fun ls hl => ?_)
          refine lv_iinc (v := nI (k_2 + 1)) (k := 2) (lv' := [(6, .int (nI (k_2 + 1))), (5, .int 0), (4, .int (FX3_notBelow (x4_1 - (FX3_meltsBy g b tb n z c p0 (g 8))))), (0, .ref (ad 0)), (1, .int p0), (2, .int p1), (3, .int (nI p2))]) E.1 E.2.1 dX3_isKeptFor_82 hl rfl (nI_1 k_2) (by decide) rfl (fun ls hl => ?_)
          refine lv_goto (tgt := 37) E.1 E.2.1 dX3_isKeptFor_85 (by decide) ?_
          rw [show FX3_isKeptFor_L37 g b tb n z c p0 p1 p2 (d_1 + 1) k_2 x4_1 x5_1 = FX3_isKeptFor_L37 g b tb n z c p0 p1 p2 d_1 (k_2 + 1) (FX3_notBelow (x4_1 - (FX3_meltsBy g b tb n z c p0 (g 8)))) 0 from by rw [FX3_isKeptFor_L37, if_pos h62]]
          exact ih1 (k_2 + 1) (FX3_notBelow (x4_1 - (FX3_meltsBy g b tb n z c p0 (g 8)))) 0 ls (by omega) (Or.inl rfl) (lv_sub hl [0, 2, 1, 3, 4, 5, 6] rfl)
        · have h62 := h62
          refine lv_aload_n E.1 E.2.1 dX3_isKeptFor_65 rfl (lv_at hl 3 rfl) ?_
          refine lv_iload_n E.1 E.2.1 dX3_isKeptFor_66 rfl (lv_at hl 4 rfl) ?_
          refine lv_iload E.1 E.2.1 dX3_isKeptFor_67 (lv_at hl 0 rfl) ?_
          refine g_VR (As := [.int p0, .int (FX3_notBelow (x4_1 - (FX3_meltsBy g b tb n z c p0 (g 8))))]) (rest := []) E hK hP (c_X3_isKept l D cI cB ad g t gl b tb n z c hM p0 (FX3_notBelow (x4_1 - (FX3_meltsBy g b tb n z c p0 (g 8)))) (hs0)) (cwV 2 E.2.2.2.2 gX3_isKeptFor_X3_isKept rfl rfl rfl (by decide +kernel) ⟨Nat.le_of_ble_eq_true rfl, Nat.le_of_ble_eq_true rfl⟩) (rm0x hK hP) rfl hl.1 rfl (Nat.le_of_ble_eq_true rfl) dX3_isKeptFor_69 ⟨Nat.zero_le _, Nat.zero_le _⟩ ?_
          refine lv_if_eq (x := FX3_isKept g b tb n z c p0 (FX3_notBelow (x4_1 - (FX3_meltsBy g b tb n z c p0 (g 8))))) (tgt := 79) E.1 E.2.1 dX3_isKeptFor_72 (by decide) (fun h72 => ?_) (fun h72 => ?_)
          · have h72 := h72
            refine lv_iconst (v := 0) E.1 E.2.1 dX3_isKeptFor_79 (by decide) ?_
            refine lv_istore (lv' := [(5, .int 0), (4, .int (FX3_notBelow (x4_1 - (FX3_meltsBy g b tb n z c p0 (g 8))))), (6, .int (nI k_2)), (0, .ref (ad 0)), (1, .int p0), (2, .int p1), (3, .int (nI p2))]) E.1 E.2.1 dX3_isKeptFor_80 hl (by decide) rfl (fun ls hl => ?_)
            refine lv_iinc (v := nI (k_2 + 1)) (k := 2) (lv' := [(6, .int (nI (k_2 + 1))), (5, .int 0), (4, .int (FX3_notBelow (x4_1 - (FX3_meltsBy g b tb n z c p0 (g 8))))), (0, .ref (ad 0)), (1, .int p0), (2, .int p1), (3, .int (nI p2))]) E.1 E.2.1 dX3_isKeptFor_82 hl rfl (nI_1 k_2) (by decide) rfl (fun ls hl => ?_)
            refine lv_goto (tgt := 37) E.1 E.2.1 dX3_isKeptFor_85 (by decide) ?_
            rw [show FX3_isKeptFor_L37 g b tb n z c p0 p1 p2 (d_1 + 1) k_2 x4_1 x5_1 = FX3_isKeptFor_L37 g b tb n z c p0 p1 p2 d_1 (k_2 + 1) (FX3_notBelow (x4_1 - (FX3_meltsBy g b tb n z c p0 (g 8)))) 0 from by rw [FX3_isKeptFor_L37, if_neg h62, if_pos h72]]
            exact ih1 (k_2 + 1) (FX3_notBelow (x4_1 - (FX3_meltsBy g b tb n z c p0 (g 8)))) 0 ls (by omega) (Or.inl rfl) (lv_sub hl [0, 2, 1, 3, 4, 5, 6] rfl)
          · have h72 := h72
            refine lv_iconst (v := 1) E.1 E.2.1 dX3_isKeptFor_75 (by decide) ?_
            refine lv_goto (tgt := 80) E.1 E.2.1 dX3_isKeptFor_76 (by decide) ?_
            refine lv_istore (lv' := [(5, .int 1), (4, .int (FX3_notBelow (x4_1 - (FX3_meltsBy g b tb n z c p0 (g 8))))), (6, .int (nI k_2)), (0, .ref (ad 0)), (1, .int p0), (2, .int p1), (3, .int (nI p2))]) E.1 E.2.1 dX3_isKeptFor_80 hl (by decide) rfl (fun ls hl => ?_)
            refine lv_iinc (v := nI (k_2 + 1)) (k := 2) (lv' := [(6, .int (nI (k_2 + 1))), (5, .int 1), (4, .int (FX3_notBelow (x4_1 - (FX3_meltsBy g b tb n z c p0 (g 8))))), (0, .ref (ad 0)), (1, .int p0), (2, .int p1), (3, .int (nI p2))]) E.1 E.2.1 dX3_isKeptFor_82 hl rfl (nI_1 k_2) (by decide) rfl (fun ls hl => ?_)
            refine lv_goto (tgt := 37) E.1 E.2.1 dX3_isKeptFor_85 (by decide) ?_
            rw [show FX3_isKeptFor_L37 g b tb n z c p0 p1 p2 (d_1 + 1) k_2 x4_1 x5_1 = FX3_isKeptFor_L37 g b tb n z c p0 p1 p2 d_1 (k_2 + 1) (FX3_notBelow (x4_1 - (FX3_meltsBy g b tb n z c p0 (g 8)))) 1 from by rw [FX3_isKeptFor_L37, if_neg h62, if_neg h72]]
            exact ih1 (k_2 + 1) (FX3_notBelow (x4_1 - (FX3_meltsBy g b tb n z c p0 (g 8)))) 1 ls (by omega) (Or.inr rfl) (lv_sub hl [0, 2, 1, 3, 4, 5, 6] rfl)
    rw [show FX3_isKeptFor g b tb n z c p0 p1 p2 = FX3_isKeptFor_L37 g b tb n z c p0 p1 p2 p2 0 (FX3_atMost ((b 3 p0.toNatClampNeg) + p1)) 1 from by rw [FX3_isKeptFor, if_pos h14]]
    have hl : lv_has ls 7 [(6, .int (nI 0)), (4, .int (FX3_atMost ((b 3 p0.toNatClampNeg) + p1))), (5, .int 1), (0, .ref (ad 0)), (1, .int p0), (2, .int p1), (3, .int (nI p2))] := lv_sub hl [0, 2, 1, 3, 4, 5, 6] rfl
    exact loop1 _ _ (FX3_atMost ((b 3 p0.toNatClampNeg) + p1)) 1 ls (by omega) (Or.inr rfl) (lv_sub hl [0, 1, 2, 3, 4, 5, 6] rfl)
  · have h14 := h14
    refine lv_aload_n E.1 E.2.1 dX3_isKeptFor_17 rfl (lv_at hl 1 rfl) ?_
    refine lv_iload_n E.1 E.2.1 dX3_isKeptFor_18 rfl (lv_at hl 2 rfl) ?_
    refine lv_iload E.1 E.2.1 dX3_isKeptFor_19 (lv_at hl 0 rfl) ?_
    refine g_VR (As := [.int p0, .int (FX3_atMost ((b 3 p0.toNatClampNeg) + p1))]) (rest := []) E hK hP (c_X3_isKept l D cI cB ad g t gl b tb n z c hM p0 (FX3_atMost ((b 3 p0.toNatClampNeg) + p1)) (hs0)) (cwV 2 E.2.2.2.2 gX3_isKeptFor_X3_isKept rfl rfl rfl (by decide +kernel) ⟨Nat.le_of_ble_eq_true rfl, Nat.le_of_ble_eq_true rfl⟩) (rm0x hK hP) rfl hl.1 rfl (Nat.le_of_ble_eq_true rfl) dX3_isKeptFor_21 ⟨Nat.zero_le _, Nat.zero_le _⟩ ?_
    refine lv_if_eq (x := FX3_isKept g b tb n z c p0 (FX3_atMost ((b 3 p0.toNatClampNeg) + p1))) (tgt := 31) E.1 E.2.1 dX3_isKeptFor_24 (by decide) (fun h24 => ?_) (fun h24 => ?_)
    · have h24 := h24
      refine lv_iconst (v := 0) E.1 E.2.1 dX3_isKeptFor_31 (by decide) ?_
      refine lv_istore (lv' := [(5, .int 0), (4, .int (FX3_atMost ((b 3 p0.toNatClampNeg) + p1))), (0, .ref (ad 0)), (1, .int p0), (2, .int p1), (3, .int (nI p2))]) E.1 E.2.1 dX3_isKeptFor_32 hl (by decide) rfl (fun ls hl => ?_)
      refine lv_iconst (v := 0) E.1 E.2.1 dX3_isKeptFor_34 (by decide) ?_
      refine lv_istore (lv' := [(6, .int 0), (5, .int 0), (4, .int (FX3_atMost ((b 3 p0.toNatClampNeg) + p1))), (0, .ref (ad 0)), (1, .int p0), (2, .int p1), (3, .int (nI p2))]) E.1 E.2.1 dX3_isKeptFor_35 hl (by decide) rfl (fun ls hl => ?_)
      have loop3 : ∀ (d_3 k_4 : Nat) (x4_3 x5_3 : Int32) (ls : Array Slot), k_4 + d_3 = p2 → (x5_3 = 0 ∨ x5_3 = 1) → lv_has ls 7 [(6, .int (nI k_4)), (4, .int x4_3), (5, .int x5_3), (0, .ref (ad 0)), (1, .int p0), (2, .int p1), (3, .int (nI p2))] → W p l e (headSpec wsX3_isKeptFor { frames := 2, cells := 0, slots := 0, locals := 43 }).room s m ([.ref (ad 0), .int p0, .int p1, .int (nI p2)] : List Value).toArray below meth cd s.heap [] 0 0 (MQ below (QcRead (FX3_isKeptFor_L37 g b tb n z c p0 p1 p2 d_3 k_4 x4_3 x5_3)) ([.ref (ad 0), .int p0, .int p1, .int (nI p2)] : List Value).toArray s 0 0 (fun _ => False)) (F0 m 37 ls []) := by
        intro d_3
        induction d_3 with
        | zero =>
          intro k_4 x4_3 x5_3 ls hk3 hbx5_3 hl
          refine lv_iload E.1 E.2.1 dX3_isKeptFor_37 (lv_at hl 0 rfl) ?_
          refine lv_iload_n E.1 E.2.1 dX3_isKeptFor_39 rfl (lv_at hl 6 rfl) ?_
          refine lv_icmp_ge (x := nI k_4) (y := nI p2) (tgt := 88) E.1 E.2.1 dX3_isKeptFor_40 (by decide) (fun _ => ?_) (fun h9 => absurd (nI_le (a := p2) (b := k_4) (by omega) (by omega)) h9)
          refine lv_iload E.1 E.2.1 dX3_isKeptFor_88 (lv_at hl 2 rfl) ?_
          exact W.zret (v := x5_3) E.1 E.2.1 hr (by rcases hbx5_3 with hq9 | hq9 <;> rw [hq9] <;> rfl) (fun t ht _ => ⟨congrArg (fun z : Int32 => Outcome.returned (some (Value.int z))) (show x5_3 = FX3_isKeptFor_L37 g b tb n z c p0 p1 p2 0 k_4 x4_3 x5_3 from by rw [FX3_isKeptFor_L37]), ht⟩) (fun q hq => by cases hq) dX3_isKeptFor_90
        | succ d_3 ih3 =>
          intro k_4 x4_3 x5_3 ls hk3 hbx5_3 hl
          refine lv_iload E.1 E.2.1 dX3_isKeptFor_37 (lv_at hl 0 rfl) ?_
          refine lv_iload_n E.1 E.2.1 dX3_isKeptFor_39 rfl (lv_at hl 6 rfl) ?_
          refine lv_icmp_ge (x := nI k_4) (y := nI p2) (tgt := 88) E.1 E.2.1 dX3_isKeptFor_40 (by decide) (fun h9 => absurd h9 (nI_ge (a := k_4) (b := p2) (by omega) (by omega))) (fun _ => ?_)
          refine lv_iload E.1 E.2.1 dX3_isKeptFor_43 (lv_at hl 1 rfl) ?_
          refine lv_aload_n E.1 E.2.1 dX3_isKeptFor_45 rfl (lv_at hl 3 rfl) ?_
          refine lv_iload_n E.1 E.2.1 dX3_isKeptFor_46 rfl (lv_at hl 4 rfl) ?_
          refine lv_aload_n E.1 E.2.1 dX3_isKeptFor_47 rfl (lv_at hl 3 rfl) ?_
          refine mg_0_8 E hK hP in_3 w_1 dX3_isKeptFor_48 ?_
          refine g_VR (As := [.int p0, .int (g 8)]) (rest := [.int x4_3]) E hK hP (c_X3_meltsBy l D cI cB ad g t gl b tb n z c hM p0 (g 8) (hs0)) (cwV 2 E.2.2.2.2 gX3_isKeptFor_X3_meltsBy rfl rfl rfl (by decide +kernel) ⟨Nat.le_of_ble_eq_true rfl, Nat.le_of_ble_eq_true rfl⟩) (rm0x hK hP) rfl hl.1 rfl (Nat.le_of_ble_eq_true rfl) dX3_isKeptFor_51 ⟨Nat.zero_le _, Nat.zero_le _⟩ ?_
          refine lv_isub (x := x4_3) (y := FX3_meltsBy g b tb n z c p0 (g 8)) E.1 E.2.1 dX3_isKeptFor_54 ?_
          refine g_SR (As := [.int (x4_3 - (FX3_meltsBy g b tb n z c p0 (g 8)))]) (rest := []) E hK (c_X3_notBelow l D cI cB (x4_3 - (FX3_meltsBy g b tb n z c p0 (g 8)))) (va_cwS 1 E.2.2.2.2 gX3_isKeptFor_X3_notBelow rfl rfl rfl (by decide +kernel) ⟨Nat.le_of_ble_eq_true rfl, Nat.le_of_ble_eq_true rfl⟩) rfl hl.1 rfl (Nat.le_of_ble_eq_true rfl) dX3_isKeptFor_55 ⟨Nat.zero_le _, Nat.zero_le _⟩ ?_
          refine lv_istore (lv' := [(4, .int (FX3_notBelow (x4_3 - (FX3_meltsBy g b tb n z c p0 (g 8))))), (6, .int (nI k_4)), (5, .int x5_3), (0, .ref (ad 0)), (1, .int p0), (2, .int p1), (3, .int (nI p2))]) E.1 E.2.1 dX3_isKeptFor_58 hl (by decide) rfl (fun ls hl => ?_)
          refine lv_iload E.1 E.2.1 dX3_isKeptFor_60 (lv_at hl 2 rfl) ?_
          refine lv_if_eq (x := x5_3) (tgt := 79) E.1 E.2.1 dX3_isKeptFor_62 (by decide) (fun h62 => ?_) (fun h62 => ?_)
          · have h62 := h62
            refine lv_iconst (v := 0) E.1 E.2.1 dX3_isKeptFor_79 (by decide) ?_
            refine lv_istore (lv' := [(5, .int 0), (4, .int (FX3_notBelow (x4_3 - (FX3_meltsBy g b tb n z c p0 (g 8))))), (6, .int (nI k_4)), (0, .ref (ad 0)), (1, .int p0), (2, .int p1), (3, .int (nI p2))]) E.1 E.2.1 dX3_isKeptFor_80 hl (by decide) rfl (fun ls hl => ?_)
            refine lv_iinc (v := nI (k_4 + 1)) (k := 2) (lv' := [(6, .int (nI (k_4 + 1))), (5, .int 0), (4, .int (FX3_notBelow (x4_3 - (FX3_meltsBy g b tb n z c p0 (g 8))))), (0, .ref (ad 0)), (1, .int p0), (2, .int p1), (3, .int (nI p2))]) E.1 E.2.1 dX3_isKeptFor_82 hl rfl (nI_1 k_4) (by decide) rfl (fun ls hl => ?_)
            refine lv_goto (tgt := 37) E.1 E.2.1 dX3_isKeptFor_85 (by decide) ?_
            rw [show FX3_isKeptFor_L37 g b tb n z c p0 p1 p2 (d_3 + 1) k_4 x4_3 x5_3 = FX3_isKeptFor_L37 g b tb n z c p0 p1 p2 d_3 (k_4 + 1) (FX3_notBelow (x4_3 - (FX3_meltsBy g b tb n z c p0 (g 8)))) 0 from by rw [FX3_isKeptFor_L37, if_pos h62]]
            exact ih3 (k_4 + 1) (FX3_notBelow (x4_3 - (FX3_meltsBy g b tb n z c p0 (g 8)))) 0 ls (by omega) (Or.inl rfl) (lv_sub hl [0, 2, 1, 3, 4, 5, 6] rfl)
          · have h62 := h62
            refine lv_aload_n E.1 E.2.1 dX3_isKeptFor_65 rfl (lv_at hl 3 rfl) ?_
            refine lv_iload_n E.1 E.2.1 dX3_isKeptFor_66 rfl (lv_at hl 4 rfl) ?_
            refine lv_iload E.1 E.2.1 dX3_isKeptFor_67 (lv_at hl 0 rfl) ?_
            refine g_VR (As := [.int p0, .int (FX3_notBelow (x4_3 - (FX3_meltsBy g b tb n z c p0 (g 8))))]) (rest := []) E hK hP (c_X3_isKept l D cI cB ad g t gl b tb n z c hM p0 (FX3_notBelow (x4_3 - (FX3_meltsBy g b tb n z c p0 (g 8)))) (hs0)) (cwV 2 E.2.2.2.2 gX3_isKeptFor_X3_isKept rfl rfl rfl (by decide +kernel) ⟨Nat.le_of_ble_eq_true rfl, Nat.le_of_ble_eq_true rfl⟩) (rm0x hK hP) rfl hl.1 rfl (Nat.le_of_ble_eq_true rfl) dX3_isKeptFor_69 ⟨Nat.zero_le _, Nat.zero_le _⟩ ?_
            refine lv_if_eq (x := FX3_isKept g b tb n z c p0 (FX3_notBelow (x4_3 - (FX3_meltsBy g b tb n z c p0 (g 8))))) (tgt := 79) E.1 E.2.1 dX3_isKeptFor_72 (by decide) (fun h72 => ?_) (fun h72 => ?_)
            · have h72 := h72
              refine lv_iconst (v := 0) E.1 E.2.1 dX3_isKeptFor_79 (by decide) ?_
              refine lv_istore (lv' := [(5, .int 0), (4, .int (FX3_notBelow (x4_3 - (FX3_meltsBy g b tb n z c p0 (g 8))))), (6, .int (nI k_4)), (0, .ref (ad 0)), (1, .int p0), (2, .int p1), (3, .int (nI p2))]) E.1 E.2.1 dX3_isKeptFor_80 hl (by decide) rfl (fun ls hl => ?_)
              refine lv_iinc (v := nI (k_4 + 1)) (k := 2) (lv' := [(6, .int (nI (k_4 + 1))), (5, .int 0), (4, .int (FX3_notBelow (x4_3 - (FX3_meltsBy g b tb n z c p0 (g 8))))), (0, .ref (ad 0)), (1, .int p0), (2, .int p1), (3, .int (nI p2))]) E.1 E.2.1 dX3_isKeptFor_82 hl rfl (nI_1 k_4) (by decide) rfl (fun ls hl => ?_)
              refine lv_goto (tgt := 37) E.1 E.2.1 dX3_isKeptFor_85 (by decide) ?_
              rw [show FX3_isKeptFor_L37 g b tb n z c p0 p1 p2 (d_3 + 1) k_4 x4_3 x5_3 = FX3_isKeptFor_L37 g b tb n z c p0 p1 p2 d_3 (k_4 + 1) (FX3_notBelow (x4_3 - (FX3_meltsBy g b tb n z c p0 (g 8)))) 0 from by rw [FX3_isKeptFor_L37, if_neg h62, if_pos h72]]
              exact ih3 (k_4 + 1) (FX3_notBelow (x4_3 - (FX3_meltsBy g b tb n z c p0 (g 8)))) 0 ls (by omega) (Or.inl rfl) (lv_sub hl [0, 2, 1, 3, 4, 5, 6] rfl)
            · have h72 := h72
              refine lv_iconst (v := 1) E.1 E.2.1 dX3_isKeptFor_75 (by decide) ?_
              refine lv_goto (tgt := 80) E.1 E.2.1 dX3_isKeptFor_76 (by decide) ?_
              refine lv_istore (lv' := [(5, .int 1), (4, .int (FX3_notBelow (x4_3 - (FX3_meltsBy g b tb n z c p0 (g 8))))), (6, .int (nI k_4)), (0, .ref (ad 0)), (1, .int p0), (2, .int p1), (3, .int (nI p2))]) E.1 E.2.1 dX3_isKeptFor_80 hl (by decide) rfl (fun ls hl => ?_)
              refine lv_iinc (v := nI (k_4 + 1)) (k := 2) (lv' := [(6, .int (nI (k_4 + 1))), (5, .int 1), (4, .int (FX3_notBelow (x4_3 - (FX3_meltsBy g b tb n z c p0 (g 8))))), (0, .ref (ad 0)), (1, .int p0), (2, .int p1), (3, .int (nI p2))]) E.1 E.2.1 dX3_isKeptFor_82 hl rfl (nI_1 k_4) (by decide) rfl (fun ls hl => ?_)
              refine lv_goto (tgt := 37) E.1 E.2.1 dX3_isKeptFor_85 (by decide) ?_
              rw [show FX3_isKeptFor_L37 g b tb n z c p0 p1 p2 (d_3 + 1) k_4 x4_3 x5_3 = FX3_isKeptFor_L37 g b tb n z c p0 p1 p2 d_3 (k_4 + 1) (FX3_notBelow (x4_3 - (FX3_meltsBy g b tb n z c p0 (g 8)))) 1 from by rw [FX3_isKeptFor_L37, if_neg h62, if_neg h72]]
              exact ih3 (k_4 + 1) (FX3_notBelow (x4_3 - (FX3_meltsBy g b tb n z c p0 (g 8)))) 1 ls (by omega) (Or.inr rfl) (lv_sub hl [0, 2, 1, 3, 4, 5, 6] rfl)
      rw [show FX3_isKeptFor g b tb n z c p0 p1 p2 = FX3_isKeptFor_L37 g b tb n z c p0 p1 p2 p2 0 (FX3_atMost ((b 3 p0.toNatClampNeg) + p1)) 0 from by rw [FX3_isKeptFor, if_neg h14, if_pos h24]]
      have hl : lv_has ls 7 [(6, .int (nI 0)), (4, .int (FX3_atMost ((b 3 p0.toNatClampNeg) + p1))), (5, .int 0), (0, .ref (ad 0)), (1, .int p0), (2, .int p1), (3, .int (nI p2))] := lv_sub hl [0, 2, 1, 3, 4, 5, 6] rfl
      exact loop3 _ _ (FX3_atMost ((b 3 p0.toNatClampNeg) + p1)) 0 ls (by omega) (Or.inl rfl) (lv_sub hl [0, 1, 2, 3, 4, 5, 6] rfl)
    · have h24 := h24
      refine lv_iconst (v := 1) E.1 E.2.1 dX3_isKeptFor_27 (by decide) ?_
      refine lv_goto (tgt := 32) E.1 E.2.1 dX3_isKeptFor_28 (by decide) ?_
      refine lv_istore (lv' := [(5, .int 1), (4, .int (FX3_atMost ((b 3 p0.toNatClampNeg) + p1))), (0, .ref (ad 0)), (1, .int p0), (2, .int p1), (3, .int (nI p2))]) E.1 E.2.1 dX3_isKeptFor_32 hl (by decide) rfl (fun ls hl => ?_)
      refine lv_iconst (v := 0) E.1 E.2.1 dX3_isKeptFor_34 (by decide) ?_
      refine lv_istore (lv' := [(6, .int 0), (5, .int 1), (4, .int (FX3_atMost ((b 3 p0.toNatClampNeg) + p1))), (0, .ref (ad 0)), (1, .int p0), (2, .int p1), (3, .int (nI p2))]) E.1 E.2.1 dX3_isKeptFor_35 hl (by decide) rfl (fun ls hl => ?_)
      have loop5 : ∀ (d_5 k_6 : Nat) (x4_5 x5_5 : Int32) (ls : Array Slot), k_6 + d_5 = p2 → (x5_5 = 0 ∨ x5_5 = 1) → lv_has ls 7 [(6, .int (nI k_6)), (4, .int x4_5), (5, .int x5_5), (0, .ref (ad 0)), (1, .int p0), (2, .int p1), (3, .int (nI p2))] → W p l e (headSpec wsX3_isKeptFor { frames := 2, cells := 0, slots := 0, locals := 43 }).room s m ([.ref (ad 0), .int p0, .int p1, .int (nI p2)] : List Value).toArray below meth cd s.heap [] 0 0 (MQ below (QcRead (FX3_isKeptFor_L37 g b tb n z c p0 p1 p2 d_5 k_6 x4_5 x5_5)) ([.ref (ad 0), .int p0, .int p1, .int (nI p2)] : List Value).toArray s 0 0 (fun _ => False)) (F0 m 37 ls []) := by
        intro d_5
        induction d_5 with
        | zero =>
          intro k_6 x4_5 x5_5 ls hk5 hbx5_5 hl
          refine lv_iload E.1 E.2.1 dX3_isKeptFor_37 (lv_at hl 0 rfl) ?_
          refine lv_iload_n E.1 E.2.1 dX3_isKeptFor_39 rfl (lv_at hl 6 rfl) ?_
          refine lv_icmp_ge (x := nI k_6) (y := nI p2) (tgt := 88) E.1 E.2.1 dX3_isKeptFor_40 (by decide) (fun _ => ?_) (fun h9 => absurd (nI_le (a := p2) (b := k_6) (by omega) (by omega)) h9)
          refine lv_iload E.1 E.2.1 dX3_isKeptFor_88 (lv_at hl 2 rfl) ?_
          exact W.zret (v := x5_5) E.1 E.2.1 hr (by rcases hbx5_5 with hq9 | hq9 <;> rw [hq9] <;> rfl) (fun t ht _ => ⟨congrArg (fun z : Int32 => Outcome.returned (some (Value.int z))) (show x5_5 = FX3_isKeptFor_L37 g b tb n z c p0 p1 p2 0 k_6 x4_5 x5_5 from by rw [FX3_isKeptFor_L37]), ht⟩) (fun q hq => by cases hq) dX3_isKeptFor_90
        | succ d_5 ih5 =>
          intro k_6 x4_5 x5_5 ls hk5 hbx5_5 hl
          refine lv_iload E.1 E.2.1 dX3_isKeptFor_37 (lv_at hl 0 rfl) ?_
          refine lv_iload_n E.1 E.2.1 dX3_isKeptFor_39 rfl (lv_at hl 6 rfl) ?_
          refine lv_icmp_ge (x := nI k_6) (y := nI p2) (tgt := 88) E.1 E.2.1 dX3_isKeptFor_40 (by decide) (fun h9 => absurd h9 (nI_ge (a := k_6) (b := p2) (by omega) (by omega))) (fun _ => ?_)
          refine lv_iload E.1 E.2.1 dX3_isKeptFor_43 (lv_at hl 1 rfl) ?_
          refine lv_aload_n E.1 E.2.1 dX3_isKeptFor_45 rfl (lv_at hl 3 rfl) ?_
          refine lv_iload_n E.1 E.2.1 dX3_isKeptFor_46 rfl (lv_at hl 4 rfl) ?_
          refine lv_aload_n E.1 E.2.1 dX3_isKeptFor_47 rfl (lv_at hl 3 rfl) ?_
          refine mg_0_8 E hK hP in_3 w_1 dX3_isKeptFor_48 ?_
          refine g_VR (As := [.int p0, .int (g 8)]) (rest := [.int x4_5]) E hK hP (c_X3_meltsBy l D cI cB ad g t gl b tb n z c hM p0 (g 8) (hs0)) (cwV 2 E.2.2.2.2 gX3_isKeptFor_X3_meltsBy rfl rfl rfl (by decide +kernel) ⟨Nat.le_of_ble_eq_true rfl, Nat.le_of_ble_eq_true rfl⟩) (rm0x hK hP) rfl hl.1 rfl (Nat.le_of_ble_eq_true rfl) dX3_isKeptFor_51 ⟨Nat.zero_le _, Nat.zero_le _⟩ ?_
          refine lv_isub (x := x4_5) (y := FX3_meltsBy g b tb n z c p0 (g 8)) E.1 E.2.1 dX3_isKeptFor_54 ?_
          refine g_SR (As := [.int (x4_5 - (FX3_meltsBy g b tb n z c p0 (g 8)))]) (rest := []) E hK (c_X3_notBelow l D cI cB (x4_5 - (FX3_meltsBy g b tb n z c p0 (g 8)))) (va_cwS 1 E.2.2.2.2 gX3_isKeptFor_X3_notBelow rfl rfl rfl (by decide +kernel) ⟨Nat.le_of_ble_eq_true rfl, Nat.le_of_ble_eq_true rfl⟩) rfl hl.1 rfl (Nat.le_of_ble_eq_true rfl) dX3_isKeptFor_55 ⟨Nat.zero_le _, Nat.zero_le _⟩ ?_
          refine lv_istore (lv' := [(4, .int (FX3_notBelow (x4_5 - (FX3_meltsBy g b tb n z c p0 (g 8))))), (6, .int (nI k_6)), (5, .int x5_5), (0, .ref (ad 0)), (1, .int p0), (2, .int p1), (3, .int (nI p2))]) E.1 E.2.1 dX3_isKeptFor_58 hl (by decide) rfl (fun ls hl => ?_)
          refine lv_iload E.1 E.2.1 dX3_isKeptFor_60 (lv_at hl 2 rfl) ?_
          refine lv_if_eq (x := x5_5) (tgt := 79) E.1 E.2.1 dX3_isKeptFor_62 (by decide) (fun h62 => ?_) (fun h62 => ?_)
          · have h62 := h62
            refine lv_iconst (v := 0) E.1 E.2.1 dX3_isKeptFor_79 (by decide) ?_
            refine lv_istore (lv' := [(5, .int 0), (4, .int (FX3_notBelow (x4_5 - (FX3_meltsBy g b tb n z c p0 (g 8))))), (6, .int (nI k_6)), (0, .ref (ad 0)), (1, .int p0), (2, .int p1), (3, .int (nI p2))]) E.1 E.2.1 dX3_isKeptFor_80 hl (by decide) rfl (fun ls hl => ?_)
            refine lv_iinc (v := nI (k_6 + 1)) (k := 2) (lv' := [(6, .int (nI (k_6 + 1))), (5, .int 0), (4, .int (FX3_notBelow (x4_5 - (FX3_meltsBy g b tb n z c p0 (g 8))))), (0, .ref (ad 0)), (1, .int p0), (2, .int p1), (3, .int (nI p2))]) E.1 E.2.1 dX3_isKeptFor_82 hl rfl (nI_1 k_6) (by decide) rfl (fun ls hl => ?_)
            refine lv_goto (tgt := 37) E.1 E.2.1 dX3_isKeptFor_85 (by decide) ?_
            rw [show FX3_isKeptFor_L37 g b tb n z c p0 p1 p2 (d_5 + 1) k_6 x4_5 x5_5 = FX3_isKeptFor_L37 g b tb n z c p0 p1 p2 d_5 (k_6 + 1) (FX3_notBelow (x4_5 - (FX3_meltsBy g b tb n z c p0 (g 8)))) 0 from by rw [FX3_isKeptFor_L37, if_pos h62]]
            exact ih5 (k_6 + 1) (FX3_notBelow (x4_5 - (FX3_meltsBy g b tb n z c p0 (g 8)))) 0 ls (by omega) (Or.inl rfl) (lv_sub hl [0, 2, 1, 3, 4, 5, 6] rfl)
          · have h62 := h62
            refine lv_aload_n E.1 E.2.1 dX3_isKeptFor_65 rfl (lv_at hl 3 rfl) ?_
            refine lv_iload_n E.1 E.2.1 dX3_isKeptFor_66 rfl (lv_at hl 4 rfl) ?_
            refine lv_iload E.1 E.2.1 dX3_isKeptFor_67 (lv_at hl 0 rfl) ?_
            refine g_VR (As := [.int p0, .int (FX3_notBelow (x4_5 - (FX3_meltsBy g b tb n z c p0 (g 8))))]) (rest := []) E hK hP (c_X3_isKept l D cI cB ad g t gl b tb n z c hM p0 (FX3_notBelow (x4_5 - (FX3_meltsBy g b tb n z c p0 (g 8)))) (hs0)) (cwV 2 E.2.2.2.2 gX3_isKeptFor_X3_isKept rfl rfl rfl (by decide +kernel) ⟨Nat.le_of_ble_eq_true rfl, Nat.le_of_ble_eq_true rfl⟩) (rm0x hK hP) rfl hl.1 rfl (Nat.le_of_ble_eq_true rfl) dX3_isKeptFor_69 ⟨Nat.zero_le _, Nat.zero_le _⟩ ?_
            refine lv_if_eq (x := FX3_isKept g b tb n z c p0 (FX3_notBelow (x4_5 - (FX3_meltsBy g b tb n z c p0 (g 8))))) (tgt := 79) E.1 E.2.1 dX3_isKeptFor_72 (by decide) (fun h72 => ?_) (fun h72 => ?_)
            · have h72 := h72
              refine lv_iconst (v := 0) E.1 E.2.1 dX3_isKeptFor_79 (by decide) ?_
              refine lv_istore (lv' := [(5, .int 0), (4, .int (FX3_notBelow (x4_5 - (FX3_meltsBy g b tb n z c p0 (g 8))))), (6, .int (nI k_6)), (0, .ref (ad 0)), (1, .int p0), (2, .int p1), (3, .int (nI p2))]) E.1 E.2.1 dX3_isKeptFor_80 hl (by decide) rfl (fun ls hl => ?_)
              refine lv_iinc (v := nI (k_6 + 1)) (k := 2) (lv' := [(6, .int (nI (k_6 + 1))), (5, .int 0), (4, .int (FX3_notBelow (x4_5 - (FX3_meltsBy g b tb n z c p0 (g 8))))), (0, .ref (ad 0)), (1, .int p0), (2, .int p1), (3, .int (nI p2))]) E.1 E.2.1 dX3_isKeptFor_82 hl rfl (nI_1 k_6) (by decide) rfl (fun ls hl => ?_)
              refine lv_goto (tgt := 37) E.1 E.2.1 dX3_isKeptFor_85 (by decide) ?_
              rw [show FX3_isKeptFor_L37 g b tb n z c p0 p1 p2 (d_5 + 1) k_6 x4_5 x5_5 = FX3_isKeptFor_L37 g b tb n z c p0 p1 p2 d_5 (k_6 + 1) (FX3_notBelow (x4_5 - (FX3_meltsBy g b tb n z c p0 (g 8)))) 0 from by rw [FX3_isKeptFor_L37, if_neg h62, if_pos h72]]
              exact ih5 (k_6 + 1) (FX3_notBelow (x4_5 - (FX3_meltsBy g b tb n z c p0 (g 8)))) 0 ls (by omega) (Or.inl rfl) (lv_sub hl [0, 2, 1, 3, 4, 5, 6] rfl)
            · have h72 := h72
              refine lv_iconst (v := 1) E.1 E.2.1 dX3_isKeptFor_75 (by decide) ?_
              refine lv_goto (tgt := 80) E.1 E.2.1 dX3_isKeptFor_76 (by decide) ?_
              refine lv_istore (lv' := [(5, .int 1), (4, .int (FX3_notBelow (x4_5 - (FX3_meltsBy g b tb n z c p0 (g 8))))), (6, .int (nI k_6)), (0, .ref (ad 0)), (1, .int p0), (2, .int p1), (3, .int (nI p2))]) E.1 E.2.1 dX3_isKeptFor_80 hl (by decide) rfl (fun ls hl => ?_)
              refine lv_iinc (v := nI (k_6 + 1)) (k := 2) (lv' := [(6, .int (nI (k_6 + 1))), (5, .int 1), (4, .int (FX3_notBelow (x4_5 - (FX3_meltsBy g b tb n z c p0 (g 8))))), (0, .ref (ad 0)), (1, .int p0), (2, .int p1), (3, .int (nI p2))]) E.1 E.2.1 dX3_isKeptFor_82 hl rfl (nI_1 k_6) (by decide) rfl (fun ls hl => ?_)
              refine lv_goto (tgt := 37) E.1 E.2.1 dX3_isKeptFor_85 (by decide) ?_
              rw [show FX3_isKeptFor_L37 g b tb n z c p0 p1 p2 (d_5 + 1) k_6 x4_5 x5_5 = FX3_isKeptFor_L37 g b tb n z c p0 p1 p2 d_5 (k_6 + 1) (FX3_notBelow (x4_5 - (FX3_meltsBy g b tb n z c p0 (g 8)))) 1 from by rw [FX3_isKeptFor_L37, if_neg h62, if_neg h72]]
              exact ih5 (k_6 + 1) (FX3_notBelow (x4_5 - (FX3_meltsBy g b tb n z c p0 (g 8)))) 1 ls (by omega) (Or.inr rfl) (lv_sub hl [0, 2, 1, 3, 4, 5, 6] rfl)
      rw [show FX3_isKeptFor g b tb n z c p0 p1 p2 = FX3_isKeptFor_L37 g b tb n z c p0 p1 p2 p2 0 (FX3_atMost ((b 3 p0.toNatClampNeg) + p1)) 1 from by rw [FX3_isKeptFor, if_neg h14, if_neg h24]]
      have hl : lv_has ls 7 [(6, .int (nI 0)), (4, .int (FX3_atMost ((b 3 p0.toNatClampNeg) + p1))), (5, .int 1), (0, .ref (ad 0)), (1, .int p0), (2, .int p1), (3, .int (nI p2))] := lv_sub hl [0, 2, 1, 3, 4, 5, 6] rfl
      exact loop5 _ _ (FX3_atMost ((b 3 p0.toNatClampNeg) + p1)) 1 ls (by omega) (Or.inr rfl) (lv_sub hl [0, 1, 2, 3, 4, 5, 6] rfl)
def FX3_needOf_L2 (g : Nat → Int32) (b : Nat → Nat → Int32) (tb : Nat → Nat → Int32) (n : Nat) (z : Nat) (c : Nat) (p0 : Int32) (p1 : Nat) : Nat → Nat → Int32
  | 0, k_2 => (-1)
  | d_1 + 1, k_2 => (if FX3_isKeptFor g b tb n z c p0 (nI k_2) p1 = 0 then FX3_needOf_L2 g b tb n z c p0 p1 d_1 (k_2 + 1) else nI k_2)
def FX3_needOf (g : Nat → Int32) (b : Nat → Nat → Int32) (tb : Nat → Nat → Int32) (n : Nat) (z : Nat) (c : Nat) (p0 : Int32) (p1 : Nat) : Int32 := FX3_needOf_L2 g b tb n z c p0 p1 31 0
set_option maxHeartbeats 4000000 in
set_option maxRecDepth 100000 in
/-- what a site needs -/
theorem c_X3_needOf (l : Launch) (D : va_G) (cI cB : ClassId) (ad : Nat → Nat) (g t : Nat → Int32) (gl : Nat → Int64) (b tb : Nat → Nat → Int32) (n z c : Nat) (hM : IM n z c g b) (p0 : Int32) (p1 : Nat) (hs0 : vp_in p0 6) (hq : p1 < 2 ^ 31) : Met l yX3_needOf wsX3_needOf ({ frames := 3, cells := 0, slots := 0, locals := 69 }) (GPc D cI cB (wM cI cB ad g t gl b tb) [.ref (ad 0), .int p0, .int (nI p1)]) (QcRead (FX3_needOf g b tb n z c p0 p1)) 0 0 (fun _ => False) := by
  refine Met.ofW (cc := cX3_needOf) (maxL := 4) (ret := (some .int)) (by decide) rfl ?_
  intro p e s m args below meth cd s₁ B hml hv
  obtain ⟨rfl, hP, hK⟩ := hv
  have hts := atoms_spec (ws := wsX3_needOf) B.pre
  have E : CallFix p m cd cX3_needOf 4 s _ wsX3_needOf RX3 := ⟨B.exec, B.bytes, hml, findClass_of_methodNamed B.named, hts⟩
  have hr := B.returns
  have hlocks := B.notSynchronized
  have h2n := pow6 (n := n) (by have := hM.2.1; omega)
  obtain ⟨hn, hn6, hz, hz21, hc, hc6, hfs⟩ := id hM
  have hl := lv_entry ([.ref (ad 0), .int p0, .int (nI p1)]) (n := 4) (Nat.le_of_ble_eq_true rfl)
  rw [lg_entry_eq]
  generalize (lg_sl ([.ref (ad 0), .int p0, .int (nI p1)]) ++ List.replicate (4 - (lg_sl ([.ref (ad 0), .int p0, .int (nI p1)])).length) Slot.unset).toArray = ls at hl ⊢
  have hl : lv_has ls 4 [(0, .ref (ad 0)), (1, .int p0), (2, .int (nI p1))] := hl
  refine lv_iconst (v := 0) E.1 E.2.1 dX3_needOf_0 (by decide) ?_
  refine lv_istore_n (lv' := [(3, .int 0), (0, .ref (ad 0)), (1, .int p0), (2, .int (nI p1))]) E.1 E.2.1 dX3_needOf_1 rfl hl (by decide) rfl (fun ls hl => ?_)
  have loop1 : ∀ (d_1 k_2 : Nat) (ls : Array Slot), k_2 + d_1 = 31 → lv_has ls 4 [(3, .int (nI k_2)), (0, .ref (ad 0)), (1, .int p0), (2, .int (nI p1))] → W p l e (headSpec wsX3_needOf { frames := 3, cells := 0, slots := 0, locals := 69 }).room s m ([.ref (ad 0), .int p0, .int (nI p1)] : List Value).toArray below meth cd s.heap [] 0 0 (MQ below (QcRead (FX3_needOf_L2 g b tb n z c p0 p1 d_1 k_2)) ([.ref (ad 0), .int p0, .int (nI p1)] : List Value).toArray s 0 0 (fun _ => False)) (F0 m 2 ls []) := by
    intro d_1
    induction d_1 with
    | zero =>
      intro k_2 ls hk1 hl
      refine lv_iload_n E.1 E.2.1 dX3_needOf_2 rfl (lv_at hl 0 rfl) ?_
      refine lv_bipush (v := 30) E.1 E.2.1 dX3_needOf_3 (by decide) ?_
      refine lv_icmp_gt (x := nI k_2) (y := 30) (tgt := 26) E.1 E.2.1 dX3_needOf_5 (by decide) (fun _ => ?_) (fun h9 => absurd (nI_lt (a := 30) (b := k_2) (by omega) (by omega)) h9)
      refine lv_iconst (v := (-1)) E.1 E.2.1 dX3_needOf_26 (by decide) ?_
      exact W.iret (v := (-1)) E.1 E.2.1 hr (fun t ht _ => ⟨congrArg (fun z : Int32 => Outcome.returned (some (Value.int z))) (show (-1) = FX3_needOf_L2 g b tb n z c p0 p1 0 k_2 from by rw [FX3_needOf_L2]), ht⟩) (fun q hq => by cases hq) dX3_needOf_27
    | succ d_1 ih1 =>
      intro k_2 ls hk1 hl
      refine lv_iload_n E.1 E.2.1 dX3_needOf_2 rfl (lv_at hl 0 rfl) ?_
      refine lv_bipush (v := 30) E.1 E.2.1 dX3_needOf_3 (by decide) ?_
      refine lv_icmp_gt (x := nI k_2) (y := 30) (tgt := 26) E.1 E.2.1 dX3_needOf_5 (by decide) (fun h9 => absurd h9 (nI_nlt (b := k_2) (a := 30) (by omega) (by omega))) (fun _ => ?_)
      refine lv_aload_n E.1 E.2.1 dX3_needOf_8 rfl (lv_at hl 1 rfl) ?_
      refine lv_iload_n E.1 E.2.1 dX3_needOf_9 rfl (lv_at hl 2 rfl) ?_
      refine lv_iload_n E.1 E.2.1 dX3_needOf_10 rfl (lv_at hl 0 rfl) ?_
      refine lv_iload_n E.1 E.2.1 dX3_needOf_11 rfl (lv_at hl 3 rfl) ?_
      refine g_VR (As := [.int p0, .int (nI k_2), .int (nI p1)]) (rest := []) E hK hP (c_X3_isKeptFor l D cI cB ad g t gl b tb n z c hM p0 (nI k_2) p1 (hs0) (by omega)) (cwV 3 E.2.2.2.2 gX3_needOf_X3_isKeptFor rfl rfl rfl (by decide +kernel) ⟨Nat.le_of_ble_eq_true rfl, Nat.le_of_ble_eq_true rfl⟩) (rm0x hK hP) rfl hl.1 rfl (Nat.le_of_ble_eq_true rfl) dX3_needOf_12 ⟨Nat.zero_le _, Nat.zero_le _⟩ ?_
      refine lv_if_eq (x := FX3_isKeptFor g b tb n z c p0 (nI k_2) p1) (tgt := 20) E.1 E.2.1 dX3_needOf_15 (by decide) (fun h15 => ?_) (fun h15 => ?_)
      · have h15 := h15
        refine lv_iinc (v := nI (k_2 + 1)) (k := 0) (lv' := [(3, .int (nI (k_2 + 1))), (0, .ref (ad 0)), (1, .int p0), (2, .int (nI p1))]) E.1 E.2.1 dX3_needOf_20 hl rfl (nI_1 k_2) (by decide) rfl (fun ls hl => ?_)
        refine lv_goto (tgt := 2) E.1 E.2.1 dX3_needOf_23 (by decide) ?_
        rw [show FX3_needOf_L2 g b tb n z c p0 p1 (d_1 + 1) k_2 = FX3_needOf_L2 g b tb n z c p0 p1 d_1 (k_2 + 1) from by rw [FX3_needOf_L2, if_pos h15]]
        exact ih1 (k_2 + 1) ls (by omega) (lv_sub hl [0, 1, 2, 3] rfl)
      · have h15 := h15
        refine lv_iload_n E.1 E.2.1 dX3_needOf_18 rfl (lv_at hl 0 rfl) ?_
        exact W.iret (v := nI k_2) E.1 E.2.1 hr (fun t ht _ => ⟨congrArg (fun z : Int32 => Outcome.returned (some (Value.int z))) (show nI k_2 = FX3_needOf_L2 g b tb n z c p0 p1 (d_1 + 1) k_2 from by rw [FX3_needOf_L2, if_neg h15]), ht⟩) (fun q hq => by cases hq) dX3_needOf_19
  rw [show FX3_needOf g b tb n z c p0 p1 = FX3_needOf_L2 g b tb n z c p0 p1 31 0 from by rw [FX3_needOf]]
  have hl : lv_has ls 4 [(3, .int (nI 0)), (0, .ref (ad 0)), (1, .int p0), (2, .int (nI p1))] := lv_sub hl [0, 1, 2, 3] rfl
  exact loop1 _ _ ls (by omega) (lv_sub hl [0, 1, 2, 3] rfl)
def FX3_keptBy_L5 (g : Nat → Int32) (b : Nat → Nat → Int32) (tb : Nat → Nat → Int32) (n : Nat) (z : Nat) (c : Nat) (p0 : Int32) (p1 : Int32) : Nat → Nat → Int32 → Int32
  | 0, k_2, x3_1 => x3_1
  | d_1 + 1, k_2, x3_1 => (if nI k_2 = p0 then (if FX3_isKept g b tb n z c (nI k_2) (FX3_atMost ((b 4 p0.toNatClampNeg) + (b 5 p1.toNatClampNeg))) = 0 then FX3_keptBy_L5 g b tb n z c p0 p1 d_1 (k_2 + 1) (x3_1 + 0) else FX3_keptBy_L5 g b tb n z c p0 p1 d_1 (k_2 + 1) (x3_1 + 1)) else (if nI k_2 = p1 then (if FX3_isKept g b tb n z c (nI k_2) (FX3_atMost ((b 4 p1.toNatClampNeg) + (b 5 p0.toNatClampNeg))) = 0 then FX3_keptBy_L5 g b tb n z c p0 p1 d_1 (k_2 + 1) (x3_1 + 0) else FX3_keptBy_L5 g b tb n z c p0 p1 d_1 (k_2 + 1) (x3_1 + 1)) else (if FX3_isKept g b tb n z c (nI k_2) (b 3 k_2) = 0 then FX3_keptBy_L5 g b tb n z c p0 p1 d_1 (k_2 + 1) (x3_1 + 0) else FX3_keptBy_L5 g b tb n z c p0 p1 d_1 (k_2 + 1) (x3_1 + 1))))
def FX3_keptBy (g : Nat → Int32) (b : Nat → Nat → Int32) (tb : Nat → Nat → Int32) (n : Nat) (z : Nat) (c : Nat) (p0 : Int32) (p1 : Int32) : Int32 := FX3_keptBy_L5 g b tb n z c p0 p1 n 0 0
set_option maxHeartbeats 4000000 in
set_option maxRecDepth 100000 in
/-- kept, if two are swapped -/
theorem c_X3_keptBy (l : Launch) (D : va_G) (cI cB : ClassId) (ad : Nat → Nat) (g t : Nat → Int32) (gl : Nat → Int64) (b tb : Nat → Nat → Int32) (n z c : Nat) (hM : IM n z c g b) (p0 : Int32) (p1 : Int32) (hs0 : vp_in p0 6) (hs1 : vp_in p1 6) : Met l yX3_keptBy wsX3_keptBy ({ frames := 1, cells := 0, slots := 0, locals := 22 }) (GPc D cI cB (wM cI cB ad g t gl b tb) [.ref (ad 0), .int p0, .int p1]) (QcRead (FX3_keptBy g b tb n z c p0 p1)) 0 0 (fun _ => False) := by
  refine Met.ofW (cc := cX3_keptBy) (maxL := 6) (ret := (some .int)) (by decide) rfl ?_
  intro p e s m args below meth cd s₁ B hml hv
  obtain ⟨rfl, hP, hK⟩ := hv
  have hts := atoms_spec (ws := wsX3_keptBy) B.pre
  have E : CallFix p m cd cX3_keptBy 6 s _ wsX3_keptBy RX3 := ⟨B.exec, B.bytes, hml, findClass_of_methodNamed B.named, hts⟩
  have hr := B.returns
  have hlocks := B.notSynchronized
  have h2n := pow6 (n := n) (by have := hM.2.1; omega)
  obtain ⟨hn, hn6, hz, hz21, hc, hc6, hfs⟩ := id hM
  have in_3 : ∀ w ∈ wsX30, w ∈ wsX3_keptBy := fun _ h => List.mem_cons_of_mem _ (List.mem_append_right _ h)
  have w_0 : (Cond.fieldLink RX3 94 "SnowTermModel" "sites" "I").before _ s = true := hts _ (by decide +kernel)
  have w_1 : (Cond.fieldLink RX3 16 "SnowTermModel" "deepOf" "[I").before _ s = true := hts _ (by decide +kernel)
  have w_2 : (Cond.fieldLink RX3 19 "SnowTermModel" "startOf" "[I").before _ s = true := hts _ (by decide +kernel)
  have w_3 : (Cond.fieldLink RX3 22 "SnowTermModel" "broughtTo" "[I").before _ s = true := hts _ (by decide +kernel)
  have hl := lv_entry ([.ref (ad 0), .int p0, .int p1]) (n := 6) (Nat.le_of_ble_eq_true rfl)
  rw [lg_entry_eq]
  generalize (lg_sl ([.ref (ad 0), .int p0, .int p1]) ++ List.replicate (6 - (lg_sl ([.ref (ad 0), .int p0, .int p1])).length) Slot.unset).toArray = ls at hl ⊢
  have hl : lv_has ls 6 [(0, .ref (ad 0)), (1, .int p0), (2, .int p1)] := hl
  refine lv_iconst (v := 0) E.1 E.2.1 dX3_keptBy_0 (by decide) ?_
  refine lv_istore_n (lv' := [(3, .int 0), (0, .ref (ad 0)), (1, .int p0), (2, .int p1)]) E.1 E.2.1 dX3_keptBy_1 rfl hl (by decide) rfl (fun ls hl => ?_)
  refine lv_iconst (v := 0) E.1 E.2.1 dX3_keptBy_2 (by decide) ?_
  refine lv_istore (lv' := [(4, .int 0), (3, .int 0), (0, .ref (ad 0)), (1, .int p0), (2, .int p1)]) E.1 E.2.1 dX3_keptBy_3 hl (by decide) rfl (fun ls hl => ?_)
  have loop1 : ∀ (d_1 k_2 : Nat) (x3_1 : Int32) (ls : Array Slot), k_2 + d_1 = n → lv_has ls 6 [(4, .int (nI k_2)), (3, .int x3_1), (0, .ref (ad 0)), (1, .int p0), (2, .int p1)] → W p l e (headSpec wsX3_keptBy { frames := 1, cells := 0, slots := 0, locals := 22 }).room s m ([.ref (ad 0), .int p0, .int p1] : List Value).toArray below meth cd s.heap [] 0 0 (MQ below (QcRead (FX3_keptBy_L5 g b tb n z c p0 p1 d_1 k_2 x3_1)) ([.ref (ad 0), .int p0, .int p1] : List Value).toArray s 0 0 (fun _ => False)) (F0 m 5 ls []) := by
    intro d_1
    induction d_1 with
    | zero =>
      intro k_2 x3_1 ls hk1 hl
      refine lv_iload E.1 E.2.1 dX3_keptBy_5 (lv_at hl 0 rfl) ?_
      refine lv_aload_n E.1 E.2.1 dX3_keptBy_7 rfl (lv_at hl 2 rfl) ?_
      refine mg_0_1 E hK hP in_3 w_0 dX3_keptBy_8 ?_
      refine lv_topi (fun y_3 ey_3 => ?_)
      obtain rfl : y_3 = nI n := ey_3.trans (hn)
      refine lv_icmp_ge (x := nI k_2) (y := nI n) (tgt := 98) E.1 E.2.1 dX3_keptBy_11 (by decide) (fun _ => ?_) (fun h9 => absurd (nI_le (a := n) (b := k_2) (by omega) (by omega)) h9)
      refine lv_iload_n E.1 E.2.1 dX3_keptBy_98 rfl (lv_at hl 1 rfl) ?_
      exact W.iret (v := x3_1) E.1 E.2.1 hr (fun t ht _ => ⟨congrArg (fun z : Int32 => Outcome.returned (some (Value.int z))) (show x3_1 = FX3_keptBy_L5 g b tb n z c p0 p1 0 k_2 x3_1 from by rw [FX3_keptBy_L5]), ht⟩) (fun q hq => by cases hq) dX3_keptBy_99
    | succ d_1 ih1 =>
      intro k_2 x3_1 ls hk1 hl
      refine lv_iload E.1 E.2.1 dX3_keptBy_5 (lv_at hl 0 rfl) ?_
      refine lv_aload_n E.1 E.2.1 dX3_keptBy_7 rfl (lv_at hl 2 rfl) ?_
      refine mg_0_1 E hK hP in_3 w_0 dX3_keptBy_8 ?_
      refine lv_topi (fun y_4 ey_4 => ?_)
      obtain rfl : y_4 = nI n := ey_4.trans (hn)
      refine lv_icmp_ge (x := nI k_2) (y := nI n) (tgt := 98) E.1 E.2.1 dX3_keptBy_11 (by decide) (fun h9 => absurd h9 (nI_ge (a := k_2) (b := n) (by omega) (by omega))) (fun _ => ?_)
      refine lv_iload E.1 E.2.1 dX3_keptBy_14 (lv_at hl 0 rfl) ?_
      refine lv_iload_n E.1 E.2.1 dX3_keptBy_16 rfl (lv_at hl 3 rfl) ?_
      refine lv_icmp_ne (x := nI k_2) (y := p0) (tgt := 39) E.1 E.2.1 dX3_keptBy_17 (by decide) (fun h17 => ?_) (fun h17 => ?_)
      · have h17 := h17
        refine lv_iload E.1 E.2.1 dX3_keptBy_39 (lv_at hl 0 rfl) ?_
        refine lv_iload_n E.1 E.2.1 dX3_keptBy_41 rfl (lv_at hl 4 rfl) ?_
        refine lv_icmp_ne (x := nI k_2) (y := p1) (tgt := 64) E.1 E.2.1 dX3_keptBy_42 (by decide) (fun h42 => ?_) (fun h42 => ?_)
        · have h42 := h42
          refine lv_aload_n E.1 E.2.1 dX3_keptBy_64 rfl (lv_at hl 2 rfl) ?_
          refine mg_0_4 E hK hP in_3 w_1 dX3_keptBy_65 ?_
          refine lv_iload E.1 E.2.1 dX3_keptBy_68 (lv_at hl 0 rfl) ?_
          refine ml_3 (i := nI k_2) E hK hP (vp_in_nI (by omega) (by omega)) dX3_keptBy_70 ?_
          refine lv_topi (fun y_5 ey_5 => ?_)
          obtain rfl : y_5 = b 3 k_2 := ey_5.trans (by rw [nI_clamp (show k_2 < 2 ^ 31 by omega)] <;> rfl)
          refine lv_istore (lv' := [(5, .int (b 3 k_2)), (4, .int (nI k_2)), (3, .int x3_1), (0, .ref (ad 0)), (1, .int p0), (2, .int p1)]) E.1 E.2.1 dX3_keptBy_71 hl (by decide) rfl (fun ls hl => ?_)
          refine lv_iload_n E.1 E.2.1 dX3_keptBy_73 rfl (lv_at hl 2 rfl) ?_
          refine lv_aload_n E.1 E.2.1 dX3_keptBy_74 rfl (lv_at hl 3 rfl) ?_
          refine lv_iload E.1 E.2.1 dX3_keptBy_75 (lv_at hl 1 rfl) ?_
          refine lv_iload E.1 E.2.1 dX3_keptBy_77 (lv_at hl 0 rfl) ?_
          refine g_VR (As := [.int (nI k_2), .int (b 3 k_2)]) (rest := [.int x3_1]) E hK hP (c_X3_isKept l D cI cB ad g t gl b tb n z c hM (nI k_2) (b 3 k_2) (vp_in_nI (by omega) (by omega))) (cwV 2 E.2.2.2.2 gX3_keptBy_X3_isKept rfl rfl rfl (by decide +kernel) ⟨Nat.le_of_ble_eq_true rfl, Nat.le_of_ble_eq_true rfl⟩) (rm0x hK hP) rfl hl.1 rfl (Nat.le_of_ble_eq_true rfl) dX3_keptBy_79 ⟨Nat.zero_le _, Nat.zero_le _⟩ ?_
          refine lv_if_eq (x := FX3_isKept g b tb n z c (nI k_2) (b 3 k_2)) (tgt := 89) E.1 E.2.1 dX3_keptBy_82 (by decide) (fun h82 => ?_) (fun h82 => ?_)
          · have h82 := h82
            refine lv_iconst (v := 0) E.1 E.2.1 dX3_keptBy_89 (by decide) ?_
            refine lv_iadd (x := x3_1) (y := 0) E.1 E.2.1 dX3_keptBy_90 ?_
            refine lv_istore_n (lv' := [(3, .int (x3_1 + 0)), (5, .int (b 3 k_2)), (4, .int (nI k_2)), (0, .ref (ad 0)), (1, .int p0), (2, .int p1)]) E.1 E.2.1 dX3_keptBy_91 rfl hl (by decide) rfl (fun ls hl => ?_)
            refine lv_iinc (v := nI (k_2 + 1)) (k := 2) (lv' := [(4, .int (nI (k_2 + 1))), (3, .int (x3_1 + 0)), (5, .int (b 3 k_2)), (0, .ref (ad 0)), (1, .int p0), (2, .int p1)]) E.1 E.2.1 dX3_keptBy_92 hl rfl (nI_1 k_2) (by decide) rfl (fun ls hl => ?_)
            refine lv_goto (tgt := 5) E.1 E.2.1 dX3_keptBy_95 (by decide) ?_
            rw [show FX3_keptBy_L5 g b tb n z c p0 p1 (d_1 + 1) k_2 x3_1 = FX3_keptBy_L5 g b tb n z c p0 p1 d_1 (k_2 + 1) (x3_1 + 0) from by rw [FX3_keptBy_L5, if_neg h17, if_neg h42, if_pos h82]]
            exact ih1 (k_2 + 1) (x3_1 + 0) ls (by omega) (lv_sub hl [0, 1, 3, 4, 5] rfl)
          · have h82 := h82
            refine lv_iconst (v := 1) E.1 E.2.1 dX3_keptBy_85 (by decide) ?_
            refine lv_goto (tgt := 90) E.1 E.2.1 dX3_keptBy_86 (by decide) ?_
            refine lv_iadd (x := x3_1) (y := 1) E.1 E.2.1 dX3_keptBy_90 ?_
            refine lv_istore_n (lv' := [(3, .int (x3_1 + 1)), (5, .int (b 3 k_2)), (4, .int (nI k_2)), (0, .ref (ad 0)), (1, .int p0), (2, .int p1)]) E.1 E.2.1 dX3_keptBy_91 rfl hl (by decide) rfl (fun ls hl => ?_)
            refine lv_iinc (v := nI (k_2 + 1)) (k := 2) (lv' := [(4, .int (nI (k_2 + 1))), (3, .int (x3_1 + 1)), (5, .int (b 3 k_2)), (0, .ref (ad 0)), (1, .int p0), (2, .int p1)]) E.1 E.2.1 dX3_keptBy_92 hl rfl (nI_1 k_2) (by decide) rfl (fun ls hl => ?_)
            refine lv_goto (tgt := 5) E.1 E.2.1 dX3_keptBy_95 (by decide) ?_
            rw [show FX3_keptBy_L5 g b tb n z c p0 p1 (d_1 + 1) k_2 x3_1 = FX3_keptBy_L5 g b tb n z c p0 p1 d_1 (k_2 + 1) (x3_1 + 1) from by rw [FX3_keptBy_L5, if_neg h17, if_neg h42, if_neg h82]]
            exact ih1 (k_2 + 1) (x3_1 + 1) ls (by omega) (lv_sub hl [0, 1, 3, 4, 5] rfl)
        · have h42 := h42
          refine lv_aload_n E.1 E.2.1 dX3_keptBy_45 rfl (lv_at hl 2 rfl) ?_
          refine mg_0_5 E hK hP in_3 w_2 dX3_keptBy_46 ?_
          refine lv_iload_n E.1 E.2.1 dX3_keptBy_49 rfl (lv_at hl 4 rfl) ?_
          refine ml_4 (i := p1) E hK hP (hs1) dX3_keptBy_50 ?_
          refine lv_aload_n E.1 E.2.1 dX3_keptBy_51 rfl (lv_at hl 2 rfl) ?_
          refine mg_0_6 E hK hP in_3 w_3 dX3_keptBy_52 ?_
          refine lv_iload_n E.1 E.2.1 dX3_keptBy_55 rfl (lv_at hl 3 rfl) ?_
          refine ml_5 (i := p0) E hK hP (hs0) dX3_keptBy_56 ?_
          refine lv_iadd (x := b 4 p1.toNatClampNeg) (y := b 5 p0.toNatClampNeg) E.1 E.2.1 dX3_keptBy_57 ?_
          refine g_SR (As := [.int ((b 4 p1.toNatClampNeg) + (b 5 p0.toNatClampNeg))]) (rest := []) E hK (c_X3_atMost l D cI cB ((b 4 p1.toNatClampNeg) + (b 5 p0.toNatClampNeg))) (va_cwS 1 E.2.2.2.2 gX3_keptBy_X3_atMost rfl rfl rfl (by decide +kernel) ⟨Nat.le_of_ble_eq_true rfl, Nat.le_of_ble_eq_true rfl⟩) rfl hl.1 rfl (Nat.le_of_ble_eq_true rfl) dX3_keptBy_58 ⟨Nat.zero_le _, Nat.zero_le _⟩ ?_
          refine lv_goto (tgt := 71) E.1 E.2.1 dX3_keptBy_61 (by decide) ?_
          refine lv_istore (lv' := [(5, .int (FX3_atMost ((b 4 p1.toNatClampNeg) + (b 5 p0.toNatClampNeg)))), (4, .int (nI k_2)), (3, .int x3_1), (0, .ref (ad 0)), (1, .int p0), (2, .int p1)]) E.1 E.2.1 dX3_keptBy_71 hl (by decide) rfl (fun ls hl => ?_)
          refine lv_iload_n E.1 E.2.1 dX3_keptBy_73 rfl (lv_at hl 2 rfl) ?_
          refine lv_aload_n E.1 E.2.1 dX3_keptBy_74 rfl (lv_at hl 3 rfl) ?_
          refine lv_iload E.1 E.2.1 dX3_keptBy_75 (lv_at hl 1 rfl) ?_
          refine lv_iload E.1 E.2.1 dX3_keptBy_77 (lv_at hl 0 rfl) ?_
          refine g_VR (As := [.int (nI k_2), .int (FX3_atMost ((b 4 p1.toNatClampNeg) + (b 5 p0.toNatClampNeg)))]) (rest := [.int x3_1]) E hK hP (c_X3_isKept l D cI cB ad g t gl b tb n z c hM (nI k_2) (FX3_atMost ((b 4 p1.toNatClampNeg) + (b 5 p0.toNatClampNeg))) (vp_in_nI (by omega) (by omega))) (cwV 2 E.2.2.2.2 gX3_keptBy_X3_isKept rfl rfl rfl (by decide +kernel) ⟨Nat.le_of_ble_eq_true rfl, Nat.le_of_ble_eq_true rfl⟩) (rm0x hK hP) rfl hl.1 rfl (Nat.le_of_ble_eq_true rfl) dX3_keptBy_79 ⟨Nat.zero_le _, Nat.zero_le _⟩ ?_
          refine lv_if_eq (x := FX3_isKept g b tb n z c (nI k_2) (FX3_atMost ((b 4 p1.toNatClampNeg) + (b 5 p0.toNatClampNeg)))) (tgt := 89) E.1 E.2.1 dX3_keptBy_82 (by decide) (fun h82 => ?_) (fun h82 => ?_)
          · have h82 := h82
            refine lv_iconst (v := 0) E.1 E.2.1 dX3_keptBy_89 (by decide) ?_
            refine lv_iadd (x := x3_1) (y := 0) E.1 E.2.1 dX3_keptBy_90 ?_
            refine lv_istore_n (lv' := [(3, .int (x3_1 + 0)), (5, .int (FX3_atMost ((b 4 p1.toNatClampNeg) + (b 5 p0.toNatClampNeg)))), (4, .int (nI k_2)), (0, .ref (ad 0)), (1, .int p0), (2, .int p1)]) E.1 E.2.1 dX3_keptBy_91 rfl hl (by decide) rfl (fun ls hl => ?_)
            refine lv_iinc (v := nI (k_2 + 1)) (k := 2) (lv' := [(4, .int (nI (k_2 + 1))), (3, .int (x3_1 + 0)), (5, .int (FX3_atMost ((b 4 p1.toNatClampNeg) + (b 5 p0.toNatClampNeg)))), (0, .ref (ad 0)), (1, .int p0), (2, .int p1)]) E.1 E.2.1 dX3_keptBy_92 hl rfl (nI_1 k_2) (by decide) rfl (fun ls hl => ?_)
            refine lv_goto (tgt := 5) E.1 E.2.1 dX3_keptBy_95 (by decide) ?_
            rw [show FX3_keptBy_L5 g b tb n z c p0 p1 (d_1 + 1) k_2 x3_1 = FX3_keptBy_L5 g b tb n z c p0 p1 d_1 (k_2 + 1) (x3_1 + 0) from by rw [FX3_keptBy_L5, if_neg h17, if_pos h42, if_pos h82]]
            exact ih1 (k_2 + 1) (x3_1 + 0) ls (by omega) (lv_sub hl [0, 1, 3, 4, 5] rfl)
          · have h82 := h82
            refine lv_iconst (v := 1) E.1 E.2.1 dX3_keptBy_85 (by decide) ?_
            refine lv_goto (tgt := 90) E.1 E.2.1 dX3_keptBy_86 (by decide) ?_
            refine lv_iadd (x := x3_1) (y := 1) E.1 E.2.1 dX3_keptBy_90 ?_
            refine lv_istore_n (lv' := [(3, .int (x3_1 + 1)), (5, .int (FX3_atMost ((b 4 p1.toNatClampNeg) + (b 5 p0.toNatClampNeg)))), (4, .int (nI k_2)), (0, .ref (ad 0)), (1, .int p0), (2, .int p1)]) E.1 E.2.1 dX3_keptBy_91 rfl hl (by decide) rfl (fun ls hl => ?_)
            refine lv_iinc (v := nI (k_2 + 1)) (k := 2) (lv' := [(4, .int (nI (k_2 + 1))), (3, .int (x3_1 + 1)), (5, .int (FX3_atMost ((b 4 p1.toNatClampNeg) + (b 5 p0.toNatClampNeg)))), (0, .ref (ad 0)), (1, .int p0), (2, .int p1)]) E.1 E.2.1 dX3_keptBy_92 hl rfl (nI_1 k_2) (by decide) rfl (fun ls hl => ?_)
            refine lv_goto (tgt := 5) E.1 E.2.1 dX3_keptBy_95 (by decide) ?_
            rw [show FX3_keptBy_L5 g b tb n z c p0 p1 (d_1 + 1) k_2 x3_1 = FX3_keptBy_L5 g b tb n z c p0 p1 d_1 (k_2 + 1) (x3_1 + 1) from by rw [FX3_keptBy_L5, if_neg h17, if_pos h42, if_neg h82]]
            exact ih1 (k_2 + 1) (x3_1 + 1) ls (by omega) (lv_sub hl [0, 1, 3, 4, 5] rfl)
      · have h17 := h17
        refine lv_aload_n E.1 E.2.1 dX3_keptBy_20 rfl (lv_at hl 2 rfl) ?_
        refine mg_0_5 E hK hP in_3 w_2 dX3_keptBy_21 ?_
        refine lv_iload_n E.1 E.2.1 dX3_keptBy_24 rfl (lv_at hl 3 rfl) ?_
        refine ml_4 (i := p0) E hK hP (hs0) dX3_keptBy_25 ?_
        refine lv_aload_n E.1 E.2.1 dX3_keptBy_26 rfl (lv_at hl 2 rfl) ?_
        refine mg_0_6 E hK hP in_3 w_3 dX3_keptBy_27 ?_
        refine lv_iload_n E.1 E.2.1 dX3_keptBy_30 rfl (lv_at hl 4 rfl) ?_
        refine ml_5 (i := p1) E hK hP (hs1) dX3_keptBy_31 ?_
        refine lv_iadd (x := b 4 p0.toNatClampNeg) (y := b 5 p1.toNatClampNeg) E.1 E.2.1 dX3_keptBy_32 ?_
        refine g_SR (As := [.int ((b 4 p0.toNatClampNeg) + (b 5 p1.toNatClampNeg))]) (rest := []) E hK (c_X3_atMost l D cI cB ((b 4 p0.toNatClampNeg) + (b 5 p1.toNatClampNeg))) (va_cwS 1 E.2.2.2.2 gX3_keptBy_X3_atMost rfl rfl rfl (by decide +kernel) ⟨Nat.le_of_ble_eq_true rfl, Nat.le_of_ble_eq_true rfl⟩) rfl hl.1 rfl (Nat.le_of_ble_eq_true rfl) dX3_keptBy_33 ⟨Nat.zero_le _, Nat.zero_le _⟩ ?_
        refine lv_goto (tgt := 71) E.1 E.2.1 dX3_keptBy_36 (by decide) ?_
        refine lv_istore (lv' := [(5, .int (FX3_atMost ((b 4 p0.toNatClampNeg) + (b 5 p1.toNatClampNeg)))), (4, .int (nI k_2)), (3, .int x3_1), (0, .ref (ad 0)), (1, .int p0), (2, .int p1)]) E.1 E.2.1 dX3_keptBy_71 hl (by decide) rfl (fun ls hl => ?_)
        refine lv_iload_n E.1 E.2.1 dX3_keptBy_73 rfl (lv_at hl 2 rfl) ?_
        refine lv_aload_n E.1 E.2.1 dX3_keptBy_74 rfl (lv_at hl 3 rfl) ?_
        refine lv_iload E.1 E.2.1 dX3_keptBy_75 (lv_at hl 1 rfl) ?_
        refine lv_iload E.1 E.2.1 dX3_keptBy_77 (lv_at hl 0 rfl) ?_
        refine g_VR (As := [.int (nI k_2), .int (FX3_atMost ((b 4 p0.toNatClampNeg) + (b 5 p1.toNatClampNeg)))]) (rest := [.int x3_1]) E hK hP (c_X3_isKept l D cI cB ad g t gl b tb n z c hM (nI k_2) (FX3_atMost ((b 4 p0.toNatClampNeg) + (b 5 p1.toNatClampNeg))) (vp_in_nI (by omega) (by omega))) (cwV 2 E.2.2.2.2 gX3_keptBy_X3_isKept rfl rfl rfl (by decide +kernel) ⟨Nat.le_of_ble_eq_true rfl, Nat.le_of_ble_eq_true rfl⟩) (rm0x hK hP) rfl hl.1 rfl (Nat.le_of_ble_eq_true rfl) dX3_keptBy_79 ⟨Nat.zero_le _, Nat.zero_le _⟩ ?_
        refine lv_if_eq (x := FX3_isKept g b tb n z c (nI k_2) (FX3_atMost ((b 4 p0.toNatClampNeg) + (b 5 p1.toNatClampNeg)))) (tgt := 89) E.1 E.2.1 dX3_keptBy_82 (by decide) (fun h82 => ?_) (fun h82 => ?_)
        · have h82 := h82
          refine lv_iconst (v := 0) E.1 E.2.1 dX3_keptBy_89 (by decide) ?_
          refine lv_iadd (x := x3_1) (y := 0) E.1 E.2.1 dX3_keptBy_90 ?_
          refine lv_istore_n (lv' := [(3, .int (x3_1 + 0)), (5, .int (FX3_atMost ((b 4 p0.toNatClampNeg) + (b 5 p1.toNatClampNeg)))), (4, .int (nI k_2)), (0, .ref (ad 0)), (1, .int p0), (2, .int p1)]) E.1 E.2.1 dX3_keptBy_91 rfl hl (by decide) rfl (fun ls hl => ?_)
          refine lv_iinc (v := nI (k_2 + 1)) (k := 2) (lv' := [(4, .int (nI (k_2 + 1))), (3, .int (x3_1 + 0)), (5, .int (FX3_atMost ((b 4 p0.toNatClampNeg) + (b 5 p1.toNatClampNeg)))), (0, .ref (ad 0)), (1, .int p0), (2, .int p1)]) E.1 E.2.1 dX3_keptBy_92 hl rfl (nI_1 k_2) (by decide) rfl (fun ls hl => ?_)
          refine lv_goto (tgt := 5) E.1 E.2.1 dX3_keptBy_95 (by decide) ?_
          rw [show FX3_keptBy_L5 g b tb n z c p0 p1 (d_1 + 1) k_2 x3_1 = FX3_keptBy_L5 g b tb n z c p0 p1 d_1 (k_2 + 1) (x3_1 + 0) from by rw [FX3_keptBy_L5, if_pos h17, if_pos h82]]
          exact ih1 (k_2 + 1) (x3_1 + 0) ls (by omega) (lv_sub hl [0, 1, 3, 4, 5] rfl)
        · have h82 := h82
          refine lv_iconst (v := 1) E.1 E.2.1 dX3_keptBy_85 (by decide) ?_
          refine lv_goto (tgt := 90) E.1 E.2.1 dX3_keptBy_86 (by decide) ?_
          refine lv_iadd (x := x3_1) (y := 1) E.1 E.2.1 dX3_keptBy_90 ?_
          refine lv_istore_n (lv' := [(3, .int (x3_1 + 1)), (5, .int (FX3_atMost ((b 4 p0.toNatClampNeg) + (b 5 p1.toNatClampNeg)))), (4, .int (nI k_2)), (0, .ref (ad 0)), (1, .int p0), (2, .int p1)]) E.1 E.2.1 dX3_keptBy_91 rfl hl (by decide) rfl (fun ls hl => ?_)
          refine lv_iinc (v := nI (k_2 + 1)) (k := 2) (lv' := [(4, .int (nI (k_2 + 1))), (3, .int (x3_1 + 1)), (5, .int (FX3_atMost ((b 4 p0.toNatClampNeg) + (b 5 p1.toNatClampNeg)))), (0, .ref (ad 0)), (1, .int p0), (2, .int p1)]) E.1 E.2.1 dX3_keptBy_92 hl rfl (nI_1 k_2) (by decide) rfl (fun ls hl => ?_)
          refine lv_goto (tgt := 5) E.1 E.2.1 dX3_keptBy_95 (by decide) ?_
          rw [show FX3_keptBy_L5 g b tb n z c p0 p1 (d_1 + 1) k_2 x3_1 = FX3_keptBy_L5 g b tb n z c p0 p1 d_1 (k_2 + 1) (x3_1 + 1) from by rw [FX3_keptBy_L5, if_pos h17, if_neg h82]]
          exact ih1 (k_2 + 1) (x3_1 + 1) ls (by omega) (lv_sub hl [0, 1, 3, 4, 5] rfl)
  rw [show FX3_keptBy g b tb n z c p0 p1 = FX3_keptBy_L5 g b tb n z c p0 p1 n 0 0 from by rw [FX3_keptBy]]
  have hl : lv_has ls 6 [(4, .int (nI 0)), (3, .int 0), (0, .ref (ad 0)), (1, .int p0), (2, .int p1)] := lv_sub hl [0, 1, 2, 3, 4] rfl
  exact loop1 _ _ 0 ls (by omega) (lv_sub hl [0, 1, 2, 3, 4] rfl)
def FX3_need (g : Nat → Int32) (b : Nat → Nat → Int32) (tb : Nat → Nat → Int32) (n : Nat) (z : Nat) (c : Nat) (p0 : Int32) (p1 : Int32) : Int32 := (if FX3_isSite g b tb n z c p0 = 0 then (-101) else (if FX3_within p1 0 9 = 0 then (-102) else FX3_needOf g b tb n z c p0 p1.toNatClampNeg))
set_option maxHeartbeats 4000000 in
set_option maxRecDepth 100000 in
/-- need -/
theorem c_X3_need (l : Launch) (D : va_G) (cI cB : ClassId) (ad : Nat → Nat) (g t : Nat → Int32) (gl : Nat → Int64) (b tb : Nat → Nat → Int32) (n z c : Nat) (hM : IM n z c g b) (p0 : Int32) (p1 : Int32) : Met l yX3_need wsX3_need ({ frames := 4, cells := 0, slots := 0, locals := 92 }) (GPc D cI cB (wM cI cB ad g t gl b tb) [.ref (ad 0), .int p0, .int p1]) (QcRead (FX3_need g b tb n z c p0 p1)) 0 0 (fun _ => False) := by
  refine Met.ofW (cc := cX3_need) (maxL := 3) (ret := (some .int)) (by decide) rfl ?_
  intro p e s m args below meth cd s₁ B hml hv
  obtain ⟨rfl, hP, hK⟩ := hv
  have hts := atoms_spec (ws := wsX3_need) B.pre
  have E : CallFix p m cd cX3_need 3 s _ wsX3_need RX3 := ⟨B.exec, B.bytes, hml, findClass_of_methodNamed B.named, hts⟩
  have hr := B.returns
  have hlocks := B.notSynchronized
  have h2n := pow6 (n := n) (by have := hM.2.1; omega)
  obtain ⟨hn, hn6, hz, hz21, hc, hc6, hfs⟩ := id hM
  have hl := lv_entry ([.ref (ad 0), .int p0, .int p1]) (n := 3) (Nat.le_of_ble_eq_true rfl)
  rw [lg_entry_eq]
  generalize (lg_sl ([.ref (ad 0), .int p0, .int p1]) ++ List.replicate (3 - (lg_sl ([.ref (ad 0), .int p0, .int p1])).length) Slot.unset).toArray = ls at hl ⊢
  have hl : lv_has ls 3 [(0, .ref (ad 0)), (1, .int p0), (2, .int p1)] := hl
  refine lv_aload_n E.1 E.2.1 dX3_need_0 rfl (lv_at hl 0 rfl) ?_
  refine lv_iload_n E.1 E.2.1 dX3_need_1 rfl (lv_at hl 1 rfl) ?_
  refine g_VR (As := [.int p0]) (rest := []) E hK hP (c_X3_isSite l D cI cB ad g t gl b tb n z c hM p0) (cwV 1 E.2.2.2.2 gX3_need_X3_isSite rfl rfl rfl (by decide +kernel) ⟨Nat.le_of_ble_eq_true rfl, Nat.le_of_ble_eq_true rfl⟩) (rm0x hK hP) rfl hl.1 rfl (Nat.le_of_ble_eq_true rfl) dX3_need_2 ⟨Nat.zero_le _, Nat.zero_le _⟩ ?_
  refine lv_if_ne (x := FX3_isSite g b tb n z c p0) (tgt := 13) E.1 E.2.1 dX3_need_5 (by decide) (fun h5 => ?_) (fun h5 => ?_)
  · have h5 := h5
    refine lv_iload_n E.1 E.2.1 dX3_need_13 rfl (lv_at hl 2 rfl) ?_
    refine lv_iconst (v := 0) E.1 E.2.1 dX3_need_14 (by decide) ?_
    refine lv_bipush (v := 9) E.1 E.2.1 dX3_need_15 (by decide) ?_
    refine g_SR (As := [.int p1, .int 0, .int 9]) (rest := []) E hK (c_X3_within l D cI cB p1 0 9) (va_cwS 3 E.2.2.2.2 gX3_need_X3_within rfl rfl rfl (by decide +kernel) ⟨Nat.le_of_ble_eq_true rfl, Nat.le_of_ble_eq_true rfl⟩) rfl hl.1 rfl (Nat.le_of_ble_eq_true rfl) dX3_need_17 ⟨Nat.zero_le _, Nat.zero_le _⟩ ?_
    refine lv_if_eq (x := FX3_within p1 0 9) (tgt := 32) E.1 E.2.1 dX3_need_20 (by decide) (fun h20 => ?_) (fun h20 => ?_)
    · have h20 := h20
      refine lv_bipush (v := (-102)) E.1 E.2.1 dX3_need_32 (by decide) ?_
      exact W.iret (v := (-102)) E.1 E.2.1 hr (fun t ht _ => ⟨congrArg (fun z : Int32 => Outcome.returned (some (Value.int z))) (show (-102) = FX3_need g b tb n z c p0 p1 from by rw [FX3_need, if_neg h5, if_pos h20]), ht⟩) (fun q hq => by cases hq) dX3_need_34
    · have h20 := h20
      refine lv_aload_n E.1 E.2.1 dX3_need_23 rfl (lv_at hl 0 rfl) ?_
      refine lv_iload_n E.1 E.2.1 dX3_need_24 rfl (lv_at hl 1 rfl) ?_
      refine lv_iload_n E.1 E.2.1 dX3_need_25 rfl (lv_at hl 2 rfl) ?_
      refine lv_topi (fun y_1 ey_1 => ?_)
      obtain rfl : y_1 = nI p1.toNatClampNeg := ey_1.trans (nI_cl (within_t h20).1)
      refine g_VR (As := [.int p0, .int (nI p1.toNatClampNeg)]) (rest := []) E hK hP (c_X3_needOf l D cI cB ad g t gl b tb n z c hM p0 p1.toNatClampNeg (site_M hM h5) (cl_lt _)) (cwV 2 E.2.2.2.2 gX3_need_X3_needOf rfl rfl rfl (by decide +kernel) ⟨Nat.le_of_ble_eq_true rfl, Nat.le_of_ble_eq_true rfl⟩) (rm0x hK hP) rfl hl.1 rfl (Nat.le_of_ble_eq_true rfl) dX3_need_26 ⟨Nat.zero_le _, Nat.zero_le _⟩ ?_
      refine lv_goto (tgt := 34) E.1 E.2.1 dX3_need_29 (by decide) ?_
      exact W.iret (v := FX3_needOf g b tb n z c p0 p1.toNatClampNeg) E.1 E.2.1 hr (fun t ht _ => ⟨congrArg (fun z : Int32 => Outcome.returned (some (Value.int z))) (show FX3_needOf g b tb n z c p0 p1.toNatClampNeg = FX3_need g b tb n z c p0 p1 from by rw [FX3_need, if_neg h5, if_neg h20]), ht⟩) (fun q hq => by cases hq) dX3_need_34
  · have h5 := h5
    refine lv_bipush (v := (-101)) E.1 E.2.1 dX3_need_8 (by decide) ?_
    refine lv_goto (tgt := 34) E.1 E.2.1 dX3_need_10 (by decide) ?_
    exact W.iret (v := (-101)) E.1 E.2.1 hr (fun t ht _ => ⟨congrArg (fun z : Int32 => Outcome.returned (some (Value.int z))) (show (-101) = FX3_need g b tb n z c p0 p1 from by rw [FX3_need, if_pos h5]), ht⟩) (fun q hq => by cases hq) dX3_need_34
def FX3_errorNow_L25 (g : Nat → Int32) (b : Nat → Nat → Int32) (tb : Nat → Nat → Int32) (n : Nat) (z : Nat) (c : Nat) (p0 : Int32) (k_2 : Nat) (x2_1 : Int32) (x3_1 : Int32) : Nat → Nat → Int32 → Int32 → Int32 × Int32
  | 0, k_7, x2_6, x3_6 => (x2_6, x3_6)
  | d_6 + 1, k_7, x2_6, x3_6 => (if FX3_keptBy g b tb n z c (nI k_2) (nI k_7) ≤ x3_6 then (if FX3_keptBy g b tb n z c (nI k_2) (nI k_7) ≤ x3_6 then FX3_errorNow_L25 g b tb n z c p0 k_2 x2_1 x3_1 d_6 (k_7 + 1) x2_6 x3_6 else FX3_errorNow_L25 g b tb n z c p0 k_2 x2_1 x3_1 d_6 (k_7 + 1) x2_6 (FX3_keptBy g b tb n z c (nI k_2) (nI k_7))) else (if FX3_keptBy g b tb n z c (nI k_2) (nI k_7) ≤ x3_6 then FX3_errorNow_L25 g b tb n z c p0 k_2 x2_1 x3_1 d_6 (k_7 + 1) ((10 * (nI k_2)) + (nI k_7)) x3_6 else FX3_errorNow_L25 g b tb n z c p0 k_2 x2_1 x3_1 d_6 (k_7 + 1) ((10 * (nI k_2)) + (nI k_7)) (FX3_keptBy g b tb n z c (nI k_2) (nI k_7))))
def FX3_errorNow_L10 (g : Nat → Int32) (b : Nat → Nat → Int32) (tb : Nat → Nat → Int32) (n : Nat) (z : Nat) (c : Nat) (p0 : Int32) : Nat → Nat → Int32 → Int32 → Int32
  | 0, k_2, x2_1, x3_1 => (if x2_1 = (-1) then x2_1 else (if p0 = 0 then x2_1 else x3_1))
  | d_1 + 1, k_2, x2_1, x3_1 => FX3_errorNow_L10 g b tb n z c p0 d_1 (k_2 + 1) ((FX3_errorNow_L25 g b tb n z c p0 k_2 x2_1 x3_1 (n - (k_2 + 1)) (k_2 + 1) x2_1 x3_1).1) ((FX3_errorNow_L25 g b tb n z c p0 k_2 x2_1 x3_1 (n - (k_2 + 1)) (k_2 + 1) x2_1 x3_1).2)
def FX3_errorNow (g : Nat → Int32) (b : Nat → Nat → Int32) (tb : Nat → Nat → Int32) (n : Nat) (z : Nat) (c : Nat) (p0 : Int32) : Int32 := FX3_errorNow_L10 g b tb n z c p0 n 0 (-1) (FX3_keptNow g b tb n z c)
set_option maxHeartbeats 4000000 in
set_option maxRecDepth 100000 in
/-- the best error -/
theorem c_X3_errorNow (l : Launch) (D : va_G) (cI cB : ClassId) (ad : Nat → Nat) (g t : Nat → Int32) (gl : Nat → Int64) (b tb : Nat → Nat → Int32) (n z c : Nat) (hM : IM n z c g b) (p0 : Int32) : Met l yX3_errorNow wsX3_errorNow ({ frames := 2, cells := 0, slots := 0, locals := 47 }) (GPc D cI cB (wM cI cB ad g t gl b tb) [.ref (ad 0), .int p0]) (QcRead (FX3_errorNow g b tb n z c p0)) 0 0 (fun _ => False) := by
  refine Met.ofW (cc := cX3_errorNow) (maxL := 7) (ret := (some .int)) (by decide) rfl ?_
  intro p e s m args below meth cd s₁ B hml hv
  obtain ⟨rfl, hP, hK⟩ := hv
  have hts := atoms_spec (ws := wsX3_errorNow) B.pre
  have E : CallFix p m cd cX3_errorNow 7 s _ wsX3_errorNow RX3 := ⟨B.exec, B.bytes, hml, findClass_of_methodNamed B.named, hts⟩
  have hr := B.returns
  have hlocks := B.notSynchronized
  have h2n := pow6 (n := n) (by have := hM.2.1; omega)
  obtain ⟨hn, hn6, hz, hz21, hc, hc6, hfs⟩ := id hM
  have in_3 : ∀ w ∈ wsX30, w ∈ wsX3_errorNow := fun _ h => List.mem_cons_of_mem _ (List.mem_append_right _ h)
  have w_0 : (Cond.fieldLink RX3 94 "SnowTermModel" "sites" "I").before _ s = true := hts _ (by decide +kernel)
  have hl := lv_entry ([.ref (ad 0), .int p0]) (n := 7) (Nat.le_of_ble_eq_true rfl)
  rw [lg_entry_eq]
  generalize (lg_sl ([.ref (ad 0), .int p0]) ++ List.replicate (7 - (lg_sl ([.ref (ad 0), .int p0])).length) Slot.unset).toArray = ls at hl ⊢
  have hl : lv_has ls 7 [(0, .ref (ad 0)), (1, .int p0)] := hl
  refine lv_iconst (v := (-1)) E.1 E.2.1 dX3_errorNow_0 (by decide) ?_
  refine lv_istore_n (lv' := [(2, .int (-1)), (0, .ref (ad 0)), (1, .int p0)]) E.1 E.2.1 dX3_errorNow_1 rfl hl (by decide) rfl (fun ls hl => ?_)
  refine lv_aload_n E.1 E.2.1 dX3_errorNow_2 rfl (lv_at hl 1 rfl) ?_
  refine g_VR (As := []) (rest := []) E hK hP (c_X3_keptNow l D cI cB ad g t gl b tb n z c hM) (cwV 0 E.2.2.2.2 gX3_errorNow_X3_keptNow rfl rfl rfl (by decide +kernel) ⟨Nat.le_of_ble_eq_true rfl, Nat.le_of_ble_eq_true rfl⟩) (rm0x hK hP) rfl hl.1 rfl (Nat.le_of_ble_eq_true rfl) dX3_errorNow_3 ⟨Nat.zero_le _, Nat.zero_le _⟩ ?_
  refine lv_istore_n (lv' := [(3, .int (FX3_keptNow g b tb n z c)), (2, .int (-1)), (0, .ref (ad 0)), (1, .int p0)]) E.1 E.2.1 dX3_errorNow_6 rfl hl (by decide) rfl (fun ls hl => ?_)
  refine lv_iconst (v := 0) E.1 E.2.1 dX3_errorNow_7 (by decide) ?_
  refine lv_istore (lv' := [(4, .int 0), (3, .int (FX3_keptNow g b tb n z c)), (2, .int (-1)), (0, .ref (ad 0)), (1, .int p0)]) E.1 E.2.1 dX3_errorNow_8 hl (by decide) rfl (fun ls hl => ?_)
  have loop1 : ∀ (d_1 k_2 : Nat) (x2_1 x3_1 : Int32) (ls : Array Slot), k_2 + d_1 = n → lv_has ls 7 [(4, .int (nI k_2)), (2, .int x2_1), (3, .int x3_1), (0, .ref (ad 0)), (1, .int p0)] → W p l e (headSpec wsX3_errorNow { frames := 2, cells := 0, slots := 0, locals := 47 }).room s m ([.ref (ad 0), .int p0] : List Value).toArray below meth cd s.heap [] 0 0 (MQ below (QcRead (FX3_errorNow_L10 g b tb n z c p0 d_1 k_2 x2_1 x3_1)) ([.ref (ad 0), .int p0] : List Value).toArray s 0 0 (fun _ => False)) (F0 m 10 ls []) := by
    intro d_1
    induction d_1 with
    | zero =>
      intro k_2 x2_1 x3_1 ls hk1 hl
      refine lv_iload E.1 E.2.1 dX3_errorNow_10 (lv_at hl 0 rfl) ?_
      refine lv_aload_n E.1 E.2.1 dX3_errorNow_12 rfl (lv_at hl 3 rfl) ?_
      refine mg_0_1 E hK hP in_3 w_0 dX3_errorNow_13 ?_
      refine lv_topi (fun y_3 ey_3 => ?_)
      obtain rfl : y_3 = nI n := ey_3.trans (hn)
      refine lv_icmp_ge (x := nI k_2) (y := nI n) (tgt := 88) E.1 E.2.1 dX3_errorNow_16 (by decide) (fun _ => ?_) (fun h9 => absurd (nI_le (a := n) (b := k_2) (by omega) (by omega)) h9)
      refine lv_iload_n E.1 E.2.1 dX3_errorNow_88 rfl (lv_at hl 1 rfl) ?_
      refine lv_iconst (v := (-1)) E.1 E.2.1 dX3_errorNow_89 (by decide) ?_
      refine lv_icmp_eq (x := x2_1) (y := (-1)) (tgt := 97) E.1 E.2.1 dX3_errorNow_90 (by decide) (fun h90 => ?_) (fun h90 => ?_)
      · have h90 := h90
        refine lv_iload_n E.1 E.2.1 dX3_errorNow_97 rfl (lv_at hl 1 rfl) ?_
        refine lv_goto (tgt := 102) E.1 E.2.1 dX3_errorNow_98 (by decide) ?_
        exact W.iret (v := x2_1) E.1 E.2.1 hr (fun t ht _ => ⟨congrArg (fun z : Int32 => Outcome.returned (some (Value.int z))) (show x2_1 = FX3_errorNow_L10 g b tb n z c p0 0 k_2 x2_1 x3_1 from by rw [FX3_errorNow_L10, if_pos h90]), ht⟩) (fun q hq => by cases hq) dX3_errorNow_102
      · have h90 := h90
        refine lv_iload_n E.1 E.2.1 dX3_errorNow_93 rfl (lv_at hl 4 rfl) ?_
        refine lv_if_ne (x := p0) (tgt := 101) E.1 E.2.1 dX3_errorNow_94 (by decide) (fun h94 => ?_) (fun h94 => ?_)
        · have h94 := h94
          refine lv_iload_n E.1 E.2.1 dX3_errorNow_101 rfl (lv_at hl 2 rfl) ?_
          exact W.iret (v := x3_1) E.1 E.2.1 hr (fun t ht _ => ⟨congrArg (fun z : Int32 => Outcome.returned (some (Value.int z))) (show x3_1 = FX3_errorNow_L10 g b tb n z c p0 0 k_2 x2_1 x3_1 from by rw [FX3_errorNow_L10, if_neg h90, if_neg h94]), ht⟩) (fun q hq => by cases hq) dX3_errorNow_102
        · have h94 := h94
          refine lv_iload_n E.1 E.2.1 dX3_errorNow_97 rfl (lv_at hl 1 rfl) ?_
          refine lv_goto (tgt := 102) E.1 E.2.1 dX3_errorNow_98 (by decide) ?_
          exact W.iret (v := x2_1) E.1 E.2.1 hr (fun t ht _ => ⟨congrArg (fun z : Int32 => Outcome.returned (some (Value.int z))) (show x2_1 = FX3_errorNow_L10 g b tb n z c p0 0 k_2 x2_1 x3_1 from by rw [FX3_errorNow_L10, if_neg h90, if_pos h94]), ht⟩) (fun q hq => by cases hq) dX3_errorNow_102
    | succ d_1 ih1 =>
      intro k_2 x2_1 x3_1 ls hk1 hl
      refine lv_iload E.1 E.2.1 dX3_errorNow_10 (lv_at hl 0 rfl) ?_
      refine lv_aload_n E.1 E.2.1 dX3_errorNow_12 rfl (lv_at hl 3 rfl) ?_
      refine mg_0_1 E hK hP in_3 w_0 dX3_errorNow_13 ?_
      refine lv_topi (fun y_4 ey_4 => ?_)
      obtain rfl : y_4 = nI n := ey_4.trans (hn)
      refine lv_icmp_ge (x := nI k_2) (y := nI n) (tgt := 88) E.1 E.2.1 dX3_errorNow_16 (by decide) (fun h9 => absurd h9 (nI_ge (a := k_2) (b := n) (by omega) (by omega))) (fun _ => ?_)
      refine lv_iload E.1 E.2.1 dX3_errorNow_19 (lv_at hl 0 rfl) ?_
      refine lv_iconst (v := 1) E.1 E.2.1 dX3_errorNow_21 (by decide) ?_
      refine lv_iadd (x := nI k_2) (y := 1) E.1 E.2.1 dX3_errorNow_22 ?_
      refine lv_topi (fun y_5 ey_5 => ?_)
      obtain rfl : y_5 = nI (k_2 + 1) := ey_5.trans (nI_1 k_2)
      refine lv_istore (lv' := [(5, .int (nI (k_2 + 1))), (4, .int (nI k_2)), (2, .int x2_1), (3, .int x3_1), (0, .ref (ad 0)), (1, .int p0)]) E.1 E.2.1 dX3_errorNow_23 hl (by decide) rfl (fun ls hl => ?_)
      have loop6 : ∀ (d_6 k_7 : Nat) (x2_6 x3_6 : Int32) (ls : Array Slot), k_7 + d_6 = n → lv_has ls 7 [(5, .int (nI k_7)), (2, .int x2_6), (3, .int x3_6), (4, .int (nI k_2)), (0, .ref (ad 0)), (1, .int p0)] → (∀ ls : Array Slot, lv_has ls 7 [(5, .int (nI n)), (2, .int ((FX3_errorNow_L25 g b tb n z c p0 k_2 x2_1 x3_1 d_6 k_7 x2_6 x3_6).1)), (3, .int ((FX3_errorNow_L25 g b tb n z c p0 k_2 x2_1 x3_1 d_6 k_7 x2_6 x3_6).2)), (4, .int (nI k_2)), (0, .ref (ad 0)), (1, .int p0)] → W p l e (headSpec wsX3_errorNow { frames := 2, cells := 0, slots := 0, locals := 47 }).room s m ([.ref (ad 0), .int p0] : List Value).toArray below meth cd s.heap [] 0 0 (MQ below (QcRead (FX3_errorNow_L10 g b tb n z c p0 (d_1 + 1) k_2 x2_1 x3_1)) ([.ref (ad 0), .int p0] : List Value).toArray s 0 0 (fun _ => False)) (F0 m 82 ls [])) → W p l e (headSpec wsX3_errorNow { frames := 2, cells := 0, slots := 0, locals := 47 }).room s m ([.ref (ad 0), .int p0] : List Value).toArray below meth cd s.heap [] 0 0 (MQ below (QcRead (FX3_errorNow_L10 g b tb n z c p0 (d_1 + 1) k_2 x2_1 x3_1)) ([.ref (ad 0), .int p0] : List Value).toArray s 0 0 (fun _ => False)) (F0 m 25 ls []) := by
        intro d_6
        induction d_6 with
        | zero =>
          intro k_7 x2_6 x3_6 ls hk6 hl hcont
          refine lv_iload E.1 E.2.1 dX3_errorNow_25 (lv_at hl 0 rfl) ?_
          refine lv_aload_n E.1 E.2.1 dX3_errorNow_27 rfl (lv_at hl 4 rfl) ?_
          refine mg_0_1 E hK hP in_3 w_0 dX3_errorNow_28 ?_
          refine lv_topi (fun y_8 ey_8 => ?_)
          obtain rfl : y_8 = nI n := ey_8.trans (hn)
          refine lv_icmp_ge (x := nI k_7) (y := nI n) (tgt := 82) E.1 E.2.1 dX3_errorNow_31 (by decide) (fun _ => ?_) (fun h9 => absurd (nI_le (a := n) (b := k_7) (by omega) (by omega)) h9)
          rw [show FX3_errorNow_L25 g b tb n z c p0 k_2 x2_1 x3_1 0 k_7 x2_6 x3_6 = (x2_6, x3_6) from by rw [FX3_errorNow_L25]] at hcont
          have e9 : k_7 = n := by omega
          rw [e9] at hl
          exact hcont ls (lv_sub hl [0, 1, 2, 3, 4, 5] rfl)
        | succ d_6 ih6 =>
          intro k_7 x2_6 x3_6 ls hk6 hl hcont
          refine lv_iload E.1 E.2.1 dX3_errorNow_25 (lv_at hl 0 rfl) ?_
          refine lv_aload_n E.1 E.2.1 dX3_errorNow_27 rfl (lv_at hl 4 rfl) ?_
          refine mg_0_1 E hK hP in_3 w_0 dX3_errorNow_28 ?_
          refine lv_topi (fun y_9 ey_9 => ?_)
          obtain rfl : y_9 = nI n := ey_9.trans (hn)
          refine lv_icmp_ge (x := nI k_7) (y := nI n) (tgt := 82) E.1 E.2.1 dX3_errorNow_31 (by decide) (fun h9 => absurd h9 (nI_ge (a := k_7) (b := n) (by omega) (by omega))) (fun _ => ?_)
          refine lv_aload_n E.1 E.2.1 dX3_errorNow_34 rfl (lv_at hl 4 rfl) ?_
          refine lv_iload E.1 E.2.1 dX3_errorNow_35 (lv_at hl 3 rfl) ?_
          refine lv_iload E.1 E.2.1 dX3_errorNow_37 (lv_at hl 0 rfl) ?_
          refine g_VR (As := [.int (nI k_2), .int (nI k_7)]) (rest := []) E hK hP (c_X3_keptBy l D cI cB ad g t gl b tb n z c hM (nI k_2) (nI k_7) (vp_in_nI (by omega) (by omega)) (vp_in_nI (by omega) (by omega))) (cwV 2 E.2.2.2.2 gX3_errorNow_X3_keptBy rfl rfl rfl (by decide +kernel) ⟨Nat.le_of_ble_eq_true rfl, Nat.le_of_ble_eq_true rfl⟩) (rm0x hK hP) rfl hl.1 rfl (Nat.le_of_ble_eq_true rfl) dX3_errorNow_39 ⟨Nat.zero_le _, Nat.zero_le _⟩ ?_
          refine lv_istore (lv' := [(6, .int (FX3_keptBy g b tb n z c (nI k_2) (nI k_7))), (5, .int (nI k_7)), (2, .int x2_6), (3, .int x3_6), (4, .int (nI k_2)), (0, .ref (ad 0)), (1, .int p0)]) E.1 E.2.1 dX3_errorNow_42 hl (by decide) rfl (fun ls hl => ?_)
          refine lv_iload E.1 E.2.1 dX3_errorNow_44 (lv_at hl 0 rfl) ?_
          refine lv_iload_n E.1 E.2.1 dX3_errorNow_46 rfl (lv_at hl 3 rfl) ?_
          refine lv_icmp_le (x := FX3_keptBy g b tb n z c (nI k_2) (nI k_7)) (y := x3_6) (tgt := 61) E.1 E.2.1 dX3_errorNow_47 (by decide) (fun h47 => ?_) (fun h47 => ?_)
          · have h47 := h47
            refine lv_iload_n E.1 E.2.1 dX3_errorNow_61 rfl (lv_at hl 2 rfl) ?_
            refine lv_istore_n (lv' := [(2, .int x2_6), (6, .int (FX3_keptBy g b tb n z c (nI k_2) (nI k_7))), (5, .int (nI k_7)), (3, .int x3_6), (4, .int (nI k_2)), (0, .ref (ad 0)), (1, .int p0)]) E.1 E.2.1 dX3_errorNow_62 rfl hl (by decide) rfl (fun ls hl => ?_)
            refine lv_iload E.1 E.2.1 dX3_errorNow_63 (lv_at hl 1 rfl) ?_
            refine lv_iload_n E.1 E.2.1 dX3_errorNow_65 rfl (lv_at hl 3 rfl) ?_
            refine lv_icmp_le (x := FX3_keptBy g b tb n z c (nI k_2) (nI k_7)) (y := x3_6) (tgt := 74) E.1 E.2.1 dX3_errorNow_66 (by decide) (fun h66 => ?_) (fun h66 => ?_)
            · have h66 := h66
              refine lv_iload_n E.1 E.2.1 dX3_errorNow_74 rfl (lv_at hl 3 rfl) ?_
              refine lv_istore_n (lv' := [(3, .int x3_6), (2, .int x2_6), (6, .int (FX3_keptBy g b tb n z c (nI k_2) (nI k_7))), (5, .int (nI k_7)), (4, .int (nI k_2)), (0, .ref (ad 0)), (1, .int p0)]) E.1 E.2.1 dX3_errorNow_75 rfl hl (by decide) rfl (fun ls hl => ?_)
              refine lv_iinc (v := nI (k_7 + 1)) (k := 3) (lv' := [(5, .int (nI (k_7 + 1))), (3, .int x3_6), (2, .int x2_6), (6, .int (FX3_keptBy g b tb n z c (nI k_2) (nI k_7))), (4, .int (nI k_2)), (0, .ref (ad 0)), (1, .int p0)]) E.1 E.2.1 dX3_errorNow_76 hl rfl (nI_1 k_7) (by decide) rfl (fun ls hl => ?_)
              refine lv_goto (tgt := 25) E.1 E.2.1 dX3_errorNow_79 (by decide) ?_
              rw [show FX3_errorNow_L25 g b tb n z c p0 k_2 x2_1 x3_1 (d_6 + 1) k_7 x2_6 x3_6 = FX3_errorNow_L25 g b tb n z c p0 k_2 x2_1 x3_1 d_6 (k_7 + 1) x2_6 x3_6 from by rw [FX3_errorNow_L25, if_pos h47, if_pos h66]] at hcont
              exact ih6 (k_7 + 1) x2_6 x3_6 ls (by omega) (lv_sub hl [0, 2, 1, 4, 5, 6] rfl) hcont
            · have h66 := h66
              refine lv_iload E.1 E.2.1 dX3_errorNow_69 (lv_at hl 1 rfl) ?_
              refine lv_goto (tgt := 75) E.1 E.2.1 dX3_errorNow_71 (by decide) ?_
              refine lv_istore_n (lv' := [(3, .int (FX3_keptBy g b tb n z c (nI k_2) (nI k_7))), (2, .int x2_6), (6, .int (FX3_keptBy g b tb n z c (nI k_2) (nI k_7))), (5, .int (nI k_7)), (4, .int (nI k_2)), (0, .ref (ad 0)), (1, .int p0)]) E.1 E.2.1 dX3_errorNow_75 rfl hl (by decide) rfl (fun ls hl => ?_)
              refine lv_iinc (v := nI (k_7 + 1)) (k := 3) (lv' := [(5, .int (nI (k_7 + 1))), (3, .int (FX3_keptBy g b tb n z c (nI k_2) (nI k_7))), (2, .int x2_6), (6, .int (FX3_keptBy g b tb n z c (nI k_2) (nI k_7))), (4, .int (nI k_2)), (0, .ref (ad 0)), (1, .int p0)]) E.1 E.2.1 dX3_errorNow_76 hl rfl (nI_1 k_7) (by decide) rfl (fun ls hl => ?_)
              refine lv_goto (tgt := 25) E.1 E.2.1 dX3_errorNow_79 (by decide) ?_
              rw [show FX3_errorNow_L25 g b tb n z c p0 k_2 x2_1 x3_1 (d_6 + 1) k_7 x2_6 x3_6 = FX3_errorNow_L25 g b tb n z c p0 k_2 x2_1 x3_1 d_6 (k_7 + 1) x2_6 (FX3_keptBy g b tb n z c (nI k_2) (nI k_7)) from by rw [FX3_errorNow_L25, if_pos h47, if_neg h66]] at hcont
              exact ih6 (k_7 + 1) x2_6 (FX3_keptBy g b tb n z c (nI k_2) (nI k_7)) ls (by omega) (lv_sub hl [0, 2, 1, 4, 5, 6] rfl) hcont
          · have h47 := h47
            refine lv_bipush (v := 10) E.1 E.2.1 dX3_errorNow_50 (by decide) ?_
            refine lv_iload E.1 E.2.1 dX3_errorNow_52 (lv_at hl 4 rfl) ?_
            refine lv_imul (x := 10) (y := nI k_2) E.1 E.2.1 dX3_errorNow_54 ?_
            refine lv_iload E.1 E.2.1 dX3_errorNow_55 (lv_at hl 1 rfl) ?_
            refine lv_iadd (x := 10 * (nI k_2)) (y := nI k_7) E.1 E.2.1 dX3_errorNow_57 ?_
            refine lv_goto (tgt := 62) E.1 E.2.1 dX3_errorNow_58 (by decide) ?_
            refine lv_istore_n (lv' := [(2, .int ((10 * (nI k_2)) + (nI k_7))), (6, .int (FX3_keptBy g b tb n z c (nI k_2) (nI k_7))), (5, .int (nI k_7)), (3, .int x3_6), (4, .int (nI k_2)), (0, .ref (ad 0)), (1, .int p0)]) E.1 E.2.1 dX3_errorNow_62 rfl hl (by decide) rfl (fun ls hl => ?_)
            refine lv_iload E.1 E.2.1 dX3_errorNow_63 (lv_at hl 1 rfl) ?_
            refine lv_iload_n E.1 E.2.1 dX3_errorNow_65 rfl (lv_at hl 3 rfl) ?_
            refine lv_icmp_le (x := FX3_keptBy g b tb n z c (nI k_2) (nI k_7)) (y := x3_6) (tgt := 74) E.1 E.2.1 dX3_errorNow_66 (by decide) (fun h66 => ?_) (fun h66 => ?_)
            · have h66 := h66
              refine lv_iload_n E.1 E.2.1 dX3_errorNow_74 rfl (lv_at hl 3 rfl) ?_
              refine lv_istore_n (lv' := [(3, .int x3_6), (2, .int ((10 * (nI k_2)) + (nI k_7))), (6, .int (FX3_keptBy g b tb n z c (nI k_2) (nI k_7))), (5, .int (nI k_7)), (4, .int (nI k_2)), (0, .ref (ad 0)), (1, .int p0)]) E.1 E.2.1 dX3_errorNow_75 rfl hl (by decide) rfl (fun ls hl => ?_)
              refine lv_iinc (v := nI (k_7 + 1)) (k := 3) (lv' := [(5, .int (nI (k_7 + 1))), (3, .int x3_6), (2, .int ((10 * (nI k_2)) + (nI k_7))), (6, .int (FX3_keptBy g b tb n z c (nI k_2) (nI k_7))), (4, .int (nI k_2)), (0, .ref (ad 0)), (1, .int p0)]) E.1 E.2.1 dX3_errorNow_76 hl rfl (nI_1 k_7) (by decide) rfl (fun ls hl => ?_)
              refine lv_goto (tgt := 25) E.1 E.2.1 dX3_errorNow_79 (by decide) ?_
              rw [show FX3_errorNow_L25 g b tb n z c p0 k_2 x2_1 x3_1 (d_6 + 1) k_7 x2_6 x3_6 = FX3_errorNow_L25 g b tb n z c p0 k_2 x2_1 x3_1 d_6 (k_7 + 1) ((10 * (nI k_2)) + (nI k_7)) x3_6 from by rw [FX3_errorNow_L25, if_neg h47, if_pos h66]] at hcont
              exact ih6 (k_7 + 1) ((10 * (nI k_2)) + (nI k_7)) x3_6 ls (by omega) (lv_sub hl [0, 2, 1, 4, 5, 6] rfl) hcont
            · have h66 := h66
              refine lv_iload E.1 E.2.1 dX3_errorNow_69 (lv_at hl 1 rfl) ?_
              refine lv_goto (tgt := 75) E.1 E.2.1 dX3_errorNow_71 (by decide) ?_
              refine lv_istore_n (lv' := [(3, .int (FX3_keptBy g b tb n z c (nI k_2) (nI k_7))), (2, .int ((10 * (nI k_2)) + (nI k_7))), (6, .int (FX3_keptBy g b tb n z c (nI k_2) (nI k_7))), (5, .int (nI k_7)), (4, .int (nI k_2)), (0, .ref (ad 0)), (1, .int p0)]) E.1 E.2.1 dX3_errorNow_75 rfl hl (by decide) rfl (fun ls hl => ?_)
              refine lv_iinc (v := nI (k_7 + 1)) (k := 3) (lv' := [(5, .int (nI (k_7 + 1))), (3, .int (FX3_keptBy g b tb n z c (nI k_2) (nI k_7))), (2, .int ((10 * (nI k_2)) + (nI k_7))), (6, .int (FX3_keptBy g b tb n z c (nI k_2) (nI k_7))), (4, .int (nI k_2)), (0, .ref (ad 0)), (1, .int p0)]) E.1 E.2.1 dX3_errorNow_76 hl rfl (nI_1 k_7) (by decide) rfl (fun ls hl => ?_)
              refine lv_goto (tgt := 25) E.1 E.2.1 dX3_errorNow_79 (by decide) ?_
              rw [show FX3_errorNow_L25 g b tb n z c p0 k_2 x2_1 x3_1 (d_6 + 1) k_7 x2_6 x3_6 = FX3_errorNow_L25 g b tb n z c p0 k_2 x2_1 x3_1 d_6 (k_7 + 1) ((10 * (nI k_2)) + (nI k_7)) (FX3_keptBy g b tb n z c (nI k_2) (nI k_7)) from by rw [FX3_errorNow_L25, if_neg h47, if_neg h66]] at hcont
              exact ih6 (k_7 + 1) ((10 * (nI k_2)) + (nI k_7)) (FX3_keptBy g b tb n z c (nI k_2) (nI k_7)) ls (by omega) (lv_sub hl [0, 2, 1, 4, 5, 6] rfl) hcont
      refine loop6 (n - (k_2 + 1)) (k_2 + 1) x2_1 x3_1 ls (by omega) (lv_sub hl [0, 2, 3, 1, 4, 5] rfl) (fun ls hl => ?_)
      refine lv_iinc (v := nI (k_2 + 1)) (k := 3) (lv' := [(4, .int (nI (k_2 + 1))), (5, .int (nI n)), (2, .int ((FX3_errorNow_L25 g b tb n z c p0 k_2 x2_1 x3_1 (n - (k_2 + 1)) (k_2 + 1) x2_1 x3_1).1)), (3, .int ((FX3_errorNow_L25 g b tb n z c p0 k_2 x2_1 x3_1 (n - (k_2 + 1)) (k_2 + 1) x2_1 x3_1).2)), (0, .ref (ad 0)), (1, .int p0)]) E.1 E.2.1 dX3_errorNow_82 hl rfl (nI_1 k_2) (by decide) rfl (fun ls hl => ?_)
      refine lv_goto (tgt := 10) E.1 E.2.1 dX3_errorNow_85 (by decide) ?_
      rw [show FX3_errorNow_L10 g b tb n z c p0 (d_1 + 1) k_2 x2_1 x3_1 = FX3_errorNow_L10 g b tb n z c p0 d_1 (k_2 + 1) ((FX3_errorNow_L25 g b tb n z c p0 k_2 x2_1 x3_1 (n - (k_2 + 1)) (k_2 + 1) x2_1 x3_1).1) ((FX3_errorNow_L25 g b tb n z c p0 k_2 x2_1 x3_1 (n - (k_2 + 1)) (k_2 + 1) x2_1 x3_1).2) from by rw [FX3_errorNow_L10]]
      exact ih1 (k_2 + 1) ((FX3_errorNow_L25 g b tb n z c p0 k_2 x2_1 x3_1 (n - (k_2 + 1)) (k_2 + 1) x2_1 x3_1).1) ((FX3_errorNow_L25 g b tb n z c p0 k_2 x2_1 x3_1 (n - (k_2 + 1)) (k_2 + 1) x2_1 x3_1).2) ls (by omega) (lv_sub hl [0, 2, 3, 4, 5] rfl)
  rw [show FX3_errorNow g b tb n z c p0 = FX3_errorNow_L10 g b tb n z c p0 n 0 (-1) (FX3_keptNow g b tb n z c) from by rw [FX3_errorNow]]
  have hl : lv_has ls 7 [(4, .int (nI 0)), (2, .int (-1)), (3, .int (FX3_keptNow g b tb n z c)), (0, .ref (ad 0)), (1, .int p0)] := lv_sub hl [0, 2, 1, 3, 4] rfl
  exact loop1 _ _ (-1) (FX3_keptNow g b tb n z c) ls (by omega) (lv_sub hl [0, 1, 2, 3, 4] rfl)
def FX3_error (g : Nat → Int32) (b : Nat → Nat → Int32) (tb : Nat → Nat → Int32) (n : Nat) (z : Nat) (c : Nat) (p0 : Int32) : Int32 := (if FX3_within p0 0 1 = 0 then (-102) else (if nI n = 0 then (-103) else FX3_errorNow g b tb n z c p0))
set_option maxHeartbeats 4000000 in
set_option maxRecDepth 100000 in
/-- error -/
theorem c_X3_error (l : Launch) (D : va_G) (cI cB : ClassId) (ad : Nat → Nat) (g t : Nat → Int32) (gl : Nat → Int64) (b tb : Nat → Nat → Int32) (n z c : Nat) (hM : IM n z c g b) (p0 : Int32) : Met l yX3_error wsX3_error ({ frames := 3, cells := 0, slots := 0, locals := 73 }) (GPc D cI cB (wM cI cB ad g t gl b tb) [.ref (ad 0), .int p0]) (QcRead (FX3_error g b tb n z c p0)) 0 0 (fun _ => False) := by
  refine Met.ofW (cc := cX3_error) (maxL := 2) (ret := (some .int)) (by decide) rfl ?_
  intro p e s m args below meth cd s₁ B hml hv
  obtain ⟨rfl, hP, hK⟩ := hv
  have hts := atoms_spec (ws := wsX3_error) B.pre
  have E : CallFix p m cd cX3_error 2 s _ wsX3_error RX3 := ⟨B.exec, B.bytes, hml, findClass_of_methodNamed B.named, hts⟩
  have hr := B.returns
  have hlocks := B.notSynchronized
  have h2n := pow6 (n := n) (by have := hM.2.1; omega)
  obtain ⟨hn, hn6, hz, hz21, hc, hc6, hfs⟩ := id hM
  have in_3 : ∀ w ∈ wsX30, w ∈ wsX3_error := fun _ h => List.mem_cons_of_mem _ (List.mem_append_right _ h)
  have w_0 : (Cond.fieldLink RX3 94 "SnowTermModel" "sites" "I").before _ s = true := hts _ (by decide +kernel)
  have hl := lv_entry ([.ref (ad 0), .int p0]) (n := 2) (Nat.le_of_ble_eq_true rfl)
  rw [lg_entry_eq]
  generalize (lg_sl ([.ref (ad 0), .int p0]) ++ List.replicate (2 - (lg_sl ([.ref (ad 0), .int p0])).length) Slot.unset).toArray = ls at hl ⊢
  have hl : lv_has ls 2 [(0, .ref (ad 0)), (1, .int p0)] := hl
  refine lv_iload_n E.1 E.2.1 dX3_error_0 rfl (lv_at hl 1 rfl) ?_
  refine lv_iconst (v := 0) E.1 E.2.1 dX3_error_1 (by decide) ?_
  refine lv_iconst (v := 1) E.1 E.2.1 dX3_error_2 (by decide) ?_
  refine g_SR (As := [.int p0, .int 0, .int 1]) (rest := []) E hK (c_X3_within l D cI cB p0 0 1) (va_cwS 3 E.2.2.2.2 gX3_error_X3_within rfl rfl rfl (by decide +kernel) ⟨Nat.le_of_ble_eq_true rfl, Nat.le_of_ble_eq_true rfl⟩) rfl hl.1 rfl (Nat.le_of_ble_eq_true rfl) dX3_error_3 ⟨Nat.zero_le _, Nat.zero_le _⟩ ?_
  refine lv_if_ne (x := FX3_within p0 0 1) (tgt := 12) E.1 E.2.1 dX3_error_6 (by decide) (fun h6 => ?_) (fun h6 => ?_)
  · have h6 := h6
    refine lv_aload_n E.1 E.2.1 dX3_error_12 rfl (lv_at hl 0 rfl) ?_
    refine mg_0_1 E hK hP in_3 w_0 dX3_error_13 ?_
    refine lv_topi (fun y_1 ey_1 => ?_)
    obtain rfl : y_1 = nI n := ey_1.trans (hn)
    refine lv_if_ne (x := nI n) (tgt := 24) E.1 E.2.1 dX3_error_16 (by decide) (fun h16 => ?_) (fun h16 => ?_)
    · have h16 := h16
      refine lv_aload_n E.1 E.2.1 dX3_error_24 rfl (lv_at hl 0 rfl) ?_
      refine lv_iload_n E.1 E.2.1 dX3_error_25 rfl (lv_at hl 1 rfl) ?_
      refine g_VR (As := [.int p0]) (rest := []) E hK hP (c_X3_errorNow l D cI cB ad g t gl b tb n z c hM p0) (cwV 1 E.2.2.2.2 gX3_error_X3_errorNow rfl rfl rfl (by decide +kernel) ⟨Nat.le_of_ble_eq_true rfl, Nat.le_of_ble_eq_true rfl⟩) (rm0x hK hP) rfl hl.1 rfl (Nat.le_of_ble_eq_true rfl) dX3_error_26 ⟨Nat.zero_le _, Nat.zero_le _⟩ ?_
      exact W.iret (v := FX3_errorNow g b tb n z c p0) E.1 E.2.1 hr (fun t ht _ => ⟨congrArg (fun z : Int32 => Outcome.returned (some (Value.int z))) (show FX3_errorNow g b tb n z c p0 = FX3_error g b tb n z c p0 from by rw [FX3_error, if_neg h6, if_neg h16]), ht⟩) (fun q hq => by cases hq) dX3_error_29
    · have h16 := h16
      refine lv_bipush (v := (-103)) E.1 E.2.1 dX3_error_19 (by decide) ?_
      refine lv_goto (tgt := 29) E.1 E.2.1 dX3_error_21 (by decide) ?_
      exact W.iret (v := (-103)) E.1 E.2.1 hr (fun t ht _ => ⟨congrArg (fun z : Int32 => Outcome.returned (some (Value.int z))) (show (-103) = FX3_error g b tb n z c p0 from by rw [FX3_error, if_neg h6, if_pos h16]), ht⟩) (fun q hq => by cases hq) dX3_error_29
  · have h6 := h6
    refine lv_bipush (v := (-102)) E.1 E.2.1 dX3_error_9 (by decide) ?_
    exact W.iret (v := (-102)) E.1 E.2.1 hr (fun t ht _ => ⟨congrArg (fun z : Int32 => Outcome.returned (some (Value.int z))) (show (-102) = FX3_error g b tb n z c p0 from by rw [FX3_error, if_pos h6]), ht⟩) (fun q hq => by cases hq) dX3_error_11
def FX3_leftOf (g : Nat → Int32) (b : Nat → Nat → Int32) (tb : Nat → Nat → Int32) (n : Nat) (z : Nat) (c : Nat) (p0 : Int32) (p1 : Int32) (p2 : Int32) : Int32 := FX3_notBelow (p1 - (FX3_meltsBy g b tb n z c p0 p2))
set_option maxHeartbeats 4000000 in
set_option maxRecDepth 100000 in
/-- what is left -/
theorem c_X3_leftOf (l : Launch) (D : va_G) (cI cB : ClassId) (ad : Nat → Nat) (g t : Nat → Int32) (gl : Nat → Int64) (b tb : Nat → Nat → Int32) (n z c : Nat) (hM : IM n z c g b) (p0 : Int32) (p1 : Int32) (p2 : Int32) (hs0 : vp_in p0 6) : Met l yX3_leftOf wsX3_leftOf ({ frames := 2, cells := 0, slots := 0, locals := 43 }) (GPc D cI cB (wM cI cB ad g t gl b tb) [.ref (ad 0), .int p0, .int p1, .int p2]) (QcRead (FX3_leftOf g b tb n z c p0 p1 p2)) 0 0 (fun _ => False) := by
  refine Met.ofW (cc := cX3_leftOf) (maxL := 4) (ret := (some .int)) (by decide) rfl ?_
  intro p e s m args below meth cd s₁ B hml hv
  obtain ⟨rfl, hP, hK⟩ := hv
  have hts := atoms_spec (ws := wsX3_leftOf) B.pre
  have E : CallFix p m cd cX3_leftOf 4 s _ wsX3_leftOf RX3 := ⟨B.exec, B.bytes, hml, findClass_of_methodNamed B.named, hts⟩
  have hr := B.returns
  have hlocks := B.notSynchronized
  have h2n := pow6 (n := n) (by have := hM.2.1; omega)
  obtain ⟨hn, hn6, hz, hz21, hc, hc6, hfs⟩ := id hM
  have hl := lv_entry ([.ref (ad 0), .int p0, .int p1, .int p2]) (n := 4) (Nat.le_of_ble_eq_true rfl)
  rw [lg_entry_eq]
  generalize (lg_sl ([.ref (ad 0), .int p0, .int p1, .int p2]) ++ List.replicate (4 - (lg_sl ([.ref (ad 0), .int p0, .int p1, .int p2])).length) Slot.unset).toArray = ls at hl ⊢
  have hl : lv_has ls 4 [(0, .ref (ad 0)), (1, .int p0), (2, .int p1), (3, .int p2)] := hl
  refine lv_iload_n E.1 E.2.1 dX3_leftOf_0 rfl (lv_at hl 2 rfl) ?_
  refine lv_aload_n E.1 E.2.1 dX3_leftOf_1 rfl (lv_at hl 0 rfl) ?_
  refine lv_iload_n E.1 E.2.1 dX3_leftOf_2 rfl (lv_at hl 1 rfl) ?_
  refine lv_iload_n E.1 E.2.1 dX3_leftOf_3 rfl (lv_at hl 3 rfl) ?_
  refine g_VR (As := [.int p0, .int p2]) (rest := [.int p1]) E hK hP (c_X3_meltsBy l D cI cB ad g t gl b tb n z c hM p0 p2 (hs0)) (cwV 2 E.2.2.2.2 gX3_leftOf_X3_meltsBy rfl rfl rfl (by decide +kernel) ⟨Nat.le_of_ble_eq_true rfl, Nat.le_of_ble_eq_true rfl⟩) (rm0x hK hP) rfl hl.1 rfl (Nat.le_of_ble_eq_true rfl) dX3_leftOf_4 ⟨Nat.zero_le _, Nat.zero_le _⟩ ?_
  refine lv_isub (x := p1) (y := FX3_meltsBy g b tb n z c p0 p2) E.1 E.2.1 dX3_leftOf_7 ?_
  refine g_SR (As := [.int (p1 - (FX3_meltsBy g b tb n z c p0 p2))]) (rest := []) E hK (c_X3_notBelow l D cI cB (p1 - (FX3_meltsBy g b tb n z c p0 p2))) (va_cwS 1 E.2.2.2.2 gX3_leftOf_X3_notBelow rfl rfl rfl (by decide +kernel) ⟨Nat.le_of_ble_eq_true rfl, Nat.le_of_ble_eq_true rfl⟩) rfl hl.1 rfl (Nat.le_of_ble_eq_true rfl) dX3_leftOf_8 ⟨Nat.zero_le _, Nat.zero_le _⟩ ?_
  exact W.iret (v := FX3_notBelow (p1 - (FX3_meltsBy g b tb n z c p0 p2))) E.1 E.2.1 hr (fun t ht _ => ⟨congrArg (fun z : Int32 => Outcome.returned (some (Value.int z))) (show FX3_notBelow (p1 - (FX3_meltsBy g b tb n z c p0 p2)) = FX3_leftOf g b tb n z c p0 p1 p2 from by rw [FX3_leftOf]), ht⟩) (fun q hq => by cases hq) dX3_leftOf_11
def FX3_sunsNow_L15 (g : Nat → Int32) (b : Nat → Nat → Int32) (tb : Nat → Nat → Int32) (n : Nat) (z : Nat) (c : Nat) (k_2 : Nat) (x1_1 : Int32) : Nat → Nat → Int32 → Int32
  | 0, k_4, x3_3 => x3_3
  | d_3 + 1, k_4, x3_3 => (if x3_3 = 0 then FX3_sunsNow_L15 g b tb n z c k_2 x1_1 d_3 (k_4 + 1) 0 else (if FX3_leftOf g b tb n z c (b 7 k_4) (b 8 k_4) (nI k_2) = b 9 k_4 then FX3_sunsNow_L15 g b tb n z c k_2 x1_1 d_3 (k_4 + 1) 1 else FX3_sunsNow_L15 g b tb n z c k_2 x1_1 d_3 (k_4 + 1) 0))
def FX3_sunsNow_L4 (g : Nat → Int32) (b : Nat → Nat → Int32) (tb : Nat → Nat → Int32) (n : Nat) (z : Nat) (c : Nat) : Nat → Nat → Int32 → Int32
  | 0, k_2, x1_1 => x1_1
  | d_1 + 1, k_2, x1_1 => (if FX3_sunsNow_L15 g b tb n z c k_2 x1_1 c 0 1 = 0 then FX3_sunsNow_L4 g b tb n z c d_1 (k_2 + 1) (x1_1 ||| 0) else FX3_sunsNow_L4 g b tb n z c d_1 (k_2 + 1) (x1_1 ||| (1 <<< ((nI k_2) &&& 31))))
def FX3_sunsNow (g : Nat → Int32) (b : Nat → Nat → Int32) (tb : Nat → Nat → Int32) (n : Nat) (z : Nat) (c : Nat) : Int32 := FX3_sunsNow_L4 g b tb n z c 10 0 0
set_option maxHeartbeats 4000000 in
set_option maxRecDepth 100000 in
/-- the suns that can be -/
theorem c_X3_sunsNow (l : Launch) (D : va_G) (cI cB : ClassId) (ad : Nat → Nat) (g t : Nat → Int32) (gl : Nat → Int64) (b tb : Nat → Nat → Int32) (n z c : Nat) (hM : IM n z c g b)  : Met l yX3_sunsNow wsX3_sunsNow ({ frames := 3, cells := 0, slots := 0, locals := 66 }) (GPc D cI cB (wM cI cB ad g t gl b tb) [.ref (ad 0)]) (QcRead (FX3_sunsNow g b tb n z c)) 0 0 (fun _ => False) := by
  refine Met.ofW (cc := cX3_sunsNow) (maxL := 5) (ret := (some .int)) (by decide) rfl ?_
  intro p e s m args below meth cd s₁ B hml hv
  obtain ⟨rfl, hP, hK⟩ := hv
  have hts := atoms_spec (ws := wsX3_sunsNow) B.pre
  have E : CallFix p m cd cX3_sunsNow 5 s _ wsX3_sunsNow RX3 := ⟨B.exec, B.bytes, hml, findClass_of_methodNamed B.named, hts⟩
  have hr := B.returns
  have hlocks := B.notSynchronized
  have h2n := pow6 (n := n) (by have := hM.2.1; omega)
  obtain ⟨hn, hn6, hz, hz21, hc, hc6, hfs⟩ := id hM
  have in_3 : ∀ w ∈ wsX30, w ∈ wsX3_sunsNow := fun _ h => List.mem_cons_of_mem _ (List.mem_append_right _ h)
  have w_0 : (Cond.fieldLink RX3 112 "SnowTermModel" "found" "I").before _ s = true := hts _ (by decide +kernel)
  have w_1 : (Cond.fieldLink RX3 28 "SnowTermModel" "foundSite" "[I").before _ s = true := hts _ (by decide +kernel)
  have w_2 : (Cond.fieldLink RX3 31 "SnowTermModel" "foundDeep" "[I").before _ s = true := hts _ (by decide +kernel)
  have w_3 : (Cond.fieldLink RX3 34 "SnowTermModel" "foundLeft" "[I").before _ s = true := hts _ (by decide +kernel)
  have hl := lv_entry ([.ref (ad 0)]) (n := 5) (Nat.le_of_ble_eq_true rfl)
  rw [lg_entry_eq]
  generalize (lg_sl ([.ref (ad 0)]) ++ List.replicate (5 - (lg_sl ([.ref (ad 0)])).length) Slot.unset).toArray = ls at hl ⊢
  have hl : lv_has ls 5 [(0, .ref (ad 0))] := hl
  refine lv_iconst (v := 0) E.1 E.2.1 dX3_sunsNow_0 (by decide) ?_
  refine lv_istore_n (lv' := [(1, .int 0), (0, .ref (ad 0))]) E.1 E.2.1 dX3_sunsNow_1 rfl hl (by decide) rfl (fun ls hl => ?_)
  refine lv_iconst (v := 0) E.1 E.2.1 dX3_sunsNow_2 (by decide) ?_
  refine lv_istore_n (lv' := [(2, .int 0), (1, .int 0), (0, .ref (ad 0))]) E.1 E.2.1 dX3_sunsNow_3 rfl hl (by decide) rfl (fun ls hl => ?_)
  have loop1 : ∀ (d_1 k_2 : Nat) (x1_1 : Int32) (ls : Array Slot), k_2 + d_1 = 10 → lv_has ls 5 [(2, .int (nI k_2)), (1, .int x1_1), (0, .ref (ad 0))] → W p l e (headSpec wsX3_sunsNow { frames := 3, cells := 0, slots := 0, locals := 66 }).room s m ([.ref (ad 0)] : List Value).toArray below meth cd s.heap [] 0 0 (MQ below (QcRead (FX3_sunsNow_L4 g b tb n z c d_1 k_2 x1_1)) ([.ref (ad 0)] : List Value).toArray s 0 0 (fun _ => False)) (F0 m 4 ls []) := by
    intro d_1
    induction d_1 with
    | zero =>
      intro k_2 x1_1 ls hk1 hl
      refine lv_iload_n E.1 E.2.1 dX3_sunsNow_4 rfl (lv_at hl 0 rfl) ?_
      refine lv_bipush (v := 9) E.1 E.2.1 dX3_sunsNow_5 (by decide) ?_
      refine lv_icmp_gt (x := nI k_2) (y := 9) (tgt := 89) E.1 E.2.1 dX3_sunsNow_7 (by decide) (fun _ => ?_) (fun h9 => absurd (nI_lt (a := 9) (b := k_2) (by omega) (by omega)) h9)
      refine lv_iload_n E.1 E.2.1 dX3_sunsNow_89 rfl (lv_at hl 1 rfl) ?_
      exact W.iret (v := x1_1) E.1 E.2.1 hr (fun t ht _ => ⟨congrArg (fun z : Int32 => Outcome.returned (some (Value.int z))) (show x1_1 = FX3_sunsNow_L4 g b tb n z c 0 k_2 x1_1 from by rw [FX3_sunsNow_L4]), ht⟩) (fun q hq => by cases hq) dX3_sunsNow_90
    | succ d_1 ih1 =>
      intro k_2 x1_1 ls hk1 hl
      refine lv_iload_n E.1 E.2.1 dX3_sunsNow_4 rfl (lv_at hl 0 rfl) ?_
      refine lv_bipush (v := 9) E.1 E.2.1 dX3_sunsNow_5 (by decide) ?_
      refine lv_icmp_gt (x := nI k_2) (y := 9) (tgt := 89) E.1 E.2.1 dX3_sunsNow_7 (by decide) (fun h9 => absurd h9 (nI_nlt (b := k_2) (a := 9) (by omega) (by omega))) (fun _ => ?_)
      refine lv_iconst (v := 1) E.1 E.2.1 dX3_sunsNow_10 (by decide) ?_
      refine lv_istore_n (lv' := [(3, .int 1), (2, .int (nI k_2)), (1, .int x1_1), (0, .ref (ad 0))]) E.1 E.2.1 dX3_sunsNow_11 rfl hl (by decide) rfl (fun ls hl => ?_)
      refine lv_iconst (v := 0) E.1 E.2.1 dX3_sunsNow_12 (by decide) ?_
      refine lv_istore (lv' := [(4, .int 0), (3, .int 1), (2, .int (nI k_2)), (1, .int x1_1), (0, .ref (ad 0))]) E.1 E.2.1 dX3_sunsNow_13 hl (by decide) rfl (fun ls hl => ?_)
      have loop3 : ∀ (d_3 k_4 : Nat) (x3_3 : Int32) (ls : Array Slot), k_4 + d_3 = c → lv_has ls 5 [(4, .int (nI k_4)), (3, .int x3_3), (2, .int (nI k_2)), (1, .int x1_1), (0, .ref (ad 0))] → (∀ ls : Array Slot, lv_has ls 5 [(4, .int (nI c)), (3, .int (FX3_sunsNow_L15 g b tb n z c k_2 x1_1 d_3 k_4 x3_3)), (2, .int (nI k_2)), (1, .int x1_1), (0, .ref (ad 0))] → W p l e (headSpec wsX3_sunsNow { frames := 3, cells := 0, slots := 0, locals := 66 }).room s m ([.ref (ad 0)] : List Value).toArray below meth cd s.heap [] 0 0 (MQ below (QcRead (FX3_sunsNow_L4 g b tb n z c (d_1 + 1) k_2 x1_1)) ([.ref (ad 0)] : List Value).toArray s 0 0 (fun _ => False)) (F0 m 69 ls [])) → W p l e (headSpec wsX3_sunsNow { frames := 3, cells := 0, slots := 0, locals := 66 }).room s m ([.ref (ad 0)] : List Value).toArray below meth cd s.heap [] 0 0 (MQ below (QcRead (FX3_sunsNow_L4 g b tb n z c (d_1 + 1) k_2 x1_1)) ([.ref (ad 0)] : List Value).toArray s 0 0 (fun _ => False)) (F0 m 15 ls []) := by
        intro d_3
        induction d_3 with
        | zero =>
          intro k_4 x3_3 ls hk3 hl hcont
          refine lv_iload E.1 E.2.1 dX3_sunsNow_15 (lv_at hl 0 rfl) ?_
          refine lv_aload_n E.1 E.2.1 dX3_sunsNow_17 rfl (lv_at hl 4 rfl) ?_
          refine mg_0_12 E hK hP in_3 w_0 dX3_sunsNow_18 ?_
          refine lv_topi (fun y_5 ey_5 => ?_)
          obtain rfl : y_5 = nI c := ey_5.trans (hc)
          refine lv_icmp_ge (x := nI k_4) (y := nI c) (tgt := 69) E.1 E.2.1 dX3_sunsNow_21 (by decide) (fun _ => ?_) (fun h9 => absurd (nI_le (a := c) (b := k_4) (by omega) (by omega)) h9)
          rw [show FX3_sunsNow_L15 g b tb n z c k_2 x1_1 0 k_4 x3_3 = x3_3 from by rw [FX3_sunsNow_L15]] at hcont
          have e9 : k_4 = c := by omega
          rw [e9] at hl
          exact hcont ls (lv_sub hl [0, 1, 2, 3, 4] rfl)
        | succ d_3 ih3 =>
          intro k_4 x3_3 ls hk3 hl hcont
          refine lv_iload E.1 E.2.1 dX3_sunsNow_15 (lv_at hl 0 rfl) ?_
          refine lv_aload_n E.1 E.2.1 dX3_sunsNow_17 rfl (lv_at hl 4 rfl) ?_
          refine mg_0_12 E hK hP in_3 w_0 dX3_sunsNow_18 ?_
          refine lv_topi (fun y_6 ey_6 => ?_)
          obtain rfl : y_6 = nI c := ey_6.trans (hc)
          refine lv_icmp_ge (x := nI k_4) (y := nI c) (tgt := 69) E.1 E.2.1 dX3_sunsNow_21 (by decide) (fun h9 => absurd h9 (nI_ge (a := k_4) (b := c) (by omega) (by omega))) (fun _ => ?_)
          refine lv_iload_n E.1 E.2.1 dX3_sunsNow_24 rfl (lv_at hl 1 rfl) ?_
          refine lv_if_eq (x := x3_3) (tgt := 61) E.1 E.2.1 dX3_sunsNow_25 (by decide) (fun h25 => ?_) (fun h25 => ?_)
          · have h25 := h25
            refine lv_iconst (v := 0) E.1 E.2.1 dX3_sunsNow_61 (by decide) ?_
            refine lv_istore_n (lv' := [(3, .int 0), (4, .int (nI k_4)), (2, .int (nI k_2)), (1, .int x1_1), (0, .ref (ad 0))]) E.1 E.2.1 dX3_sunsNow_62 rfl hl (by decide) rfl (fun ls hl => ?_)
            refine lv_iinc (v := nI (k_4 + 1)) (k := 1) (lv' := [(4, .int (nI (k_4 + 1))), (3, .int 0), (2, .int (nI k_2)), (1, .int x1_1), (0, .ref (ad 0))]) E.1 E.2.1 dX3_sunsNow_63 hl rfl (nI_1 k_4) (by decide) rfl (fun ls hl => ?_)
            refine lv_goto (tgt := 15) E.1 E.2.1 dX3_sunsNow_66 (by decide) ?_
            rw [show FX3_sunsNow_L15 g b tb n z c k_2 x1_1 (d_3 + 1) k_4 x3_3 = FX3_sunsNow_L15 g b tb n z c k_2 x1_1 d_3 (k_4 + 1) 0 from by rw [FX3_sunsNow_L15, if_pos h25]] at hcont
            exact ih3 (k_4 + 1) 0 ls (by omega) (lv_sub hl [0, 1, 2, 3, 4] rfl) hcont
          · have h25 := h25
            refine lv_aload_n E.1 E.2.1 dX3_sunsNow_28 rfl (lv_at hl 4 rfl) ?_
            refine lv_aload_n E.1 E.2.1 dX3_sunsNow_29 rfl (lv_at hl 4 rfl) ?_
            refine mg_0_13 E hK hP in_3 w_1 dX3_sunsNow_30 ?_
            refine lv_iload E.1 E.2.1 dX3_sunsNow_33 (lv_at hl 0 rfl) ?_
            refine ml_7 (i := nI k_4) E hK hP (vp_in_nI (by omega) (by omega)) dX3_sunsNow_35 ?_
            refine lv_topi (fun y_7 ey_7 => ?_)
            obtain rfl : y_7 = b 7 k_4 := ey_7.trans (by rw [nI_clamp (show k_4 < 2 ^ 31 by omega)] <;> rfl)
            refine lv_aload_n E.1 E.2.1 dX3_sunsNow_36 rfl (lv_at hl 4 rfl) ?_
            refine mg_0_14 E hK hP in_3 w_2 dX3_sunsNow_37 ?_
            refine lv_iload E.1 E.2.1 dX3_sunsNow_40 (lv_at hl 0 rfl) ?_
            refine ml_8 (i := nI k_4) E hK hP (vp_in_nI (by omega) (by omega)) dX3_sunsNow_42 ?_
            refine lv_topi (fun y_8 ey_8 => ?_)
            obtain rfl : y_8 = b 8 k_4 := ey_8.trans (by rw [nI_clamp (show k_4 < 2 ^ 31 by omega)] <;> rfl)
            refine lv_iload_n E.1 E.2.1 dX3_sunsNow_43 rfl (lv_at hl 2 rfl) ?_
            refine g_VR (As := [.int (b 7 k_4), .int (b 8 k_4), .int (nI k_2)]) (rest := []) E hK hP (c_X3_leftOf l D cI cB ad g t gl b tb n z c hM (b 7 k_4) (b 8 k_4) (nI k_2) (by obtain ⟨j9, hj9, ej9⟩ := hfs k_4 (by omega); rw [ej9]; exact vp_in_nI (by omega) (by omega))) (cwV 3 E.2.2.2.2 gX3_sunsNow_X3_leftOf rfl rfl rfl (by decide +kernel) ⟨Nat.le_of_ble_eq_true rfl, Nat.le_of_ble_eq_true rfl⟩) (rm0x hK hP) rfl hl.1 rfl (Nat.le_of_ble_eq_true rfl) dX3_sunsNow_44 ⟨Nat.zero_le _, Nat.zero_le _⟩ ?_
            refine lv_aload_n E.1 E.2.1 dX3_sunsNow_47 rfl (lv_at hl 4 rfl) ?_
            refine mg_0_15 E hK hP in_3 w_3 dX3_sunsNow_48 ?_
            refine lv_iload E.1 E.2.1 dX3_sunsNow_51 (lv_at hl 0 rfl) ?_
            refine ml_9 (i := nI k_4) E hK hP (vp_in_nI (by omega) (by omega)) dX3_sunsNow_53 ?_
            refine lv_topi (fun y_9 ey_9 => ?_)
            obtain rfl : y_9 = b 9 k_4 := ey_9.trans (by rw [nI_clamp (show k_4 < 2 ^ 31 by omega)] <;> rfl)
            refine lv_icmp_ne (x := FX3_leftOf g b tb n z c (b 7 k_4) (b 8 k_4) (nI k_2)) (y := b 9 k_4) (tgt := 61) E.1 E.2.1 dX3_sunsNow_54 (by decide) (fun h54 => ?_) (fun h54 => ?_)
            · have h54 := h54
              refine lv_iconst (v := 0) E.1 E.2.1 dX3_sunsNow_61 (by decide) ?_
              refine lv_istore_n (lv' := [(3, .int 0), (4, .int (nI k_4)), (2, .int (nI k_2)), (1, .int x1_1), (0, .ref (ad 0))]) E.1 E.2.1 dX3_sunsNow_62 rfl hl (by decide) rfl (fun ls hl => ?_)
              refine lv_iinc (v := nI (k_4 + 1)) (k := 1) (lv' := [(4, .int (nI (k_4 + 1))), (3, .int 0), (2, .int (nI k_2)), (1, .int x1_1), (0, .ref (ad 0))]) E.1 E.2.1 dX3_sunsNow_63 hl rfl (nI_1 k_4) (by decide) rfl (fun ls hl => ?_)
              refine lv_goto (tgt := 15) E.1 E.2.1 dX3_sunsNow_66 (by decide) ?_
              rw [show FX3_sunsNow_L15 g b tb n z c k_2 x1_1 (d_3 + 1) k_4 x3_3 = FX3_sunsNow_L15 g b tb n z c k_2 x1_1 d_3 (k_4 + 1) 0 from by rw [FX3_sunsNow_L15, if_neg h25, if_neg h54]] at hcont
              exact ih3 (k_4 + 1) 0 ls (by omega) (lv_sub hl [0, 1, 2, 3, 4] rfl) hcont
            · have h54 := h54
              refine lv_iconst (v := 1) E.1 E.2.1 dX3_sunsNow_57 (by decide) ?_
              refine lv_goto (tgt := 62) E.1 E.2.1 dX3_sunsNow_58 (by decide) ?_
              refine lv_istore_n (lv' := [(3, .int 1), (4, .int (nI k_4)), (2, .int (nI k_2)), (1, .int x1_1), (0, .ref (ad 0))]) E.1 E.2.1 dX3_sunsNow_62 rfl hl (by decide) rfl (fun ls hl => ?_)
              refine lv_iinc (v := nI (k_4 + 1)) (k := 1) (lv' := [(4, .int (nI (k_4 + 1))), (3, .int 1), (2, .int (nI k_2)), (1, .int x1_1), (0, .ref (ad 0))]) E.1 E.2.1 dX3_sunsNow_63 hl rfl (nI_1 k_4) (by decide) rfl (fun ls hl => ?_)
              refine lv_goto (tgt := 15) E.1 E.2.1 dX3_sunsNow_66 (by decide) ?_
              rw [show FX3_sunsNow_L15 g b tb n z c k_2 x1_1 (d_3 + 1) k_4 x3_3 = FX3_sunsNow_L15 g b tb n z c k_2 x1_1 d_3 (k_4 + 1) 1 from by rw [FX3_sunsNow_L15, if_neg h25, if_pos h54]] at hcont
              exact ih3 (k_4 + 1) 1 ls (by omega) (lv_sub hl [0, 1, 2, 3, 4] rfl) hcont
      have hl : lv_has ls 5 [(4, .int (nI 0)), (3, .int 1), (2, .int (nI k_2)), (1, .int x1_1), (0, .ref (ad 0))] := lv_sub hl [0, 1, 2, 3, 4] rfl
      refine loop3 c 0 1 ls (by omega) (lv_sub hl [0, 1, 2, 3, 4] rfl) (fun ls hl => ?_)
      refine lv_iload_n E.1 E.2.1 dX3_sunsNow_69 rfl (lv_at hl 3 rfl) ?_
      refine lv_iload_n E.1 E.2.1 dX3_sunsNow_70 rfl (lv_at hl 1 rfl) ?_
      refine lv_if_eq (x := FX3_sunsNow_L15 g b tb n z c k_2 x1_1 c 0 1) (tgt := 80) E.1 E.2.1 dX3_sunsNow_71 (by decide) (fun h71 => ?_) (fun h71 => ?_)
      · have h71 := h71
        refine lv_iconst (v := 0) E.1 E.2.1 dX3_sunsNow_80 (by decide) ?_
        refine lv_ior (x := x1_1) (y := 0) E.1 E.2.1 dX3_sunsNow_81 ?_
        refine lv_istore_n (lv' := [(1, .int (x1_1 ||| 0)), (4, .int (nI c)), (3, .int (FX3_sunsNow_L15 g b tb n z c k_2 x1_1 c 0 1)), (2, .int (nI k_2)), (0, .ref (ad 0))]) E.1 E.2.1 dX3_sunsNow_82 rfl hl (by decide) rfl (fun ls hl => ?_)
        refine lv_iinc (v := nI (k_2 + 1)) (k := 3) (lv' := [(2, .int (nI (k_2 + 1))), (1, .int (x1_1 ||| 0)), (4, .int (nI c)), (3, .int (FX3_sunsNow_L15 g b tb n z c k_2 x1_1 c 0 1)), (0, .ref (ad 0))]) E.1 E.2.1 dX3_sunsNow_83 hl rfl (nI_1 k_2) (by decide) rfl (fun ls hl => ?_)
        refine lv_goto (tgt := 4) E.1 E.2.1 dX3_sunsNow_86 (by decide) ?_
        rw [show FX3_sunsNow_L4 g b tb n z c (d_1 + 1) k_2 x1_1 = FX3_sunsNow_L4 g b tb n z c d_1 (k_2 + 1) (x1_1 ||| 0) from by rw [FX3_sunsNow_L4, if_pos h71]]
        exact ih1 (k_2 + 1) (x1_1 ||| 0) ls (by omega) (lv_sub hl [0, 1, 4] rfl)
      · have h71 := h71
        refine lv_iconst (v := 1) E.1 E.2.1 dX3_sunsNow_74 (by decide) ?_
        refine lv_iload_n E.1 E.2.1 dX3_sunsNow_75 rfl (lv_at hl 2 rfl) ?_
        refine lv_ishl (x := 1) (y := nI k_2) E.1 E.2.1 dX3_sunsNow_76 ?_
        refine lv_goto (tgt := 81) E.1 E.2.1 dX3_sunsNow_77 (by decide) ?_
        refine lv_ior (x := x1_1) (y := 1 <<< ((nI k_2) &&& 31)) E.1 E.2.1 dX3_sunsNow_81 ?_
        refine lv_istore_n (lv' := [(1, .int (x1_1 ||| (1 <<< ((nI k_2) &&& 31)))), (4, .int (nI c)), (3, .int (FX3_sunsNow_L15 g b tb n z c k_2 x1_1 c 0 1)), (2, .int (nI k_2)), (0, .ref (ad 0))]) E.1 E.2.1 dX3_sunsNow_82 rfl hl (by decide) rfl (fun ls hl => ?_)
        refine lv_iinc (v := nI (k_2 + 1)) (k := 3) (lv' := [(2, .int (nI (k_2 + 1))), (1, .int (x1_1 ||| (1 <<< ((nI k_2) &&& 31)))), (4, .int (nI c)), (3, .int (FX3_sunsNow_L15 g b tb n z c k_2 x1_1 c 0 1)), (0, .ref (ad 0))]) E.1 E.2.1 dX3_sunsNow_83 hl rfl (nI_1 k_2) (by decide) rfl (fun ls hl => ?_)
        refine lv_goto (tgt := 4) E.1 E.2.1 dX3_sunsNow_86 (by decide) ?_
        rw [show FX3_sunsNow_L4 g b tb n z c (d_1 + 1) k_2 x1_1 = FX3_sunsNow_L4 g b tb n z c d_1 (k_2 + 1) (x1_1 ||| (1 <<< ((nI k_2) &&& 31))) from by rw [FX3_sunsNow_L4, if_neg h71]]
        exact ih1 (k_2 + 1) (x1_1 ||| (1 <<< ((nI k_2) &&& 31))) ls (by omega) (lv_sub hl [0, 1, 4] rfl)
  rw [show FX3_sunsNow g b tb n z c = FX3_sunsNow_L4 g b tb n z c 10 0 0 from by rw [FX3_sunsNow]]
  have hl : lv_has ls 5 [(2, .int (nI 0)), (1, .int 0), (0, .ref (ad 0))] := lv_sub hl [0, 1, 2] rfl
  exact loop1 _ _ 0 ls (by omega) (lv_sub hl [0, 1, 2] rfl)
def FX3_suns (g : Nat → Int32) (b : Nat → Nat → Int32) (tb : Nat → Nat → Int32) (n : Nat) (z : Nat) (c : Nat) : Int32 := (if nI n = 0 then (-103) else FX3_sunsNow g b tb n z c)
set_option maxHeartbeats 4000000 in
set_option maxRecDepth 100000 in
/-- suns -/
theorem c_X3_suns (l : Launch) (D : va_G) (cI cB : ClassId) (ad : Nat → Nat) (g t : Nat → Int32) (gl : Nat → Int64) (b tb : Nat → Nat → Int32) (n z c : Nat) (hM : IM n z c g b)  : Met l yX3_suns wsX3_suns ({ frames := 4, cells := 0, slots := 0, locals := 90 }) (GPc D cI cB (wM cI cB ad g t gl b tb) [.ref (ad 0)]) (QcRead (FX3_suns g b tb n z c)) 0 0 (fun _ => False) := by
  refine Met.ofW (cc := cX3_suns) (maxL := 1) (ret := (some .int)) (by decide) rfl ?_
  intro p e s m args below meth cd s₁ B hml hv
  obtain ⟨rfl, hP, hK⟩ := hv
  have hts := atoms_spec (ws := wsX3_suns) B.pre
  have E : CallFix p m cd cX3_suns 1 s _ wsX3_suns RX3 := ⟨B.exec, B.bytes, hml, findClass_of_methodNamed B.named, hts⟩
  have hr := B.returns
  have hlocks := B.notSynchronized
  have h2n := pow6 (n := n) (by have := hM.2.1; omega)
  obtain ⟨hn, hn6, hz, hz21, hc, hc6, hfs⟩ := id hM
  have in_3 : ∀ w ∈ wsX30, w ∈ wsX3_suns := fun _ h => List.mem_cons_of_mem _ (List.mem_append_right _ h)
  have w_0 : (Cond.fieldLink RX3 94 "SnowTermModel" "sites" "I").before _ s = true := hts _ (by decide +kernel)
  have hl := lv_entry ([.ref (ad 0)]) (n := 1) (Nat.le_of_ble_eq_true rfl)
  rw [lg_entry_eq]
  generalize (lg_sl ([.ref (ad 0)]) ++ List.replicate (1 - (lg_sl ([.ref (ad 0)])).length) Slot.unset).toArray = ls at hl ⊢
  have hl : lv_has ls 1 [(0, .ref (ad 0))] := hl
  refine lv_aload_n E.1 E.2.1 dX3_suns_0 rfl (lv_at hl 0 rfl) ?_
  refine mg_0_1 E hK hP in_3 w_0 dX3_suns_1 ?_
  refine lv_topi (fun y_1 ey_1 => ?_)
  obtain rfl : y_1 = nI n := ey_1.trans (hn)
  refine lv_if_ne (x := nI n) (tgt := 12) E.1 E.2.1 dX3_suns_4 (by decide) (fun h4 => ?_) (fun h4 => ?_)
  · have h4 := h4
    refine lv_aload_n E.1 E.2.1 dX3_suns_12 rfl (lv_at hl 0 rfl) ?_
    refine g_VR (As := []) (rest := []) E hK hP (c_X3_sunsNow l D cI cB ad g t gl b tb n z c hM) (cwV 0 E.2.2.2.2 gX3_suns_X3_sunsNow rfl rfl rfl (by decide +kernel) ⟨Nat.le_of_ble_eq_true rfl, Nat.le_of_ble_eq_true rfl⟩) (rm0x hK hP) rfl hl.1 rfl (Nat.le_of_ble_eq_true rfl) dX3_suns_13 ⟨Nat.zero_le _, Nat.zero_le _⟩ ?_
    exact W.iret (v := FX3_sunsNow g b tb n z c) E.1 E.2.1 hr (fun t ht _ => ⟨congrArg (fun z : Int32 => Outcome.returned (some (Value.int z))) (show FX3_sunsNow g b tb n z c = FX3_suns g b tb n z c from by rw [FX3_suns, if_neg h4]), ht⟩) (fun q hq => by cases hq) dX3_suns_16
  · have h4 := h4
    refine lv_bipush (v := (-103)) E.1 E.2.1 dX3_suns_7 (by decide) ?_
    refine lv_goto (tgt := 16) E.1 E.2.1 dX3_suns_9 (by decide) ?_
    exact W.iret (v := (-103)) E.1 E.2.1 hr (fun t ht _ => ⟨congrArg (fun z : Int32 => Outcome.returned (some (Value.int z))) (show (-103) = FX3_suns g b tb n z c from by rw [FX3_suns, if_pos h4]), ht⟩) (fun q hq => by cases hq) dX3_suns_16
def FX3_worstAt_L18 (g : Nat → Int32) (b : Nat → Nat → Int32) (tb : Nat → Nat → Int32) (n : Nat) (z : Nat) (c : Nat) (p0 : Int32) (p1 : Int32) (k_2 : Nat) (x3_1 : Int32) : Nat → Nat → Int32 → Int32
  | 0, k_4, x5_3 => x5_3
  | d_3 + 1, k_4, x5_3 => (if FX3_isIn p0 (nI k_2) = 0 then FX3_worstAt_L18 g b tb n z c p0 p1 k_2 x3_1 d_3 (k_4 + 1) (x5_3 + 0) else (if FX3_isIn p0 (nI k_4) = 0 then FX3_worstAt_L18 g b tb n z c p0 p1 k_2 x3_1 d_3 (k_4 + 1) (x5_3 + 0) else (if FX3_leftOf g b tb n z c p1 30 (nI k_2) = FX3_leftOf g b tb n z c p1 30 (nI k_4) then FX3_worstAt_L18 g b tb n z c p0 p1 k_2 x3_1 d_3 (k_4 + 1) (x5_3 + 1) else FX3_worstAt_L18 g b tb n z c p0 p1 k_2 x3_1 d_3 (k_4 + 1) (x5_3 + 0))))
def FX3_worstAt_L5 (g : Nat → Int32) (b : Nat → Nat → Int32) (tb : Nat → Nat → Int32) (n : Nat) (z : Nat) (c : Nat) (p0 : Int32) (p1 : Int32) : Nat → Nat → Int32 → Int32
  | 0, k_2, x3_1 => x3_1
  | d_1 + 1, k_2, x3_1 => (if FX3_worstAt_L18 g b tb n z c p0 p1 k_2 x3_1 10 0 0 ≤ x3_1 then FX3_worstAt_L5 g b tb n z c p0 p1 d_1 (k_2 + 1) x3_1 else FX3_worstAt_L5 g b tb n z c p0 p1 d_1 (k_2 + 1) (FX3_worstAt_L18 g b tb n z c p0 p1 k_2 x3_1 10 0 0))
def FX3_worstAt (g : Nat → Int32) (b : Nat → Nat → Int32) (tb : Nat → Nat → Int32) (n : Nat) (z : Nat) (c : Nat) (p0 : Int32) (p1 : Int32) : Int32 := FX3_worstAt_L5 g b tb n z c p0 p1 10 0 0
set_option maxHeartbeats 4000000 in
set_option maxRecDepth 100000 in
/-- suns left at worst -/
theorem c_X3_worstAt (l : Launch) (D : va_G) (cI cB : ClassId) (ad : Nat → Nat) (g t : Nat → Int32) (gl : Nat → Int64) (b tb : Nat → Nat → Int32) (n z c : Nat) (hM : IM n z c g b) (p0 : Int32) (p1 : Int32) (hs1 : vp_in p1 6) : Met l yX3_worstAt wsX3_worstAt ({ frames := 3, cells := 0, slots := 0, locals := 66 }) (GPc D cI cB (wM cI cB ad g t gl b tb) [.ref (ad 0), .int p0, .int p1]) (QcRead (FX3_worstAt g b tb n z c p0 p1)) 0 0 (fun _ => False) := by
  refine Met.ofW (cc := cX3_worstAt) (maxL := 7) (ret := (some .int)) (by decide) rfl ?_
  intro p e s m args below meth cd s₁ B hml hv
  obtain ⟨rfl, hP, hK⟩ := hv
  have hts := atoms_spec (ws := wsX3_worstAt) B.pre
  have E : CallFix p m cd cX3_worstAt 7 s _ wsX3_worstAt RX3 := ⟨B.exec, B.bytes, hml, findClass_of_methodNamed B.named, hts⟩
  have hr := B.returns
  have hlocks := B.notSynchronized
  have h2n := pow6 (n := n) (by have := hM.2.1; omega)
  obtain ⟨hn, hn6, hz, hz21, hc, hc6, hfs⟩ := id hM
  have hl := lv_entry ([.ref (ad 0), .int p0, .int p1]) (n := 7) (Nat.le_of_ble_eq_true rfl)
  rw [lg_entry_eq]
  generalize (lg_sl ([.ref (ad 0), .int p0, .int p1]) ++ List.replicate (7 - (lg_sl ([.ref (ad 0), .int p0, .int p1])).length) Slot.unset).toArray = ls at hl ⊢
  have hl : lv_has ls 7 [(0, .ref (ad 0)), (1, .int p0), (2, .int p1)] := hl
  refine lv_iconst (v := 0) E.1 E.2.1 dX3_worstAt_0 (by decide) ?_
  refine lv_istore_n (lv' := [(3, .int 0), (0, .ref (ad 0)), (1, .int p0), (2, .int p1)]) E.1 E.2.1 dX3_worstAt_1 rfl hl (by decide) rfl (fun ls hl => ?_)
  refine lv_iconst (v := 0) E.1 E.2.1 dX3_worstAt_2 (by decide) ?_
  refine lv_istore (lv' := [(4, .int 0), (3, .int 0), (0, .ref (ad 0)), (1, .int p0), (2, .int p1)]) E.1 E.2.1 dX3_worstAt_3 hl (by decide) rfl (fun ls hl => ?_)
  have loop1 : ∀ (d_1 k_2 : Nat) (x3_1 : Int32) (ls : Array Slot), k_2 + d_1 = 10 → lv_has ls 7 [(4, .int (nI k_2)), (3, .int x3_1), (0, .ref (ad 0)), (1, .int p0), (2, .int p1)] → W p l e (headSpec wsX3_worstAt { frames := 3, cells := 0, slots := 0, locals := 66 }).room s m ([.ref (ad 0), .int p0, .int p1] : List Value).toArray below meth cd s.heap [] 0 0 (MQ below (QcRead (FX3_worstAt_L5 g b tb n z c p0 p1 d_1 k_2 x3_1)) ([.ref (ad 0), .int p0, .int p1] : List Value).toArray s 0 0 (fun _ => False)) (F0 m 5 ls []) := by
    intro d_1
    induction d_1 with
    | zero =>
      intro k_2 x3_1 ls hk1 hl
      refine lv_iload E.1 E.2.1 dX3_worstAt_5 (lv_at hl 0 rfl) ?_
      refine lv_bipush (v := 9) E.1 E.2.1 dX3_worstAt_7 (by decide) ?_
      refine lv_icmp_gt (x := nI k_2) (y := 9) (tgt := 99) E.1 E.2.1 dX3_worstAt_9 (by decide) (fun _ => ?_) (fun h9 => absurd (nI_lt (a := 9) (b := k_2) (by omega) (by omega)) h9)
      refine lv_iload_n E.1 E.2.1 dX3_worstAt_99 rfl (lv_at hl 1 rfl) ?_
      exact W.iret (v := x3_1) E.1 E.2.1 hr (fun t ht _ => ⟨congrArg (fun z : Int32 => Outcome.returned (some (Value.int z))) (show x3_1 = FX3_worstAt_L5 g b tb n z c p0 p1 0 k_2 x3_1 from by rw [FX3_worstAt_L5]), ht⟩) (fun q hq => by cases hq) dX3_worstAt_100
    | succ d_1 ih1 =>
      intro k_2 x3_1 ls hk1 hl
      refine lv_iload E.1 E.2.1 dX3_worstAt_5 (lv_at hl 0 rfl) ?_
      refine lv_bipush (v := 9) E.1 E.2.1 dX3_worstAt_7 (by decide) ?_
      refine lv_icmp_gt (x := nI k_2) (y := 9) (tgt := 99) E.1 E.2.1 dX3_worstAt_9 (by decide) (fun h9 => absurd h9 (nI_nlt (b := k_2) (a := 9) (by omega) (by omega))) (fun _ => ?_)
      refine lv_iconst (v := 0) E.1 E.2.1 dX3_worstAt_12 (by decide) ?_
      refine lv_istore (lv' := [(5, .int 0), (4, .int (nI k_2)), (3, .int x3_1), (0, .ref (ad 0)), (1, .int p0), (2, .int p1)]) E.1 E.2.1 dX3_worstAt_13 hl (by decide) rfl (fun ls hl => ?_)
      refine lv_iconst (v := 0) E.1 E.2.1 dX3_worstAt_15 (by decide) ?_
      refine lv_istore (lv' := [(6, .int 0), (5, .int 0), (4, .int (nI k_2)), (3, .int x3_1), (0, .ref (ad 0)), (1, .int p0), (2, .int p1)]) E.1 E.2.1 dX3_worstAt_16 hl (by decide) rfl (fun ls hl => ?_)
      have loop3 : ∀ (d_3 k_4 : Nat) (x5_3 : Int32) (ls : Array Slot), k_4 + d_3 = 10 → lv_has ls 7 [(6, .int (nI k_4)), (5, .int x5_3), (4, .int (nI k_2)), (3, .int x3_1), (0, .ref (ad 0)), (1, .int p0), (2, .int p1)] → (∀ ls : Array Slot, lv_has ls 7 [(6, .int (nI 10)), (5, .int (FX3_worstAt_L18 g b tb n z c p0 p1 k_2 x3_1 d_3 k_4 x5_3)), (4, .int (nI k_2)), (3, .int x3_1), (0, .ref (ad 0)), (1, .int p0), (2, .int p1)] → W p l e (headSpec wsX3_worstAt { frames := 3, cells := 0, slots := 0, locals := 66 }).room s m ([.ref (ad 0), .int p0, .int p1] : List Value).toArray below meth cd s.heap [] 0 0 (MQ below (QcRead (FX3_worstAt_L5 g b tb n z c p0 p1 (d_1 + 1) k_2 x3_1)) ([.ref (ad 0), .int p0, .int p1] : List Value).toArray s 0 0 (fun _ => False)) (F0 m 80 ls [])) → W p l e (headSpec wsX3_worstAt { frames := 3, cells := 0, slots := 0, locals := 66 }).room s m ([.ref (ad 0), .int p0, .int p1] : List Value).toArray below meth cd s.heap [] 0 0 (MQ below (QcRead (FX3_worstAt_L5 g b tb n z c p0 p1 (d_1 + 1) k_2 x3_1)) ([.ref (ad 0), .int p0, .int p1] : List Value).toArray s 0 0 (fun _ => False)) (F0 m 18 ls []) := by
        intro d_3
        induction d_3 with
        | zero =>
          intro k_4 x5_3 ls hk3 hl hcont
          refine lv_iload E.1 E.2.1 dX3_worstAt_18 (lv_at hl 0 rfl) ?_
          refine lv_bipush (v := 9) E.1 E.2.1 dX3_worstAt_20 (by decide) ?_
          refine lv_icmp_gt (x := nI k_4) (y := 9) (tgt := 80) E.1 E.2.1 dX3_worstAt_22 (by decide) (fun _ => ?_) (fun h9 => absurd (nI_lt (a := 9) (b := k_4) (by omega) (by omega)) h9)
          rw [show FX3_worstAt_L18 g b tb n z c p0 p1 k_2 x3_1 0 k_4 x5_3 = x5_3 from by rw [FX3_worstAt_L18]] at hcont
          have e9 : k_4 = 10 := by omega
          rw [e9] at hl
          exact hcont ls (lv_sub hl [0, 1, 2, 3, 4, 5, 6] rfl)
        | succ d_3 ih3 =>
          intro k_4 x5_3 ls hk3 hl hcont
          refine lv_iload E.1 E.2.1 dX3_worstAt_18 (lv_at hl 0 rfl) ?_
          refine lv_bipush (v := 9) E.1 E.2.1 dX3_worstAt_20 (by decide) ?_
          refine lv_icmp_gt (x := nI k_4) (y := 9) (tgt := 80) E.1 E.2.1 dX3_worstAt_22 (by decide) (fun h9 => absurd h9 (nI_nlt (b := k_4) (a := 9) (by omega) (by omega))) (fun _ => ?_)
          refine lv_iload E.1 E.2.1 dX3_worstAt_25 (lv_at hl 1 rfl) ?_
          refine lv_iload_n E.1 E.2.1 dX3_worstAt_27 rfl (lv_at hl 5 rfl) ?_
          refine lv_iload E.1 E.2.1 dX3_worstAt_28 (lv_at hl 2 rfl) ?_
          refine g_SR (As := [.int p0, .int (nI k_2)]) (rest := [.int x5_3]) E hK (c_X3_isIn l D cI cB p0 (nI k_2)) (va_cwS 2 E.2.2.2.2 gX3_worstAt_X3_isIn rfl rfl rfl (by decide +kernel) ⟨Nat.le_of_ble_eq_true rfl, Nat.le_of_ble_eq_true rfl⟩) rfl hl.1 rfl (Nat.le_of_ble_eq_true rfl) dX3_worstAt_30 ⟨Nat.zero_le _, Nat.zero_le _⟩ ?_
          refine lv_if_eq (x := FX3_isIn p0 (nI k_2)) (tgt := 70) E.1 E.2.1 dX3_worstAt_33 (by decide) (fun h33 => ?_) (fun h33 => ?_)
          · have h33 := h33
            refine lv_iconst (v := 0) E.1 E.2.1 dX3_worstAt_70 (by decide) ?_
            refine lv_iadd (x := x5_3) (y := 0) E.1 E.2.1 dX3_worstAt_71 ?_
            refine lv_istore (lv' := [(5, .int (x5_3 + 0)), (6, .int (nI k_4)), (4, .int (nI k_2)), (3, .int x3_1), (0, .ref (ad 0)), (1, .int p0), (2, .int p1)]) E.1 E.2.1 dX3_worstAt_72 hl (by decide) rfl (fun ls hl => ?_)
            refine lv_iinc (v := nI (k_4 + 1)) (k := 1) (lv' := [(6, .int (nI (k_4 + 1))), (5, .int (x5_3 + 0)), (4, .int (nI k_2)), (3, .int x3_1), (0, .ref (ad 0)), (1, .int p0), (2, .int p1)]) E.1 E.2.1 dX3_worstAt_74 hl rfl (nI_1 k_4) (by decide) rfl (fun ls hl => ?_)
            refine lv_goto (tgt := 18) E.1 E.2.1 dX3_worstAt_77 (by decide) ?_
            rw [show FX3_worstAt_L18 g b tb n z c p0 p1 k_2 x3_1 (d_3 + 1) k_4 x5_3 = FX3_worstAt_L18 g b tb n z c p0 p1 k_2 x3_1 d_3 (k_4 + 1) (x5_3 + 0) from by rw [FX3_worstAt_L18, if_pos h33]] at hcont
            exact ih3 (k_4 + 1) (x5_3 + 0) ls (by omega) (lv_sub hl [0, 1, 2, 3, 4, 5, 6] rfl) hcont
          · have h33 := h33
            refine lv_iload_n E.1 E.2.1 dX3_worstAt_36 rfl (lv_at hl 5 rfl) ?_
            refine lv_iload E.1 E.2.1 dX3_worstAt_37 (lv_at hl 0 rfl) ?_
            refine g_SR (As := [.int p0, .int (nI k_4)]) (rest := [.int x5_3]) E hK (c_X3_isIn l D cI cB p0 (nI k_4)) (va_cwS 2 E.2.2.2.2 gX3_worstAt_X3_isIn rfl rfl rfl (by decide +kernel) ⟨Nat.le_of_ble_eq_true rfl, Nat.le_of_ble_eq_true rfl⟩) rfl hl.1 rfl (Nat.le_of_ble_eq_true rfl) dX3_worstAt_39 ⟨Nat.zero_le _, Nat.zero_le _⟩ ?_
            refine lv_if_eq (x := FX3_isIn p0 (nI k_4)) (tgt := 70) E.1 E.2.1 dX3_worstAt_42 (by decide) (fun h42 => ?_) (fun h42 => ?_)
            · have h42 := h42
              refine lv_iconst (v := 0) E.1 E.2.1 dX3_worstAt_70 (by decide) ?_
              refine lv_iadd (x := x5_3) (y := 0) E.1 E.2.1 dX3_worstAt_71 ?_
              refine lv_istore (lv' := [(5, .int (x5_3 + 0)), (6, .int (nI k_4)), (4, .int (nI k_2)), (3, .int x3_1), (0, .ref (ad 0)), (1, .int p0), (2, .int p1)]) E.1 E.2.1 dX3_worstAt_72 hl (by decide) rfl (fun ls hl => ?_)
              refine lv_iinc (v := nI (k_4 + 1)) (k := 1) (lv' := [(6, .int (nI (k_4 + 1))), (5, .int (x5_3 + 0)), (4, .int (nI k_2)), (3, .int x3_1), (0, .ref (ad 0)), (1, .int p0), (2, .int p1)]) E.1 E.2.1 dX3_worstAt_74 hl rfl (nI_1 k_4) (by decide) rfl (fun ls hl => ?_)
              refine lv_goto (tgt := 18) E.1 E.2.1 dX3_worstAt_77 (by decide) ?_
              rw [show FX3_worstAt_L18 g b tb n z c p0 p1 k_2 x3_1 (d_3 + 1) k_4 x5_3 = FX3_worstAt_L18 g b tb n z c p0 p1 k_2 x3_1 d_3 (k_4 + 1) (x5_3 + 0) from by rw [FX3_worstAt_L18, if_neg h33, if_pos h42]] at hcont
              exact ih3 (k_4 + 1) (x5_3 + 0) ls (by omega) (lv_sub hl [0, 1, 2, 3, 4, 5, 6] rfl) hcont
            · have h42 := h42
              refine lv_aload_n E.1 E.2.1 dX3_worstAt_45 rfl (lv_at hl 4 rfl) ?_
              refine lv_iload_n E.1 E.2.1 dX3_worstAt_46 rfl (lv_at hl 6 rfl) ?_
              refine lv_bipush (v := 30) E.1 E.2.1 dX3_worstAt_47 (by decide) ?_
              refine lv_iload E.1 E.2.1 dX3_worstAt_49 (lv_at hl 2 rfl) ?_
              refine g_VR (As := [.int p1, .int 30, .int (nI k_2)]) (rest := [.int x5_3]) E hK hP (c_X3_leftOf l D cI cB ad g t gl b tb n z c hM p1 30 (nI k_2) (hs1)) (cwV 3 E.2.2.2.2 gX3_worstAt_X3_leftOf rfl rfl rfl (by decide +kernel) ⟨Nat.le_of_ble_eq_true rfl, Nat.le_of_ble_eq_true rfl⟩) (rm0x hK hP) rfl hl.1 rfl (Nat.le_of_ble_eq_true rfl) dX3_worstAt_51 ⟨Nat.zero_le _, Nat.zero_le _⟩ ?_
              refine lv_aload_n E.1 E.2.1 dX3_worstAt_54 rfl (lv_at hl 4 rfl) ?_
              refine lv_iload_n E.1 E.2.1 dX3_worstAt_55 rfl (lv_at hl 6 rfl) ?_
              refine lv_bipush (v := 30) E.1 E.2.1 dX3_worstAt_56 (by decide) ?_
              refine lv_iload E.1 E.2.1 dX3_worstAt_58 (lv_at hl 0 rfl) ?_
              refine g_VR (As := [.int p1, .int 30, .int (nI k_4)]) (rest := [.int (FX3_leftOf g b tb n z c p1 30 (nI k_2)), .int x5_3]) E hK hP (c_X3_leftOf l D cI cB ad g t gl b tb n z c hM p1 30 (nI k_4) (hs1)) (cwV 3 E.2.2.2.2 gX3_worstAt_X3_leftOf rfl rfl rfl (by decide +kernel) ⟨Nat.le_of_ble_eq_true rfl, Nat.le_of_ble_eq_true rfl⟩) (rm0x hK hP) rfl hl.1 rfl (Nat.le_of_ble_eq_true rfl) dX3_worstAt_60 ⟨Nat.zero_le _, Nat.zero_le _⟩ ?_
              refine lv_icmp_ne (x := FX3_leftOf g b tb n z c p1 30 (nI k_2)) (y := FX3_leftOf g b tb n z c p1 30 (nI k_4)) (tgt := 70) E.1 E.2.1 dX3_worstAt_63 (by decide) (fun h63 => ?_) (fun h63 => ?_)
              · have h63 := h63
                refine lv_iconst (v := 0) E.1 E.2.1 dX3_worstAt_70 (by decide) ?_
                refine lv_iadd (x := x5_3) (y := 0) E.1 E.2.1 dX3_worstAt_71 ?_
                refine lv_istore (lv' := [(5, .int (x5_3 + 0)), (6, .int (nI k_4)), (4, .int (nI k_2)), (3, .int x3_1), (0, .ref (ad 0)), (1, .int p0), (2, .int p1)]) E.1 E.2.1 dX3_worstAt_72 hl (by decide) rfl (fun ls hl => ?_)
                refine lv_iinc (v := nI (k_4 + 1)) (k := 1) (lv' := [(6, .int (nI (k_4 + 1))), (5, .int (x5_3 + 0)), (4, .int (nI k_2)), (3, .int x3_1), (0, .ref (ad 0)), (1, .int p0), (2, .int p1)]) E.1 E.2.1 dX3_worstAt_74 hl rfl (nI_1 k_4) (by decide) rfl (fun ls hl => ?_)
                refine lv_goto (tgt := 18) E.1 E.2.1 dX3_worstAt_77 (by decide) ?_
                rw [show FX3_worstAt_L18 g b tb n z c p0 p1 k_2 x3_1 (d_3 + 1) k_4 x5_3 = FX3_worstAt_L18 g b tb n z c p0 p1 k_2 x3_1 d_3 (k_4 + 1) (x5_3 + 0) from by rw [FX3_worstAt_L18, if_neg h33, if_neg h42, if_neg h63]] at hcont
                exact ih3 (k_4 + 1) (x5_3 + 0) ls (by omega) (lv_sub hl [0, 1, 2, 3, 4, 5, 6] rfl) hcont
              · have h63 := h63
                refine lv_iconst (v := 1) E.1 E.2.1 dX3_worstAt_66 (by decide) ?_
                refine lv_goto (tgt := 71) E.1 E.2.1 dX3_worstAt_67 (by decide) ?_
                refine lv_iadd (x := x5_3) (y := 1) E.1 E.2.1 dX3_worstAt_71 ?_
                refine lv_istore (lv' := [(5, .int (x5_3 + 1)), (6, .int (nI k_4)), (4, .int (nI k_2)), (3, .int x3_1), (0, .ref (ad 0)), (1, .int p0), (2, .int p1)]) E.1 E.2.1 dX3_worstAt_72 hl (by decide) rfl (fun ls hl => ?_)
                refine lv_iinc (v := nI (k_4 + 1)) (k := 1) (lv' := [(6, .int (nI (k_4 + 1))), (5, .int (x5_3 + 1)), (4, .int (nI k_2)), (3, .int x3_1), (0, .ref (ad 0)), (1, .int p0), (2, .int p1)]) E.1 E.2.1 dX3_worstAt_74 hl rfl (nI_1 k_4) (by decide) rfl (fun ls hl => ?_)
                refine lv_goto (tgt := 18) E.1 E.2.1 dX3_worstAt_77 (by decide) ?_
                rw [show FX3_worstAt_L18 g b tb n z c p0 p1 k_2 x3_1 (d_3 + 1) k_4 x5_3 = FX3_worstAt_L18 g b tb n z c p0 p1 k_2 x3_1 d_3 (k_4 + 1) (x5_3 + 1) from by rw [FX3_worstAt_L18, if_neg h33, if_neg h42, if_pos h63]] at hcont
                exact ih3 (k_4 + 1) (x5_3 + 1) ls (by omega) (lv_sub hl [0, 1, 2, 3, 4, 5, 6] rfl) hcont
      have hl : lv_has ls 7 [(6, .int (nI 0)), (5, .int 0), (4, .int (nI k_2)), (3, .int x3_1), (0, .ref (ad 0)), (1, .int p0), (2, .int p1)] := lv_sub hl [0, 1, 2, 3, 4, 5, 6] rfl
      refine loop3 10 0 0 ls (by omega) (lv_sub hl [0, 1, 2, 3, 4, 5, 6] rfl) (fun ls hl => ?_)
      refine lv_iload E.1 E.2.1 dX3_worstAt_80 (lv_at hl 1 rfl) ?_
      refine lv_iload_n E.1 E.2.1 dX3_worstAt_82 rfl (lv_at hl 3 rfl) ?_
      refine lv_icmp_le (x := FX3_worstAt_L18 g b tb n z c p0 p1 k_2 x3_1 10 0 0) (y := x3_1) (tgt := 91) E.1 E.2.1 dX3_worstAt_83 (by decide) (fun h83 => ?_) (fun h83 => ?_)
      · have h83 := h83
        refine lv_iload_n E.1 E.2.1 dX3_worstAt_91 rfl (lv_at hl 3 rfl) ?_
        refine lv_istore_n (lv' := [(3, .int x3_1), (6, .int (nI 10)), (5, .int (FX3_worstAt_L18 g b tb n z c p0 p1 k_2 x3_1 10 0 0)), (4, .int (nI k_2)), (0, .ref (ad 0)), (1, .int p0), (2, .int p1)]) E.1 E.2.1 dX3_worstAt_92 rfl hl (by decide) rfl (fun ls hl => ?_)
        refine lv_iinc (v := nI (k_2 + 1)) (k := 3) (lv' := [(4, .int (nI (k_2 + 1))), (3, .int x3_1), (6, .int (nI 10)), (5, .int (FX3_worstAt_L18 g b tb n z c p0 p1 k_2 x3_1 10 0 0)), (0, .ref (ad 0)), (1, .int p0), (2, .int p1)]) E.1 E.2.1 dX3_worstAt_93 hl rfl (nI_1 k_2) (by decide) rfl (fun ls hl => ?_)
        refine lv_goto (tgt := 5) E.1 E.2.1 dX3_worstAt_96 (by decide) ?_
        rw [show FX3_worstAt_L5 g b tb n z c p0 p1 (d_1 + 1) k_2 x3_1 = FX3_worstAt_L5 g b tb n z c p0 p1 d_1 (k_2 + 1) x3_1 from by rw [FX3_worstAt_L5, if_pos h83]]
        exact ih1 (k_2 + 1) x3_1 ls (by omega) (lv_sub hl [0, 1, 4, 5, 6] rfl)
      · have h83 := h83
        refine lv_iload E.1 E.2.1 dX3_worstAt_86 (lv_at hl 1 rfl) ?_
        refine lv_goto (tgt := 92) E.1 E.2.1 dX3_worstAt_88 (by decide) ?_
        refine lv_istore_n (lv' := [(3, .int (FX3_worstAt_L18 g b tb n z c p0 p1 k_2 x3_1 10 0 0)), (6, .int (nI 10)), (5, .int (FX3_worstAt_L18 g b tb n z c p0 p1 k_2 x3_1 10 0 0)), (4, .int (nI k_2)), (0, .ref (ad 0)), (1, .int p0), (2, .int p1)]) E.1 E.2.1 dX3_worstAt_92 rfl hl (by decide) rfl (fun ls hl => ?_)
        refine lv_iinc (v := nI (k_2 + 1)) (k := 3) (lv' := [(4, .int (nI (k_2 + 1))), (3, .int (FX3_worstAt_L18 g b tb n z c p0 p1 k_2 x3_1 10 0 0)), (6, .int (nI 10)), (5, .int (FX3_worstAt_L18 g b tb n z c p0 p1 k_2 x3_1 10 0 0)), (0, .ref (ad 0)), (1, .int p0), (2, .int p1)]) E.1 E.2.1 dX3_worstAt_93 hl rfl (nI_1 k_2) (by decide) rfl (fun ls hl => ?_)
        refine lv_goto (tgt := 5) E.1 E.2.1 dX3_worstAt_96 (by decide) ?_
        rw [show FX3_worstAt_L5 g b tb n z c p0 p1 (d_1 + 1) k_2 x3_1 = FX3_worstAt_L5 g b tb n z c p0 p1 d_1 (k_2 + 1) (FX3_worstAt_L18 g b tb n z c p0 p1 k_2 x3_1 10 0 0) from by rw [FX3_worstAt_L5, if_neg h83]]
        exact ih1 (k_2 + 1) (FX3_worstAt_L18 g b tb n z c p0 p1 k_2 x3_1 10 0 0) ls (by omega) (lv_sub hl [0, 1, 4, 5, 6] rfl)
  rw [show FX3_worstAt g b tb n z c p0 p1 = FX3_worstAt_L5 g b tb n z c p0 p1 10 0 0 from by rw [FX3_worstAt]]
  have hl : lv_has ls 7 [(4, .int (nI 0)), (3, .int 0), (0, .ref (ad 0)), (1, .int p0), (2, .int p1)] := lv_sub hl [0, 1, 2, 3, 4] rfl
  exact loop1 _ _ 0 ls (by omega) (lv_sub hl [0, 1, 2, 3, 4] rfl)
def FX3_lookNow_L21 (g : Nat → Int32) (b : Nat → Nat → Int32) (tb : Nat → Nat → Int32) (n : Nat) (z : Nat) (c : Nat) : Nat → Nat → Int32 → Int32 → Int32
  | 0, k_2, x2_1, x3_1 => x2_1
  | d_1 + 1, k_2, x2_1, x3_1 => (if x3_1 ≤ FX3_worstAt g b tb n z c (FX3_sunsNow g b tb n z c) (nI k_2) then (if x3_1 ≤ FX3_worstAt g b tb n z c (FX3_sunsNow g b tb n z c) (nI k_2) then FX3_lookNow_L21 g b tb n z c d_1 (k_2 + 1) x2_1 x3_1 else FX3_lookNow_L21 g b tb n z c d_1 (k_2 + 1) x2_1 (FX3_worstAt g b tb n z c (FX3_sunsNow g b tb n z c) (nI k_2))) else (if x3_1 ≤ FX3_worstAt g b tb n z c (FX3_sunsNow g b tb n z c) (nI k_2) then FX3_lookNow_L21 g b tb n z c d_1 (k_2 + 1) (nI k_2) x3_1 else FX3_lookNow_L21 g b tb n z c d_1 (k_2 + 1) (nI k_2) (FX3_worstAt g b tb n z c (FX3_sunsNow g b tb n z c) (nI k_2))))
def FX3_lookNow (g : Nat → Int32) (b : Nat → Nat → Int32) (tb : Nat → Nat → Int32) (n : Nat) (z : Nat) (c : Nat) : Int32 := (if FX3_sunsNow g b tb n z c = 0 then FX3_lookNow_L21 g b tb n z c n 0 (-1) 0 else FX3_lookNow_L21 g b tb n z c n 0 (-1) 268435456)
set_option maxHeartbeats 4000000 in
set_option maxRecDepth 100000 in
/-- where to look -/
theorem c_X3_lookNow (l : Launch) (D : va_G) (cI cB : ClassId) (ad : Nat → Nat) (g t : Nat → Int32) (gl : Nat → Int64) (b tb : Nat → Nat → Int32) (n z c : Nat) (hM : IM n z c g b)  : Met l yX3_lookNow wsX3_lookNow ({ frames := 4, cells := 0, slots := 0, locals := 92 }) (GPc D cI cB (wM cI cB ad g t gl b tb) [.ref (ad 0)]) (QcRead (FX3_lookNow g b tb n z c)) 0 0 (fun _ => False) := by
  refine Met.ofW (cc := cX3_lookNow) (maxL := 6) (ret := (some .int)) (by decide) rfl ?_
  intro p e s m args below meth cd s₁ B hml hv
  obtain ⟨rfl, hP, hK⟩ := hv
  have hts := atoms_spec (ws := wsX3_lookNow) B.pre
  have E : CallFix p m cd cX3_lookNow 6 s _ wsX3_lookNow RX3 := ⟨B.exec, B.bytes, hml, findClass_of_methodNamed B.named, hts⟩
  have hr := B.returns
  have hlocks := B.notSynchronized
  have h2n := pow6 (n := n) (by have := hM.2.1; omega)
  obtain ⟨hn, hn6, hz, hz21, hc, hc6, hfs⟩ := id hM
  have in_3 : ∀ w ∈ wsX30, w ∈ wsX3_lookNow := fun _ h => List.mem_cons_of_mem _ (List.mem_append_right _ h)
  have w_0 : (Cond.constant RX3 180 268435456).before _ s = true := hts _ (by decide +kernel)
  have w_1 : (Cond.fieldLink RX3 94 "SnowTermModel" "sites" "I").before _ s = true := hts _ (by decide +kernel)
  have hl := lv_entry ([.ref (ad 0)]) (n := 6) (Nat.le_of_ble_eq_true rfl)
  rw [lg_entry_eq]
  generalize (lg_sl ([.ref (ad 0)]) ++ List.replicate (6 - (lg_sl ([.ref (ad 0)])).length) Slot.unset).toArray = ls at hl ⊢
  have hl : lv_has ls 6 [(0, .ref (ad 0))] := hl
  refine lv_aload_n E.1 E.2.1 dX3_lookNow_0 rfl (lv_at hl 0 rfl) ?_
  refine g_VR (As := []) (rest := []) E hK hP (c_X3_sunsNow l D cI cB ad g t gl b tb n z c hM) (cwV 0 E.2.2.2.2 gX3_lookNow_X3_sunsNow rfl rfl rfl (by decide +kernel) ⟨Nat.le_of_ble_eq_true rfl, Nat.le_of_ble_eq_true rfl⟩) (rm0x hK hP) rfl hl.1 rfl (Nat.le_of_ble_eq_true rfl) dX3_lookNow_1 ⟨Nat.zero_le _, Nat.zero_le _⟩ ?_
  refine lv_istore_n (lv' := [(1, .int (FX3_sunsNow g b tb n z c)), (0, .ref (ad 0))]) E.1 E.2.1 dX3_lookNow_4 rfl hl (by decide) rfl (fun ls hl => ?_)
  refine lv_iconst (v := (-1)) E.1 E.2.1 dX3_lookNow_5 (by decide) ?_
  refine lv_istore_n (lv' := [(2, .int (-1)), (1, .int (FX3_sunsNow g b tb n z c)), (0, .ref (ad 0))]) E.1 E.2.1 dX3_lookNow_6 rfl hl (by decide) rfl (fun ls hl => ?_)
  refine lv_iload_n E.1 E.2.1 dX3_lookNow_7 rfl (lv_at hl 1 rfl) ?_
  refine lv_if_ne (x := FX3_sunsNow g b tb n z c) (tgt := 15) E.1 E.2.1 dX3_lookNow_8 (by decide) (fun h8 => ?_) (fun h8 => ?_)
  · have h8 := h8
    refine lv_ldc (v := 268435456) E.1 E.2.1 E.2.2.2.1 w_0 dX3_lookNow_15 ?_
    refine lv_istore_n (lv' := [(3, .int 268435456), (2, .int (-1)), (1, .int (FX3_sunsNow g b tb n z c)), (0, .ref (ad 0))]) E.1 E.2.1 dX3_lookNow_17 rfl hl (by decide) rfl (fun ls hl => ?_)
    refine lv_iconst (v := 0) E.1 E.2.1 dX3_lookNow_18 (by decide) ?_
    refine lv_istore (lv' := [(4, .int 0), (3, .int 268435456), (2, .int (-1)), (1, .int (FX3_sunsNow g b tb n z c)), (0, .ref (ad 0))]) E.1 E.2.1 dX3_lookNow_19 hl (by decide) rfl (fun ls hl => ?_)
    have loop1 : ∀ (d_1 k_2 : Nat) (x2_1 x3_1 : Int32) (ls : Array Slot), k_2 + d_1 = n → lv_has ls 6 [(4, .int (nI k_2)), (2, .int x2_1), (3, .int x3_1), (1, .int (FX3_sunsNow g b tb n z c)), (0, .ref (ad 0))] → W p l e (headSpec wsX3_lookNow { frames := 4, cells := 0, slots := 0, locals := 92 }).room s m ([.ref (ad 0)] : List Value).toArray below meth cd s.heap [] 0 0 (MQ below (QcRead (FX3_lookNow_L21 g b tb n z c d_1 k_2 x2_1 x3_1)) ([.ref (ad 0)] : List Value).toArray s 0 0 (fun _ => False)) (F0 m 21 ls []) := by
      intro d_1
      induction d_1 with
      | zero =>
        intro k_2 x2_1 x3_1 ls hk1 hl
        refine lv_iload E.1 E.2.1 dX3_lookNow_21 (lv_at hl 0 rfl) ?_
        refine lv_aload_n E.1 E.2.1 dX3_lookNow_23 rfl (lv_at hl 4 rfl) ?_
        refine mg_0_1 E hK hP in_3 w_1 dX3_lookNow_24 ?_
        refine lv_topi (fun y_3 ey_3 => ?_)
        obtain rfl : y_3 = nI n := ey_3.trans (hn)
        refine lv_icmp_ge (x := nI k_2) (y := nI n) (tgt := 71) E.1 E.2.1 dX3_lookNow_27 (by decide) (fun _ => ?_) (fun h9 => absurd (nI_le (a := n) (b := k_2) (by omega) (by omega)) h9)
        refine lv_iload_n E.1 E.2.1 dX3_lookNow_71 rfl (lv_at hl 1 rfl) ?_
        exact W.iret (v := x2_1) E.1 E.2.1 hr (fun t ht _ => ⟨congrArg (fun z : Int32 => Outcome.returned (some (Value.int z))) (show x2_1 = FX3_lookNow_L21 g b tb n z c 0 k_2 x2_1 x3_1 from by rw [FX3_lookNow_L21]), ht⟩) (fun q hq => by cases hq) dX3_lookNow_72
      | succ d_1 ih1 =>
        intro k_2 x2_1 x3_1 ls hk1 hl
        refine lv_iload E.1 E.2.1 dX3_lookNow_21 (lv_at hl 0 rfl) ?_
        refine lv_aload_n E.1 E.2.1 dX3_lookNow_23 rfl (lv_at hl 4 rfl) ?_
        refine mg_0_1 E hK hP in_3 w_1 dX3_lookNow_24 ?_
        refine lv_topi (fun y_4 ey_4 => ?_)
        obtain rfl : y_4 = nI n := ey_4.trans (hn)
        refine lv_icmp_ge (x := nI k_2) (y := nI n) (tgt := 71) E.1 E.2.1 dX3_lookNow_27 (by decide) (fun h9 => absurd h9 (nI_ge (a := k_2) (b := n) (by omega) (by omega))) (fun _ => ?_)
        refine lv_aload_n E.1 E.2.1 dX3_lookNow_30 rfl (lv_at hl 4 rfl) ?_
        refine lv_iload_n E.1 E.2.1 dX3_lookNow_31 rfl (lv_at hl 3 rfl) ?_
        refine lv_iload E.1 E.2.1 dX3_lookNow_32 (lv_at hl 0 rfl) ?_
        refine g_VR (As := [.int (FX3_sunsNow g b tb n z c), .int (nI k_2)]) (rest := []) E hK hP (c_X3_worstAt l D cI cB ad g t gl b tb n z c hM (FX3_sunsNow g b tb n z c) (nI k_2) (vp_in_nI (by omega) (by omega))) (cwV 2 E.2.2.2.2 gX3_lookNow_X3_worstAt rfl rfl rfl (by decide +kernel) ⟨Nat.le_of_ble_eq_true rfl, Nat.le_of_ble_eq_true rfl⟩) (rm0x hK hP) rfl hl.1 rfl (Nat.le_of_ble_eq_true rfl) dX3_lookNow_34 ⟨Nat.zero_le _, Nat.zero_le _⟩ ?_
        refine lv_istore (lv' := [(5, .int (FX3_worstAt g b tb n z c (FX3_sunsNow g b tb n z c) (nI k_2))), (4, .int (nI k_2)), (2, .int x2_1), (3, .int x3_1), (1, .int (FX3_sunsNow g b tb n z c)), (0, .ref (ad 0))]) E.1 E.2.1 dX3_lookNow_37 hl (by decide) rfl (fun ls hl => ?_)
        refine lv_iload E.1 E.2.1 dX3_lookNow_39 (lv_at hl 0 rfl) ?_
        refine lv_iload_n E.1 E.2.1 dX3_lookNow_41 rfl (lv_at hl 3 rfl) ?_
        refine lv_icmp_ge (x := FX3_worstAt g b tb n z c (FX3_sunsNow g b tb n z c) (nI k_2)) (y := x3_1) (tgt := 50) E.1 E.2.1 dX3_lookNow_42 (by decide) (fun h42 => ?_) (fun h42 => ?_)
        · have h42 := h42
          refine lv_iload_n E.1 E.2.1 dX3_lookNow_50 rfl (lv_at hl 2 rfl) ?_
          refine lv_istore_n (lv' := [(2, .int x2_1), (5, .int (FX3_worstAt g b tb n z c (FX3_sunsNow g b tb n z c) (nI k_2))), (4, .int (nI k_2)), (3, .int x3_1), (1, .int (FX3_sunsNow g b tb n z c)), (0, .ref (ad 0))]) E.1 E.2.1 dX3_lookNow_51 rfl hl (by decide) rfl (fun ls hl => ?_)
          refine lv_iload E.1 E.2.1 dX3_lookNow_52 (lv_at hl 1 rfl) ?_
          refine lv_iload_n E.1 E.2.1 dX3_lookNow_54 rfl (lv_at hl 3 rfl) ?_
          refine lv_icmp_ge (x := FX3_worstAt g b tb n z c (FX3_sunsNow g b tb n z c) (nI k_2)) (y := x3_1) (tgt := 63) E.1 E.2.1 dX3_lookNow_55 (by decide) (fun h55 => ?_) (fun h55 => ?_)
          · have h55 := h55
            refine lv_iload_n E.1 E.2.1 dX3_lookNow_63 rfl (lv_at hl 3 rfl) ?_
            refine lv_istore_n (lv' := [(3, .int x3_1), (2, .int x2_1), (5, .int (FX3_worstAt g b tb n z c (FX3_sunsNow g b tb n z c) (nI k_2))), (4, .int (nI k_2)), (1, .int (FX3_sunsNow g b tb n z c)), (0, .ref (ad 0))]) E.1 E.2.1 dX3_lookNow_64 rfl hl (by decide) rfl (fun ls hl => ?_)
            refine lv_iinc (v := nI (k_2 + 1)) (k := 3) (lv' := [(4, .int (nI (k_2 + 1))), (3, .int x3_1), (2, .int x2_1), (5, .int (FX3_worstAt g b tb n z c (FX3_sunsNow g b tb n z c) (nI k_2))), (1, .int (FX3_sunsNow g b tb n z c)), (0, .ref (ad 0))]) E.1 E.2.1 dX3_lookNow_65 hl rfl (nI_1 k_2) (by decide) rfl (fun ls hl => ?_)
            refine lv_goto (tgt := 21) E.1 E.2.1 dX3_lookNow_68 (by decide) ?_
            rw [show FX3_lookNow_L21 g b tb n z c (d_1 + 1) k_2 x2_1 x3_1 = FX3_lookNow_L21 g b tb n z c d_1 (k_2 + 1) x2_1 x3_1 from by rw [FX3_lookNow_L21, if_pos h42, if_pos h55]]
            exact ih1 (k_2 + 1) x2_1 x3_1 ls (by omega) (lv_sub hl [0, 2, 1, 4, 5] rfl)
          · have h55 := h55
            refine lv_iload E.1 E.2.1 dX3_lookNow_58 (lv_at hl 1 rfl) ?_
            refine lv_goto (tgt := 64) E.1 E.2.1 dX3_lookNow_60 (by decide) ?_
            refine lv_istore_n (lv' := [(3, .int (FX3_worstAt g b tb n z c (FX3_sunsNow g b tb n z c) (nI k_2))), (2, .int x2_1), (5, .int (FX3_worstAt g b tb n z c (FX3_sunsNow g b tb n z c) (nI k_2))), (4, .int (nI k_2)), (1, .int (FX3_sunsNow g b tb n z c)), (0, .ref (ad 0))]) E.1 E.2.1 dX3_lookNow_64 rfl hl (by decide) rfl (fun ls hl => ?_)
            refine lv_iinc (v := nI (k_2 + 1)) (k := 3) (lv' := [(4, .int (nI (k_2 + 1))), (3, .int (FX3_worstAt g b tb n z c (FX3_sunsNow g b tb n z c) (nI k_2))), (2, .int x2_1), (5, .int (FX3_worstAt g b tb n z c (FX3_sunsNow g b tb n z c) (nI k_2))), (1, .int (FX3_sunsNow g b tb n z c)), (0, .ref (ad 0))]) E.1 E.2.1 dX3_lookNow_65 hl rfl (nI_1 k_2) (by decide) rfl (fun ls hl => ?_)
            refine lv_goto (tgt := 21) E.1 E.2.1 dX3_lookNow_68 (by decide) ?_
            rw [show FX3_lookNow_L21 g b tb n z c (d_1 + 1) k_2 x2_1 x3_1 = FX3_lookNow_L21 g b tb n z c d_1 (k_2 + 1) x2_1 (FX3_worstAt g b tb n z c (FX3_sunsNow g b tb n z c) (nI k_2)) from by rw [FX3_lookNow_L21, if_pos h42, if_neg h55]]
            exact ih1 (k_2 + 1) x2_1 (FX3_worstAt g b tb n z c (FX3_sunsNow g b tb n z c) (nI k_2)) ls (by omega) (lv_sub hl [0, 2, 1, 4, 5] rfl)
        · have h42 := h42
          refine lv_iload E.1 E.2.1 dX3_lookNow_45 (lv_at hl 1 rfl) ?_
          refine lv_goto (tgt := 51) E.1 E.2.1 dX3_lookNow_47 (by decide) ?_
          refine lv_istore_n (lv' := [(2, .int (nI k_2)), (5, .int (FX3_worstAt g b tb n z c (FX3_sunsNow g b tb n z c) (nI k_2))), (4, .int (nI k_2)), (3, .int x3_1), (1, .int (FX3_sunsNow g b tb n z c)), (0, .ref (ad 0))]) E.1 E.2.1 dX3_lookNow_51 rfl hl (by decide) rfl (fun ls hl => ?_)
          refine lv_iload E.1 E.2.1 dX3_lookNow_52 (lv_at hl 1 rfl) ?_
          refine lv_iload_n E.1 E.2.1 dX3_lookNow_54 rfl (lv_at hl 3 rfl) ?_
          refine lv_icmp_ge (x := FX3_worstAt g b tb n z c (FX3_sunsNow g b tb n z c) (nI k_2)) (y := x3_1) (tgt := 63) E.1 E.2.1 dX3_lookNow_55 (by decide) (fun h55 => ?_) (fun h55 => ?_)
          · have h55 := h55
            refine lv_iload_n E.1 E.2.1 dX3_lookNow_63 rfl (lv_at hl 3 rfl) ?_
            refine lv_istore_n (lv' := [(3, .int x3_1), (2, .int (nI k_2)), (5, .int (FX3_worstAt g b tb n z c (FX3_sunsNow g b tb n z c) (nI k_2))), (4, .int (nI k_2)), (1, .int (FX3_sunsNow g b tb n z c)), (0, .ref (ad 0))]) E.1 E.2.1 dX3_lookNow_64 rfl hl (by decide) rfl (fun ls hl => ?_)
            refine lv_iinc (v := nI (k_2 + 1)) (k := 3) (lv' := [(4, .int (nI (k_2 + 1))), (3, .int x3_1), (2, .int (nI k_2)), (5, .int (FX3_worstAt g b tb n z c (FX3_sunsNow g b tb n z c) (nI k_2))), (1, .int (FX3_sunsNow g b tb n z c)), (0, .ref (ad 0))]) E.1 E.2.1 dX3_lookNow_65 hl rfl (nI_1 k_2) (by decide) rfl (fun ls hl => ?_)
            refine lv_goto (tgt := 21) E.1 E.2.1 dX3_lookNow_68 (by decide) ?_
            rw [show FX3_lookNow_L21 g b tb n z c (d_1 + 1) k_2 x2_1 x3_1 = FX3_lookNow_L21 g b tb n z c d_1 (k_2 + 1) (nI k_2) x3_1 from by rw [FX3_lookNow_L21, if_neg h42, if_pos h55]]
            exact ih1 (k_2 + 1) (nI k_2) x3_1 ls (by omega) (lv_sub hl [0, 2, 1, 4, 5] rfl)
          · have h55 := h55
            refine lv_iload E.1 E.2.1 dX3_lookNow_58 (lv_at hl 1 rfl) ?_
            refine lv_goto (tgt := 64) E.1 E.2.1 dX3_lookNow_60 (by decide) ?_
            refine lv_istore_n (lv' := [(3, .int (FX3_worstAt g b tb n z c (FX3_sunsNow g b tb n z c) (nI k_2))), (2, .int (nI k_2)), (5, .int (FX3_worstAt g b tb n z c (FX3_sunsNow g b tb n z c) (nI k_2))), (4, .int (nI k_2)), (1, .int (FX3_sunsNow g b tb n z c)), (0, .ref (ad 0))]) E.1 E.2.1 dX3_lookNow_64 rfl hl (by decide) rfl (fun ls hl => ?_)
            refine lv_iinc (v := nI (k_2 + 1)) (k := 3) (lv' := [(4, .int (nI (k_2 + 1))), (3, .int (FX3_worstAt g b tb n z c (FX3_sunsNow g b tb n z c) (nI k_2))), (2, .int (nI k_2)), (5, .int (FX3_worstAt g b tb n z c (FX3_sunsNow g b tb n z c) (nI k_2))), (1, .int (FX3_sunsNow g b tb n z c)), (0, .ref (ad 0))]) E.1 E.2.1 dX3_lookNow_65 hl rfl (nI_1 k_2) (by decide) rfl (fun ls hl => ?_)
            refine lv_goto (tgt := 21) E.1 E.2.1 dX3_lookNow_68 (by decide) ?_
            rw [show FX3_lookNow_L21 g b tb n z c (d_1 + 1) k_2 x2_1 x3_1 = FX3_lookNow_L21 g b tb n z c d_1 (k_2 + 1) (nI k_2) (FX3_worstAt g b tb n z c (FX3_sunsNow g b tb n z c) (nI k_2)) from by rw [FX3_lookNow_L21, if_neg h42, if_neg h55]]
            exact ih1 (k_2 + 1) (nI k_2) (FX3_worstAt g b tb n z c (FX3_sunsNow g b tb n z c) (nI k_2)) ls (by omega) (lv_sub hl [0, 2, 1, 4, 5] rfl)
    rw [show FX3_lookNow g b tb n z c = FX3_lookNow_L21 g b tb n z c n 0 (-1) 268435456 from by rw [FX3_lookNow, if_neg h8]]
    have hl : lv_has ls 6 [(4, .int (nI 0)), (2, .int (-1)), (3, .int 268435456), (1, .int (FX3_sunsNow g b tb n z c)), (0, .ref (ad 0))] := lv_sub hl [0, 2, 1, 3, 4] rfl
    exact loop1 _ _ (-1) 268435456 ls (by omega) (lv_sub hl [0, 1, 2, 3, 4] rfl)
  · have h8 := h8
    refine lv_iconst (v := 0) E.1 E.2.1 dX3_lookNow_11 (by decide) ?_
    refine lv_goto (tgt := 17) E.1 E.2.1 dX3_lookNow_12 (by decide) ?_
    refine lv_istore_n (lv' := [(3, .int 0), (2, .int (-1)), (1, .int (FX3_sunsNow g b tb n z c)), (0, .ref (ad 0))]) E.1 E.2.1 dX3_lookNow_17 rfl hl (by decide) rfl (fun ls hl => ?_)
    refine lv_iconst (v := 0) E.1 E.2.1 dX3_lookNow_18 (by decide) ?_
    refine lv_istore (lv' := [(4, .int 0), (3, .int 0), (2, .int (-1)), (1, .int (FX3_sunsNow g b tb n z c)), (0, .ref (ad 0))]) E.1 E.2.1 dX3_lookNow_19 hl (by decide) rfl (fun ls hl => ?_)
    have loop5 : ∀ (d_5 k_6 : Nat) (x2_5 x3_5 : Int32) (ls : Array Slot), k_6 + d_5 = n → lv_has ls 6 [(4, .int (nI k_6)), (2, .int x2_5), (3, .int x3_5), (1, .int (FX3_sunsNow g b tb n z c)), (0, .ref (ad 0))] → W p l e (headSpec wsX3_lookNow { frames := 4, cells := 0, slots := 0, locals := 92 }).room s m ([.ref (ad 0)] : List Value).toArray below meth cd s.heap [] 0 0 (MQ below (QcRead (FX3_lookNow_L21 g b tb n z c d_5 k_6 x2_5 x3_5)) ([.ref (ad 0)] : List Value).toArray s 0 0 (fun _ => False)) (F0 m 21 ls []) := by
      intro d_5
      induction d_5 with
      | zero =>
        intro k_6 x2_5 x3_5 ls hk5 hl
        refine lv_iload E.1 E.2.1 dX3_lookNow_21 (lv_at hl 0 rfl) ?_
        refine lv_aload_n E.1 E.2.1 dX3_lookNow_23 rfl (lv_at hl 4 rfl) ?_
        refine mg_0_1 E hK hP in_3 w_1 dX3_lookNow_24 ?_
        refine lv_topi (fun y_7 ey_7 => ?_)
        obtain rfl : y_7 = nI n := ey_7.trans (hn)
        refine lv_icmp_ge (x := nI k_6) (y := nI n) (tgt := 71) E.1 E.2.1 dX3_lookNow_27 (by decide) (fun _ => ?_) (fun h9 => absurd (nI_le (a := n) (b := k_6) (by omega) (by omega)) h9)
        refine lv_iload_n E.1 E.2.1 dX3_lookNow_71 rfl (lv_at hl 1 rfl) ?_
        exact W.iret (v := x2_5) E.1 E.2.1 hr (fun t ht _ => ⟨congrArg (fun z : Int32 => Outcome.returned (some (Value.int z))) (show x2_5 = FX3_lookNow_L21 g b tb n z c 0 k_6 x2_5 x3_5 from by rw [FX3_lookNow_L21]), ht⟩) (fun q hq => by cases hq) dX3_lookNow_72
      | succ d_5 ih5 =>
        intro k_6 x2_5 x3_5 ls hk5 hl
        refine lv_iload E.1 E.2.1 dX3_lookNow_21 (lv_at hl 0 rfl) ?_
        refine lv_aload_n E.1 E.2.1 dX3_lookNow_23 rfl (lv_at hl 4 rfl) ?_
        refine mg_0_1 E hK hP in_3 w_1 dX3_lookNow_24 ?_
        refine lv_topi (fun y_8 ey_8 => ?_)
        obtain rfl : y_8 = nI n := ey_8.trans (hn)
        refine lv_icmp_ge (x := nI k_6) (y := nI n) (tgt := 71) E.1 E.2.1 dX3_lookNow_27 (by decide) (fun h9 => absurd h9 (nI_ge (a := k_6) (b := n) (by omega) (by omega))) (fun _ => ?_)
        refine lv_aload_n E.1 E.2.1 dX3_lookNow_30 rfl (lv_at hl 4 rfl) ?_
        refine lv_iload_n E.1 E.2.1 dX3_lookNow_31 rfl (lv_at hl 3 rfl) ?_
        refine lv_iload E.1 E.2.1 dX3_lookNow_32 (lv_at hl 0 rfl) ?_
        refine g_VR (As := [.int (FX3_sunsNow g b tb n z c), .int (nI k_6)]) (rest := []) E hK hP (c_X3_worstAt l D cI cB ad g t gl b tb n z c hM (FX3_sunsNow g b tb n z c) (nI k_6) (vp_in_nI (by omega) (by omega))) (cwV 2 E.2.2.2.2 gX3_lookNow_X3_worstAt rfl rfl rfl (by decide +kernel) ⟨Nat.le_of_ble_eq_true rfl, Nat.le_of_ble_eq_true rfl⟩) (rm0x hK hP) rfl hl.1 rfl (Nat.le_of_ble_eq_true rfl) dX3_lookNow_34 ⟨Nat.zero_le _, Nat.zero_le _⟩ ?_
        refine lv_istore (lv' := [(5, .int (FX3_worstAt g b tb n z c (FX3_sunsNow g b tb n z c) (nI k_6))), (4, .int (nI k_6)), (2, .int x2_5), (3, .int x3_5), (1, .int (FX3_sunsNow g b tb n z c)), (0, .ref (ad 0))]) E.1 E.2.1 dX3_lookNow_37 hl (by decide) rfl (fun ls hl => ?_)
        refine lv_iload E.1 E.2.1 dX3_lookNow_39 (lv_at hl 0 rfl) ?_
        refine lv_iload_n E.1 E.2.1 dX3_lookNow_41 rfl (lv_at hl 3 rfl) ?_
        refine lv_icmp_ge (x := FX3_worstAt g b tb n z c (FX3_sunsNow g b tb n z c) (nI k_6)) (y := x3_5) (tgt := 50) E.1 E.2.1 dX3_lookNow_42 (by decide) (fun h42 => ?_) (fun h42 => ?_)
        · have h42 := h42
          refine lv_iload_n E.1 E.2.1 dX3_lookNow_50 rfl (lv_at hl 2 rfl) ?_
          refine lv_istore_n (lv' := [(2, .int x2_5), (5, .int (FX3_worstAt g b tb n z c (FX3_sunsNow g b tb n z c) (nI k_6))), (4, .int (nI k_6)), (3, .int x3_5), (1, .int (FX3_sunsNow g b tb n z c)), (0, .ref (ad 0))]) E.1 E.2.1 dX3_lookNow_51 rfl hl (by decide) rfl (fun ls hl => ?_)
          refine lv_iload E.1 E.2.1 dX3_lookNow_52 (lv_at hl 1 rfl) ?_
          refine lv_iload_n E.1 E.2.1 dX3_lookNow_54 rfl (lv_at hl 3 rfl) ?_
          refine lv_icmp_ge (x := FX3_worstAt g b tb n z c (FX3_sunsNow g b tb n z c) (nI k_6)) (y := x3_5) (tgt := 63) E.1 E.2.1 dX3_lookNow_55 (by decide) (fun h55 => ?_) (fun h55 => ?_)
          · have h55 := h55
            refine lv_iload_n E.1 E.2.1 dX3_lookNow_63 rfl (lv_at hl 3 rfl) ?_
            refine lv_istore_n (lv' := [(3, .int x3_5), (2, .int x2_5), (5, .int (FX3_worstAt g b tb n z c (FX3_sunsNow g b tb n z c) (nI k_6))), (4, .int (nI k_6)), (1, .int (FX3_sunsNow g b tb n z c)), (0, .ref (ad 0))]) E.1 E.2.1 dX3_lookNow_64 rfl hl (by decide) rfl (fun ls hl => ?_)
            refine lv_iinc (v := nI (k_6 + 1)) (k := 3) (lv' := [(4, .int (nI (k_6 + 1))), (3, .int x3_5), (2, .int x2_5), (5, .int (FX3_worstAt g b tb n z c (FX3_sunsNow g b tb n z c) (nI k_6))), (1, .int (FX3_sunsNow g b tb n z c)), (0, .ref (ad 0))]) E.1 E.2.1 dX3_lookNow_65 hl rfl (nI_1 k_6) (by decide) rfl (fun ls hl => ?_)
            refine lv_goto (tgt := 21) E.1 E.2.1 dX3_lookNow_68 (by decide) ?_
            rw [show FX3_lookNow_L21 g b tb n z c (d_5 + 1) k_6 x2_5 x3_5 = FX3_lookNow_L21 g b tb n z c d_5 (k_6 + 1) x2_5 x3_5 from by rw [FX3_lookNow_L21, if_pos h42, if_pos h55]]
            exact ih5 (k_6 + 1) x2_5 x3_5 ls (by omega) (lv_sub hl [0, 2, 1, 4, 5] rfl)
          · have h55 := h55
            refine lv_iload E.1 E.2.1 dX3_lookNow_58 (lv_at hl 1 rfl) ?_
            refine lv_goto (tgt := 64) E.1 E.2.1 dX3_lookNow_60 (by decide) ?_
            refine lv_istore_n (lv' := [(3, .int (FX3_worstAt g b tb n z c (FX3_sunsNow g b tb n z c) (nI k_6))), (2, .int x2_5), (5, .int (FX3_worstAt g b tb n z c (FX3_sunsNow g b tb n z c) (nI k_6))), (4, .int (nI k_6)), (1, .int (FX3_sunsNow g b tb n z c)), (0, .ref (ad 0))]) E.1 E.2.1 dX3_lookNow_64 rfl hl (by decide) rfl (fun ls hl => ?_)
            refine lv_iinc (v := nI (k_6 + 1)) (k := 3) (lv' := [(4, .int (nI (k_6 + 1))), (3, .int (FX3_worstAt g b tb n z c (FX3_sunsNow g b tb n z c) (nI k_6))), (2, .int x2_5), (5, .int (FX3_worstAt g b tb n z c (FX3_sunsNow g b tb n z c) (nI k_6))), (1, .int (FX3_sunsNow g b tb n z c)), (0, .ref (ad 0))]) E.1 E.2.1 dX3_lookNow_65 hl rfl (nI_1 k_6) (by decide) rfl (fun ls hl => ?_)
            refine lv_goto (tgt := 21) E.1 E.2.1 dX3_lookNow_68 (by decide) ?_
            rw [show FX3_lookNow_L21 g b tb n z c (d_5 + 1) k_6 x2_5 x3_5 = FX3_lookNow_L21 g b tb n z c d_5 (k_6 + 1) x2_5 (FX3_worstAt g b tb n z c (FX3_sunsNow g b tb n z c) (nI k_6)) from by rw [FX3_lookNow_L21, if_pos h42, if_neg h55]]
            exact ih5 (k_6 + 1) x2_5 (FX3_worstAt g b tb n z c (FX3_sunsNow g b tb n z c) (nI k_6)) ls (by omega) (lv_sub hl [0, 2, 1, 4, 5] rfl)
        · have h42 := h42
          refine lv_iload E.1 E.2.1 dX3_lookNow_45 (lv_at hl 1 rfl) ?_
          refine lv_goto (tgt := 51) E.1 E.2.1 dX3_lookNow_47 (by decide) ?_
          refine lv_istore_n (lv' := [(2, .int (nI k_6)), (5, .int (FX3_worstAt g b tb n z c (FX3_sunsNow g b tb n z c) (nI k_6))), (4, .int (nI k_6)), (3, .int x3_5), (1, .int (FX3_sunsNow g b tb n z c)), (0, .ref (ad 0))]) E.1 E.2.1 dX3_lookNow_51 rfl hl (by decide) rfl (fun ls hl => ?_)
          refine lv_iload E.1 E.2.1 dX3_lookNow_52 (lv_at hl 1 rfl) ?_
          refine lv_iload_n E.1 E.2.1 dX3_lookNow_54 rfl (lv_at hl 3 rfl) ?_
          refine lv_icmp_ge (x := FX3_worstAt g b tb n z c (FX3_sunsNow g b tb n z c) (nI k_6)) (y := x3_5) (tgt := 63) E.1 E.2.1 dX3_lookNow_55 (by decide) (fun h55 => ?_) (fun h55 => ?_)
          · have h55 := h55
            refine lv_iload_n E.1 E.2.1 dX3_lookNow_63 rfl (lv_at hl 3 rfl) ?_
            refine lv_istore_n (lv' := [(3, .int x3_5), (2, .int (nI k_6)), (5, .int (FX3_worstAt g b tb n z c (FX3_sunsNow g b tb n z c) (nI k_6))), (4, .int (nI k_6)), (1, .int (FX3_sunsNow g b tb n z c)), (0, .ref (ad 0))]) E.1 E.2.1 dX3_lookNow_64 rfl hl (by decide) rfl (fun ls hl => ?_)
            refine lv_iinc (v := nI (k_6 + 1)) (k := 3) (lv' := [(4, .int (nI (k_6 + 1))), (3, .int x3_5), (2, .int (nI k_6)), (5, .int (FX3_worstAt g b tb n z c (FX3_sunsNow g b tb n z c) (nI k_6))), (1, .int (FX3_sunsNow g b tb n z c)), (0, .ref (ad 0))]) E.1 E.2.1 dX3_lookNow_65 hl rfl (nI_1 k_6) (by decide) rfl (fun ls hl => ?_)
            refine lv_goto (tgt := 21) E.1 E.2.1 dX3_lookNow_68 (by decide) ?_
            rw [show FX3_lookNow_L21 g b tb n z c (d_5 + 1) k_6 x2_5 x3_5 = FX3_lookNow_L21 g b tb n z c d_5 (k_6 + 1) (nI k_6) x3_5 from by rw [FX3_lookNow_L21, if_neg h42, if_pos h55]]
            exact ih5 (k_6 + 1) (nI k_6) x3_5 ls (by omega) (lv_sub hl [0, 2, 1, 4, 5] rfl)
          · have h55 := h55
            refine lv_iload E.1 E.2.1 dX3_lookNow_58 (lv_at hl 1 rfl) ?_
            refine lv_goto (tgt := 64) E.1 E.2.1 dX3_lookNow_60 (by decide) ?_
            refine lv_istore_n (lv' := [(3, .int (FX3_worstAt g b tb n z c (FX3_sunsNow g b tb n z c) (nI k_6))), (2, .int (nI k_6)), (5, .int (FX3_worstAt g b tb n z c (FX3_sunsNow g b tb n z c) (nI k_6))), (4, .int (nI k_6)), (1, .int (FX3_sunsNow g b tb n z c)), (0, .ref (ad 0))]) E.1 E.2.1 dX3_lookNow_64 rfl hl (by decide) rfl (fun ls hl => ?_)
            refine lv_iinc (v := nI (k_6 + 1)) (k := 3) (lv' := [(4, .int (nI (k_6 + 1))), (3, .int (FX3_worstAt g b tb n z c (FX3_sunsNow g b tb n z c) (nI k_6))), (2, .int (nI k_6)), (5, .int (FX3_worstAt g b tb n z c (FX3_sunsNow g b tb n z c) (nI k_6))), (1, .int (FX3_sunsNow g b tb n z c)), (0, .ref (ad 0))]) E.1 E.2.1 dX3_lookNow_65 hl rfl (nI_1 k_6) (by decide) rfl (fun ls hl => ?_)
            refine lv_goto (tgt := 21) E.1 E.2.1 dX3_lookNow_68 (by decide) ?_
            rw [show FX3_lookNow_L21 g b tb n z c (d_5 + 1) k_6 x2_5 x3_5 = FX3_lookNow_L21 g b tb n z c d_5 (k_6 + 1) (nI k_6) (FX3_worstAt g b tb n z c (FX3_sunsNow g b tb n z c) (nI k_6)) from by rw [FX3_lookNow_L21, if_neg h42, if_neg h55]]
            exact ih5 (k_6 + 1) (nI k_6) (FX3_worstAt g b tb n z c (FX3_sunsNow g b tb n z c) (nI k_6)) ls (by omega) (lv_sub hl [0, 2, 1, 4, 5] rfl)
    rw [show FX3_lookNow g b tb n z c = FX3_lookNow_L21 g b tb n z c n 0 (-1) 0 from by rw [FX3_lookNow, if_pos h8]]
    have hl : lv_has ls 6 [(4, .int (nI 0)), (2, .int (-1)), (3, .int 0), (1, .int (FX3_sunsNow g b tb n z c)), (0, .ref (ad 0))] := lv_sub hl [0, 2, 1, 3, 4] rfl
    exact loop5 _ _ (-1) 0 ls (by omega) (lv_sub hl [0, 1, 2, 3, 4] rfl)
def FX3_look (g : Nat → Int32) (b : Nat → Nat → Int32) (tb : Nat → Nat → Int32) (n : Nat) (z : Nat) (c : Nat) : Int32 := (if nI n = 0 then (-103) else FX3_lookNow g b tb n z c)
set_option maxHeartbeats 4000000 in
set_option maxRecDepth 100000 in
/-- look -/
theorem c_X3_look (l : Launch) (D : va_G) (cI cB : ClassId) (ad : Nat → Nat) (g t : Nat → Int32) (gl : Nat → Int64) (b tb : Nat → Nat → Int32) (n z c : Nat) (hM : IM n z c g b)  : Met l yX3_look wsX3_look ({ frames := 5, cells := 0, slots := 0, locals := 117 }) (GPc D cI cB (wM cI cB ad g t gl b tb) [.ref (ad 0)]) (QcRead (FX3_look g b tb n z c)) 0 0 (fun _ => False) := by
  refine Met.ofW (cc := cX3_look) (maxL := 1) (ret := (some .int)) (by decide) rfl ?_
  intro p e s m args below meth cd s₁ B hml hv
  obtain ⟨rfl, hP, hK⟩ := hv
  have hts := atoms_spec (ws := wsX3_look) B.pre
  have E : CallFix p m cd cX3_look 1 s _ wsX3_look RX3 := ⟨B.exec, B.bytes, hml, findClass_of_methodNamed B.named, hts⟩
  have hr := B.returns
  have hlocks := B.notSynchronized
  have h2n := pow6 (n := n) (by have := hM.2.1; omega)
  obtain ⟨hn, hn6, hz, hz21, hc, hc6, hfs⟩ := id hM
  have in_3 : ∀ w ∈ wsX30, w ∈ wsX3_look := fun _ h => List.mem_cons_of_mem _ (List.mem_append_right _ h)
  have w_0 : (Cond.fieldLink RX3 94 "SnowTermModel" "sites" "I").before _ s = true := hts _ (by decide +kernel)
  have hl := lv_entry ([.ref (ad 0)]) (n := 1) (Nat.le_of_ble_eq_true rfl)
  rw [lg_entry_eq]
  generalize (lg_sl ([.ref (ad 0)]) ++ List.replicate (1 - (lg_sl ([.ref (ad 0)])).length) Slot.unset).toArray = ls at hl ⊢
  have hl : lv_has ls 1 [(0, .ref (ad 0))] := hl
  refine lv_aload_n E.1 E.2.1 dX3_look_0 rfl (lv_at hl 0 rfl) ?_
  refine mg_0_1 E hK hP in_3 w_0 dX3_look_1 ?_
  refine lv_topi (fun y_1 ey_1 => ?_)
  obtain rfl : y_1 = nI n := ey_1.trans (hn)
  refine lv_if_ne (x := nI n) (tgt := 12) E.1 E.2.1 dX3_look_4 (by decide) (fun h4 => ?_) (fun h4 => ?_)
  · have h4 := h4
    refine lv_aload_n E.1 E.2.1 dX3_look_12 rfl (lv_at hl 0 rfl) ?_
    refine g_VR (As := []) (rest := []) E hK hP (c_X3_lookNow l D cI cB ad g t gl b tb n z c hM) (cwV 0 E.2.2.2.2 gX3_look_X3_lookNow rfl rfl rfl (by decide +kernel) ⟨Nat.le_of_ble_eq_true rfl, Nat.le_of_ble_eq_true rfl⟩) (rm0x hK hP) rfl hl.1 rfl (Nat.le_of_ble_eq_true rfl) dX3_look_13 ⟨Nat.zero_le _, Nat.zero_le _⟩ ?_
    exact W.iret (v := FX3_lookNow g b tb n z c) E.1 E.2.1 hr (fun t ht _ => ⟨congrArg (fun z : Int32 => Outcome.returned (some (Value.int z))) (show FX3_lookNow g b tb n z c = FX3_look g b tb n z c from by rw [FX3_look, if_neg h4]), ht⟩) (fun q hq => by cases hq) dX3_look_16
  · have h4 := h4
    refine lv_bipush (v := (-103)) E.1 E.2.1 dX3_look_7 (by decide) ?_
    refine lv_goto (tgt := 16) E.1 E.2.1 dX3_look_9 (by decide) ?_
    exact W.iret (v := (-103)) E.1 E.2.1 hr (fun t ht _ => ⟨congrArg (fun z : Int32 => Outcome.returned (some (Value.int z))) (show (-103) = FX3_look g b tb n z c from by rw [FX3_look, if_pos h4]), ht⟩) (fun q hq => by cases hq) dX3_look_16
def FX3_snowAll_L4 (g : Nat → Int32) (b : Nat → Nat → Int32) (tb : Nat → Nat → Int32) (n : Nat) (z : Nat) (c : Nat) : Nat → Nat → Int32 → Int32
  | 0, k_2, x1_1 => x1_1
  | d_1 + 1, k_2, x1_1 => FX3_snowAll_L4 g b tb n z c d_1 (k_2 + 1) (x1_1 + (b 3 k_2))
def FX3_snowAll (g : Nat → Int32) (b : Nat → Nat → Int32) (tb : Nat → Nat → Int32) (n : Nat) (z : Nat) (c : Nat) : Int32 := FX3_snowAll_L4 g b tb n z c n 0 0
set_option maxHeartbeats 4000000 in
set_option maxRecDepth 100000 in
/-- the snow in all -/
theorem c_X3_snowAll (l : Launch) (D : va_G) (cI cB : ClassId) (ad : Nat → Nat) (g t : Nat → Int32) (gl : Nat → Int64) (b tb : Nat → Nat → Int32) (n z c : Nat) (hM : IM n z c g b)  : Met l yX3_snowAll wsX3_snowAll ({ frames := 0, cells := 0, slots := 0, locals := 0 }) (GPc D cI cB (wM cI cB ad g t gl b tb) [.ref (ad 0)]) (QcRead (FX3_snowAll g b tb n z c)) 0 0 (fun _ => False) := by
  refine Met.ofW (cc := cX3_snowAll) (maxL := 3) (ret := (some .int)) (by decide) rfl ?_
  intro p e s m args below meth cd s₁ B hml hv
  obtain ⟨rfl, hP, hK⟩ := hv
  have hts := atoms_spec (ws := wsX3_snowAll) B.pre
  have E : CallFix p m cd cX3_snowAll 3 s _ wsX3_snowAll RX3 := ⟨B.exec, B.bytes, hml, findClass_of_methodNamed B.named, hts⟩
  have hr := B.returns
  have hlocks := B.notSynchronized
  have h2n := pow6 (n := n) (by have := hM.2.1; omega)
  obtain ⟨hn, hn6, hz, hz21, hc, hc6, hfs⟩ := id hM
  have in_3 : ∀ w ∈ wsX30, w ∈ wsX3_snowAll := fun _ h => List.mem_cons_of_mem _ (List.mem_append_right _ h)
  have w_0 : (Cond.fieldLink RX3 94 "SnowTermModel" "sites" "I").before _ s = true := hts _ (by decide +kernel)
  have w_1 : (Cond.fieldLink RX3 16 "SnowTermModel" "deepOf" "[I").before _ s = true := hts _ (by decide +kernel)
  have hl := lv_entry ([.ref (ad 0)]) (n := 3) (Nat.le_of_ble_eq_true rfl)
  rw [lg_entry_eq]
  generalize (lg_sl ([.ref (ad 0)]) ++ List.replicate (3 - (lg_sl ([.ref (ad 0)])).length) Slot.unset).toArray = ls at hl ⊢
  have hl : lv_has ls 3 [(0, .ref (ad 0))] := hl
  refine lv_iconst (v := 0) E.1 E.2.1 dX3_snowAll_0 (by decide) ?_
  refine lv_istore_n (lv' := [(1, .int 0), (0, .ref (ad 0))]) E.1 E.2.1 dX3_snowAll_1 rfl hl (by decide) rfl (fun ls hl => ?_)
  refine lv_iconst (v := 0) E.1 E.2.1 dX3_snowAll_2 (by decide) ?_
  refine lv_istore_n (lv' := [(2, .int 0), (1, .int 0), (0, .ref (ad 0))]) E.1 E.2.1 dX3_snowAll_3 rfl hl (by decide) rfl (fun ls hl => ?_)
  have loop1 : ∀ (d_1 k_2 : Nat) (x1_1 : Int32) (ls : Array Slot), k_2 + d_1 = n → lv_has ls 3 [(2, .int (nI k_2)), (1, .int x1_1), (0, .ref (ad 0))] → W p l e (headSpec wsX3_snowAll { frames := 0, cells := 0, slots := 0, locals := 0 }).room s m ([.ref (ad 0)] : List Value).toArray below meth cd s.heap [] 0 0 (MQ below (QcRead (FX3_snowAll_L4 g b tb n z c d_1 k_2 x1_1)) ([.ref (ad 0)] : List Value).toArray s 0 0 (fun _ => False)) (F0 m 4 ls []) := by
    intro d_1
    induction d_1 with
    | zero =>
      intro k_2 x1_1 ls hk1 hl
      refine lv_iload_n E.1 E.2.1 dX3_snowAll_4 rfl (lv_at hl 0 rfl) ?_
      refine lv_aload_n E.1 E.2.1 dX3_snowAll_5 rfl (lv_at hl 2 rfl) ?_
      refine mg_0_1 E hK hP in_3 w_0 dX3_snowAll_6 ?_
      refine lv_topi (fun y_3 ey_3 => ?_)
      obtain rfl : y_3 = nI n := ey_3.trans (hn)
      refine lv_icmp_ge (x := nI k_2) (y := nI n) (tgt := 27) E.1 E.2.1 dX3_snowAll_9 (by decide) (fun _ => ?_) (fun h9 => absurd (nI_le (a := n) (b := k_2) (by omega) (by omega)) h9)
      refine lv_iload_n E.1 E.2.1 dX3_snowAll_27 rfl (lv_at hl 1 rfl) ?_
      exact W.iret (v := x1_1) E.1 E.2.1 hr (fun t ht _ => ⟨congrArg (fun z : Int32 => Outcome.returned (some (Value.int z))) (show x1_1 = FX3_snowAll_L4 g b tb n z c 0 k_2 x1_1 from by rw [FX3_snowAll_L4]), ht⟩) (fun q hq => by cases hq) dX3_snowAll_28
    | succ d_1 ih1 =>
      intro k_2 x1_1 ls hk1 hl
      refine lv_iload_n E.1 E.2.1 dX3_snowAll_4 rfl (lv_at hl 0 rfl) ?_
      refine lv_aload_n E.1 E.2.1 dX3_snowAll_5 rfl (lv_at hl 2 rfl) ?_
      refine mg_0_1 E hK hP in_3 w_0 dX3_snowAll_6 ?_
      refine lv_topi (fun y_4 ey_4 => ?_)
      obtain rfl : y_4 = nI n := ey_4.trans (hn)
      refine lv_icmp_ge (x := nI k_2) (y := nI n) (tgt := 27) E.1 E.2.1 dX3_snowAll_9 (by decide) (fun h9 => absurd h9 (nI_ge (a := k_2) (b := n) (by omega) (by omega))) (fun _ => ?_)
      refine lv_iload_n E.1 E.2.1 dX3_snowAll_12 rfl (lv_at hl 1 rfl) ?_
      refine lv_aload_n E.1 E.2.1 dX3_snowAll_13 rfl (lv_at hl 2 rfl) ?_
      refine mg_0_4 E hK hP in_3 w_1 dX3_snowAll_14 ?_
      refine lv_iload_n E.1 E.2.1 dX3_snowAll_17 rfl (lv_at hl 0 rfl) ?_
      refine ml_3 (i := nI k_2) E hK hP (vp_in_nI (by omega) (by omega)) dX3_snowAll_18 ?_
      refine lv_topi (fun y_5 ey_5 => ?_)
      obtain rfl : y_5 = b 3 k_2 := ey_5.trans (by rw [nI_clamp (show k_2 < 2 ^ 31 by omega)] <;> rfl)
      refine lv_iadd (x := x1_1) (y := b 3 k_2) E.1 E.2.1 dX3_snowAll_19 ?_
      refine lv_istore_n (lv' := [(1, .int (x1_1 + (b 3 k_2))), (2, .int (nI k_2)), (0, .ref (ad 0))]) E.1 E.2.1 dX3_snowAll_20 rfl hl (by decide) rfl (fun ls hl => ?_)
      refine lv_iinc (v := nI (k_2 + 1)) (k := 1) (lv' := [(2, .int (nI (k_2 + 1))), (1, .int (x1_1 + (b 3 k_2))), (0, .ref (ad 0))]) E.1 E.2.1 dX3_snowAll_21 hl rfl (nI_1 k_2) (by decide) rfl (fun ls hl => ?_)
      refine lv_goto (tgt := 4) E.1 E.2.1 dX3_snowAll_24 (by decide) ?_
      rw [show FX3_snowAll_L4 g b tb n z c (d_1 + 1) k_2 x1_1 = FX3_snowAll_L4 g b tb n z c d_1 (k_2 + 1) (x1_1 + (b 3 k_2)) from by rw [FX3_snowAll_L4]]
      exact ih1 (k_2 + 1) (x1_1 + (b 3 k_2)) ls (by omega) (lv_sub hl [0, 1, 2] rfl)
  rw [show FX3_snowAll g b tb n z c = FX3_snowAll_L4 g b tb n z c n 0 0 from by rw [FX3_snowAll]]
  have hl : lv_has ls 3 [(2, .int (nI 0)), (1, .int 0), (0, .ref (ad 0))] := lv_sub hl [0, 1, 2] rfl
  exact loop1 _ _ 0 ls (by omega) (lv_sub hl [0, 1, 2] rfl)
def FX3_howMany (g : Nat → Int32) (b : Nat → Nat → Int32) (tb : Nat → Nat → Int32) (n : Nat) (z : Nat) (c : Nat) (p0 : Int32) : Int32 := (if p0 = 0 then nI n else (if p0 = 1 then g 8 else (if p0 = 2 then g 9 else (if p0 = 3 then FX3_snowAll g b tb n z c else (if p0 = 4 then FX3_keptNow g b tb n z c else (if p0 = 5 then g 10 else (if p0 = 6 then g 11 else (if p0 = 7 then nI c else (if p0 = 8 then nI z else (if p0 = 9 then g 0 else (-102)))))))))))
set_option maxHeartbeats 4000000 in
set_option maxRecDepth 100000 in
/-- count -/
theorem c_X3_howMany (l : Launch) (D : va_G) (cI cB : ClassId) (ad : Nat → Nat) (g t : Nat → Int32) (gl : Nat → Int64) (b tb : Nat → Nat → Int32) (n z c : Nat) (hM : IM n z c g b) (p0 : Int32) : Met l yX3_howMany wsX3_howMany ({ frames := 2, cells := 0, slots := 0, locals := 44 }) (GPc D cI cB (wM cI cB ad g t gl b tb) [.ref (ad 0), .int p0]) (QcRead (FX3_howMany g b tb n z c p0)) 0 0 (fun _ => False) := by
  refine Met.ofW (cc := cX3_howMany) (maxL := 2) (ret := (some .int)) (by decide) rfl ?_
  intro p e s m args below meth cd s₁ B hml hv
  obtain ⟨rfl, hP, hK⟩ := hv
  have hts := atoms_spec (ws := wsX3_howMany) B.pre
  have E : CallFix p m cd cX3_howMany 2 s _ wsX3_howMany RX3 := ⟨B.exec, B.bytes, hml, findClass_of_methodNamed B.named, hts⟩
  have hr := B.returns
  have hlocks := B.notSynchronized
  have h2n := pow6 (n := n) (by have := hM.2.1; omega)
  obtain ⟨hn, hn6, hz, hz21, hc, hc6, hfs⟩ := id hM
  have in_3 : ∀ w ∈ wsX30, w ∈ wsX3_howMany := fun _ h => List.mem_cons_of_mem _ (List.mem_append_right _ h)
  have w_0 : (Cond.fieldLink RX3 94 "SnowTermModel" "sites" "I").before _ s = true := hts _ (by decide +kernel)
  have w_1 : (Cond.fieldLink RX3 97 "SnowTermModel" "sunNow" "I").before _ s = true := hts _ (by decide +kernel)
  have w_2 : (Cond.fieldLink RX3 103 "SnowTermModel" "days" "I").before _ s = true := hts _ (by decide +kernel)
  have w_3 : (Cond.fieldLink RX3 106 "SnowTermModel" "praise" "I").before _ s = true := hts _ (by decide +kernel)
  have w_4 : (Cond.fieldLink RX3 109 "SnowTermModel" "cost" "I").before _ s = true := hts _ (by decide +kernel)
  have w_5 : (Cond.fieldLink RX3 112 "SnowTermModel" "found" "I").before _ s = true := hts _ (by decide +kernel)
  have w_6 : (Cond.fieldLink RX3 72 "SnowTermModel" "pageLength" "I").before _ s = true := hts _ (by decide +kernel)
  have w_7 : (Cond.fieldLink RX3 100 "SnowTermModel" "cities" "I").before _ s = true := hts _ (by decide +kernel)
  have hl := lv_entry ([.ref (ad 0), .int p0]) (n := 2) (Nat.le_of_ble_eq_true rfl)
  rw [lg_entry_eq]
  generalize (lg_sl ([.ref (ad 0), .int p0]) ++ List.replicate (2 - (lg_sl ([.ref (ad 0), .int p0])).length) Slot.unset).toArray = ls at hl ⊢
  have hl : lv_has ls 2 [(0, .ref (ad 0)), (1, .int p0)] := hl
  refine lv_iload_n E.1 E.2.1 dX3_howMany_0 rfl (lv_at hl 1 rfl) ?_
  by_cases hs1_0 : p0 = 0
  · have hs1_0 := hs1_0
    refine lv_topi (fun y9 ey9 => ?_)
    obtain rfl : y9 = 0 := ey9.trans hs1_0
    refine lv_tableIn (x := 0) (off := 55) (tgt := 56) E.1 E.2.1 dX3_howMany_1 (by decide) (by decide) (by decide) (by decide) ?_
    refine lv_aload_n E.1 E.2.1 dX3_howMany_56 rfl (lv_at hl 0 rfl) ?_
    refine mg_0_1 E hK hP in_3 w_0 dX3_howMany_57 ?_
    refine lv_topi (fun y_1 ey_1 => ?_)
    obtain rfl : y_1 = nI n := ey_1.trans (hn)
    exact W.iret (v := nI n) E.1 E.2.1 hr (fun t ht _ => ⟨congrArg (fun z : Int32 => Outcome.returned (some (Value.int z))) (show nI n = FX3_howMany g b tb n z c p0 from by rw [FX3_howMany, if_pos hs1_0]), ht⟩) (fun q hq => by cases hq) dX3_howMany_60
  · have hs1_0 := hs1_0
    by_cases hs1_1 : p0 = 1
    · have hs1_1 := hs1_1
      refine lv_topi (fun y9 ey9 => ?_)
      obtain rfl : y9 = 1 := ey9.trans hs1_1
      refine lv_tableIn (x := 1) (off := 60) (tgt := 61) E.1 E.2.1 dX3_howMany_1 (by decide) (by decide) (by decide) (by decide) ?_
      refine lv_aload_n E.1 E.2.1 dX3_howMany_61 rfl (lv_at hl 0 rfl) ?_
      refine mg_0_8 E hK hP in_3 w_1 dX3_howMany_62 ?_
      exact W.iret (v := g 8) E.1 E.2.1 hr (fun t ht _ => ⟨congrArg (fun z : Int32 => Outcome.returned (some (Value.int z))) (show g 8 = FX3_howMany g b tb n z c p0 from by rw [FX3_howMany, if_neg hs1_0, if_pos hs1_1]), ht⟩) (fun q hq => by cases hq) dX3_howMany_65
    · have hs1_1 := hs1_1
      by_cases hs1_2 : p0 = 2
      · have hs1_2 := hs1_2
        refine lv_topi (fun y9 ey9 => ?_)
        obtain rfl : y9 = 2 := ey9.trans hs1_2
        refine lv_tableIn (x := 2) (off := 65) (tgt := 66) E.1 E.2.1 dX3_howMany_1 (by decide) (by decide) (by decide) (by decide) ?_
        refine lv_aload_n E.1 E.2.1 dX3_howMany_66 rfl (lv_at hl 0 rfl) ?_
        refine mg_0_9 E hK hP in_3 w_2 dX3_howMany_67 ?_
        exact W.iret (v := g 9) E.1 E.2.1 hr (fun t ht _ => ⟨congrArg (fun z : Int32 => Outcome.returned (some (Value.int z))) (show g 9 = FX3_howMany g b tb n z c p0 from by rw [FX3_howMany, if_neg hs1_0, if_neg hs1_1, if_pos hs1_2]), ht⟩) (fun q hq => by cases hq) dX3_howMany_70
      · have hs1_2 := hs1_2
        by_cases hs1_3 : p0 = 3
        · have hs1_3 := hs1_3
          refine lv_topi (fun y9 ey9 => ?_)
          obtain rfl : y9 = 3 := ey9.trans hs1_3
          refine lv_tableIn (x := 3) (off := 70) (tgt := 71) E.1 E.2.1 dX3_howMany_1 (by decide) (by decide) (by decide) (by decide) ?_
          refine lv_aload_n E.1 E.2.1 dX3_howMany_71 rfl (lv_at hl 0 rfl) ?_
          refine g_VR (As := []) (rest := []) E hK hP (c_X3_snowAll l D cI cB ad g t gl b tb n z c hM) (cwV 0 E.2.2.2.2 gX3_howMany_X3_snowAll rfl rfl rfl (by decide +kernel) ⟨Nat.le_of_ble_eq_true rfl, Nat.le_of_ble_eq_true rfl⟩) (rm0x hK hP) rfl hl.1 rfl (Nat.le_of_ble_eq_true rfl) dX3_howMany_72 ⟨Nat.zero_le _, Nat.zero_le _⟩ ?_
          exact W.iret (v := FX3_snowAll g b tb n z c) E.1 E.2.1 hr (fun t ht _ => ⟨congrArg (fun z : Int32 => Outcome.returned (some (Value.int z))) (show FX3_snowAll g b tb n z c = FX3_howMany g b tb n z c p0 from by rw [FX3_howMany, if_neg hs1_0, if_neg hs1_1, if_neg hs1_2, if_pos hs1_3]), ht⟩) (fun q hq => by cases hq) dX3_howMany_75
        · have hs1_3 := hs1_3
          by_cases hs1_4 : p0 = 4
          · have hs1_4 := hs1_4
            refine lv_topi (fun y9 ey9 => ?_)
            obtain rfl : y9 = 4 := ey9.trans hs1_4
            refine lv_tableIn (x := 4) (off := 75) (tgt := 76) E.1 E.2.1 dX3_howMany_1 (by decide) (by decide) (by decide) (by decide) ?_
            refine lv_aload_n E.1 E.2.1 dX3_howMany_76 rfl (lv_at hl 0 rfl) ?_
            refine g_VR (As := []) (rest := []) E hK hP (c_X3_keptNow l D cI cB ad g t gl b tb n z c hM) (cwV 0 E.2.2.2.2 gX3_howMany_X3_keptNow rfl rfl rfl (by decide +kernel) ⟨Nat.le_of_ble_eq_true rfl, Nat.le_of_ble_eq_true rfl⟩) (rm0x hK hP) rfl hl.1 rfl (Nat.le_of_ble_eq_true rfl) dX3_howMany_77 ⟨Nat.zero_le _, Nat.zero_le _⟩ ?_
            exact W.iret (v := FX3_keptNow g b tb n z c) E.1 E.2.1 hr (fun t ht _ => ⟨congrArg (fun z : Int32 => Outcome.returned (some (Value.int z))) (show FX3_keptNow g b tb n z c = FX3_howMany g b tb n z c p0 from by rw [FX3_howMany, if_neg hs1_0, if_neg hs1_1, if_neg hs1_2, if_neg hs1_3, if_pos hs1_4]), ht⟩) (fun q hq => by cases hq) dX3_howMany_80
          · have hs1_4 := hs1_4
            by_cases hs1_5 : p0 = 5
            · have hs1_5 := hs1_5
              refine lv_topi (fun y9 ey9 => ?_)
              obtain rfl : y9 = 5 := ey9.trans hs1_5
              refine lv_tableIn (x := 5) (off := 80) (tgt := 81) E.1 E.2.1 dX3_howMany_1 (by decide) (by decide) (by decide) (by decide) ?_
              refine lv_aload_n E.1 E.2.1 dX3_howMany_81 rfl (lv_at hl 0 rfl) ?_
              refine mg_0_10 E hK hP in_3 w_3 dX3_howMany_82 ?_
              exact W.iret (v := g 10) E.1 E.2.1 hr (fun t ht _ => ⟨congrArg (fun z : Int32 => Outcome.returned (some (Value.int z))) (show g 10 = FX3_howMany g b tb n z c p0 from by rw [FX3_howMany, if_neg hs1_0, if_neg hs1_1, if_neg hs1_2, if_neg hs1_3, if_neg hs1_4, if_pos hs1_5]), ht⟩) (fun q hq => by cases hq) dX3_howMany_85
            · have hs1_5 := hs1_5
              by_cases hs1_6 : p0 = 6
              · have hs1_6 := hs1_6
                refine lv_topi (fun y9 ey9 => ?_)
                obtain rfl : y9 = 6 := ey9.trans hs1_6
                refine lv_tableIn (x := 6) (off := 85) (tgt := 86) E.1 E.2.1 dX3_howMany_1 (by decide) (by decide) (by decide) (by decide) ?_
                refine lv_aload_n E.1 E.2.1 dX3_howMany_86 rfl (lv_at hl 0 rfl) ?_
                refine mg_0_11 E hK hP in_3 w_4 dX3_howMany_87 ?_
                exact W.iret (v := g 11) E.1 E.2.1 hr (fun t ht _ => ⟨congrArg (fun z : Int32 => Outcome.returned (some (Value.int z))) (show g 11 = FX3_howMany g b tb n z c p0 from by rw [FX3_howMany, if_neg hs1_0, if_neg hs1_1, if_neg hs1_2, if_neg hs1_3, if_neg hs1_4, if_neg hs1_5, if_pos hs1_6]), ht⟩) (fun q hq => by cases hq) dX3_howMany_90
              · have hs1_6 := hs1_6
                by_cases hs1_7 : p0 = 7
                · have hs1_7 := hs1_7
                  refine lv_topi (fun y9 ey9 => ?_)
                  obtain rfl : y9 = 7 := ey9.trans hs1_7
                  refine lv_tableIn (x := 7) (off := 90) (tgt := 91) E.1 E.2.1 dX3_howMany_1 (by decide) (by decide) (by decide) (by decide) ?_
                  refine lv_aload_n E.1 E.2.1 dX3_howMany_91 rfl (lv_at hl 0 rfl) ?_
                  refine mg_0_12 E hK hP in_3 w_5 dX3_howMany_92 ?_
                  refine lv_topi (fun y_2 ey_2 => ?_)
                  obtain rfl : y_2 = nI c := ey_2.trans (hc)
                  exact W.iret (v := nI c) E.1 E.2.1 hr (fun t ht _ => ⟨congrArg (fun z : Int32 => Outcome.returned (some (Value.int z))) (show nI c = FX3_howMany g b tb n z c p0 from by rw [FX3_howMany, if_neg hs1_0, if_neg hs1_1, if_neg hs1_2, if_neg hs1_3, if_neg hs1_4, if_neg hs1_5, if_neg hs1_6, if_pos hs1_7]), ht⟩) (fun q hq => by cases hq) dX3_howMany_95
                · have hs1_7 := hs1_7
                  by_cases hs1_8 : p0 = 8
                  · have hs1_8 := hs1_8
                    refine lv_topi (fun y9 ey9 => ?_)
                    obtain rfl : y9 = 8 := ey9.trans hs1_8
                    refine lv_tableIn (x := 8) (off := 95) (tgt := 96) E.1 E.2.1 dX3_howMany_1 (by decide) (by decide) (by decide) (by decide) ?_
                    refine lv_aload_n E.1 E.2.1 dX3_howMany_96 rfl (lv_at hl 0 rfl) ?_
                    refine mg_0_16 E hK hP in_3 w_6 dX3_howMany_97 ?_
                    refine lv_topi (fun y_3 ey_3 => ?_)
                    obtain rfl : y_3 = nI z := ey_3.trans (hz)
                    exact W.iret (v := nI z) E.1 E.2.1 hr (fun t ht _ => ⟨congrArg (fun z : Int32 => Outcome.returned (some (Value.int z))) (show nI z = FX3_howMany g b tb n z c p0 from by rw [FX3_howMany, if_neg hs1_0, if_neg hs1_1, if_neg hs1_2, if_neg hs1_3, if_neg hs1_4, if_neg hs1_5, if_neg hs1_6, if_neg hs1_7, if_pos hs1_8]), ht⟩) (fun q hq => by cases hq) dX3_howMany_100
                  · have hs1_8 := hs1_8
                    by_cases hs1_9 : p0 = 9
                    · have hs1_9 := hs1_9
                      refine lv_topi (fun y9 ey9 => ?_)
                      obtain rfl : y9 = 9 := ey9.trans hs1_9
                      refine lv_tableIn (x := 9) (off := 100) (tgt := 101) E.1 E.2.1 dX3_howMany_1 (by decide) (by decide) (by decide) (by decide) ?_
                      refine lv_aload_n E.1 E.2.1 dX3_howMany_101 rfl (lv_at hl 0 rfl) ?_
                      refine mg_0_0 E hK hP in_3 w_7 dX3_howMany_102 ?_
                      exact W.iret (v := g 0) E.1 E.2.1 hr (fun t ht _ => ⟨congrArg (fun z : Int32 => Outcome.returned (some (Value.int z))) (show g 0 = FX3_howMany g b tb n z c p0 from by rw [FX3_howMany, if_neg hs1_0, if_neg hs1_1, if_neg hs1_2, if_neg hs1_3, if_neg hs1_4, if_neg hs1_5, if_neg hs1_6, if_neg hs1_7, if_neg hs1_8, if_pos hs1_9]), ht⟩) (fun q hq => by cases hq) dX3_howMany_105
                    · have hs1_9 := hs1_9
                      refine lv_tableOut (x := p0) (tgt := 106) E.1 E.2.1 dX3_howMany_1 (by have q0 := lv_neT hs1_0 (a := 0) (by decide); have q1 := lv_neT hs1_1 (a := 1) (by decide); have q2 := lv_neT hs1_2 (a := 2) (by decide); have q3 := lv_neT hs1_3 (a := 3) (by decide); have q4 := lv_neT hs1_4 (a := 4) (by decide); have q5 := lv_neT hs1_5 (a := 5) (by decide); have q6 := lv_neT hs1_6 (a := 6) (by decide); have q7 := lv_neT hs1_7 (a := 7) (by decide); have q8 := lv_neT hs1_8 (a := 8) (by decide); have q9 := lv_neT hs1_9 (a := 9) (by decide); omega) (by decide) ?_
                      refine lv_bipush (v := (-102)) E.1 E.2.1 dX3_howMany_106 (by decide) ?_
                      exact W.iret (v := (-102)) E.1 E.2.1 hr (fun t ht _ => ⟨congrArg (fun z : Int32 => Outcome.returned (some (Value.int z))) (show (-102) = FX3_howMany g b tb n z c p0 from by rw [FX3_howMany, if_neg hs1_0, if_neg hs1_1, if_neg hs1_2, if_neg hs1_3, if_neg hs1_4, if_neg hs1_5, if_neg hs1_6, if_neg hs1_7, if_neg hs1_8, if_neg hs1_9]), ht⟩) (fun q hq => by cases hq) dX3_howMany_108
def FX3_count (g : Nat → Int32) (b : Nat → Nat → Int32) (tb : Nat → Nat → Int32) (n : Nat) (z : Nat) (c : Nat) (p0 : Int32) : Int32 := FX3_howMany g b tb n z c p0
set_option maxHeartbeats 4000000 in
set_option maxRecDepth 100000 in
/-- count -/
theorem c_X3_count (l : Launch) (D : va_G) (cI cB : ClassId) (ad : Nat → Nat) (g t : Nat → Int32) (gl : Nat → Int64) (b tb : Nat → Nat → Int32) (n z c : Nat) (hM : IM n z c g b) (p0 : Int32) : Met l yX3_count wsX3_count ({ frames := 3, cells := 0, slots := 0, locals := 65 }) (GPc D cI cB (wM cI cB ad g t gl b tb) [.ref (ad 0), .int p0]) (QcRead (FX3_count g b tb n z c p0)) 0 0 (fun _ => False) := by
  refine Met.ofW (cc := cX3_count) (maxL := 2) (ret := (some .int)) (by decide) rfl ?_
  intro p e s m args below meth cd s₁ B hml hv
  obtain ⟨rfl, hP, hK⟩ := hv
  have hts := atoms_spec (ws := wsX3_count) B.pre
  have E : CallFix p m cd cX3_count 2 s _ wsX3_count RX3 := ⟨B.exec, B.bytes, hml, findClass_of_methodNamed B.named, hts⟩
  have hr := B.returns
  have hlocks := B.notSynchronized
  have h2n := pow6 (n := n) (by have := hM.2.1; omega)
  obtain ⟨hn, hn6, hz, hz21, hc, hc6, hfs⟩ := id hM
  have hl := lv_entry ([.ref (ad 0), .int p0]) (n := 2) (Nat.le_of_ble_eq_true rfl)
  rw [lg_entry_eq]
  generalize (lg_sl ([.ref (ad 0), .int p0]) ++ List.replicate (2 - (lg_sl ([.ref (ad 0), .int p0])).length) Slot.unset).toArray = ls at hl ⊢
  have hl : lv_has ls 2 [(0, .ref (ad 0)), (1, .int p0)] := hl
  refine lv_aload_n E.1 E.2.1 dX3_count_0 rfl (lv_at hl 0 rfl) ?_
  refine lv_iload_n E.1 E.2.1 dX3_count_1 rfl (lv_at hl 1 rfl) ?_
  refine g_VR (As := [.int p0]) (rest := []) E hK hP (c_X3_howMany l D cI cB ad g t gl b tb n z c hM p0) (cwV 1 E.2.2.2.2 gX3_count_X3_howMany rfl rfl rfl (by decide +kernel) ⟨Nat.le_of_ble_eq_true rfl, Nat.le_of_ble_eq_true rfl⟩) (rm0x hK hP) rfl hl.1 rfl (Nat.le_of_ble_eq_true rfl) dX3_count_2 ⟨Nat.zero_le _, Nat.zero_le _⟩ ?_
  exact W.iret (v := FX3_howMany g b tb n z c p0) E.1 E.2.1 hr (fun t ht _ => ⟨congrArg (fun z : Int32 => Outcome.returned (some (Value.int z))) (show FX3_howMany g b tb n z c p0 = FX3_count g b tb n z c p0 from by rw [FX3_count]), ht⟩) (fun q hq => by cases hq) dX3_count_5
