def FX3_winters (g : Nat → Int32) (t : Nat → Int32) (gl : Nat → Int64) (b : Nat → Nat → Int32) (tb : Nat → Nat → Int32) (n : Nat) (z : Nat) (c : Nat) (p0 : Int32) (p1 : Int32) (p2 : Int32) : Int32 × SM := (if FX3_within p0 1 60 = 0 then ((-102), g, t, gl, b, tb) else (if p1 < 0 then ((-102), g, t, gl, b, tb) else (if FX3_within p2 0 2 = 0 then ((-102), g, t, gl, b, tb) else (if nI n = 0 then ((-103), g, t, gl, b, tb) else ((FX3_wintersNow g t gl b tb n z c p0.toNatClampNeg p1 p2).1, (FX3_wintersNow g t gl b tb n z c p0.toNatClampNeg p1 p2).2.1, (FX3_wintersNow g t gl b tb n z c p0.toNatClampNeg p1 p2).2.2.1, (FX3_wintersNow g t gl b tb n z c p0.toNatClampNeg p1 p2).2.2.2.1, (FX3_wintersNow g t gl b tb n z c p0.toNatClampNeg p1 p2).2.2.2.2.1, (FX3_wintersNow g t gl b tb n z c p0.toNatClampNeg p1 p2).2.2.2.2.2)))))
set_option maxHeartbeats 4000000 in
set_option maxRecDepth 100000 in
/-- winters -/
theorem c_X3_winters (l : Launch) (D : va_G) (cI cB : ClassId) (ad : Nat → Nat) (g t : Nat → Int32) (gl : Nat → Int64) (b tb : Nat → Nat → Int32) (n z c : Nat) (hM : IM n z c g b) (hI : wI 20 ad) (p0 : Int32) (p1 : Int32) (p2 : Int32) : Met l yX3_winters wsX3_winters ({ frames := 4, cells := 0, slots := 0, locals := 92 }) (GPc D cI cB (wM cI cB ad g t gl b tb) [.ref (ad 0), .int p0, .int p1, .int p2]) (va_Qi (fun (r : Int32) (u : SM) => (r, u) = FX3_winters g t gl b tb n z c p0 p1 p2) (fun u t => va_P D vwCl (wM cI cB ad u.1 u.2.1 u.2.2.1 u.2.2.2.1 u.2.2.2.2) t.heap) (wA 20 ad)) 0 0 (wA 20 ad) := by
  refine Met.ofW (cc := cX3_winters) (maxL := 4) (ret := (some .int)) (by decide) rfl ?_
  intro p e s m args below meth cd s₁ B hml hv
  obtain ⟨rfl, hP, hK⟩ := hv
  have hts := atoms_spec (ws := wsX3_winters) B.pre
  have E : CallFix p m cd cX3_winters 4 s _ wsX3_winters RX3 := ⟨B.exec, B.bytes, hml, findClass_of_methodNamed B.named, hts⟩
  have hr := B.returns
  have hlocks := B.notSynchronized
  have h2n := pow6 (n := n) (by have := hM.2.1; omega)
  obtain ⟨hn, hn6, hz, hz21, hc, hc6, hfs⟩ := id hM
  have hS : va_S (wA 20 ad) s.heap s.heap [] := va_S.rf
  have in_3 : ∀ w ∈ wsX30, w ∈ wsX3_winters := fun _ h => List.mem_cons_of_mem _ (List.mem_append_right _ h)
  have w_0 : (Cond.fieldLink RX3 94 "SnowTermModel" "sites" "I").before _ s = true := hts _ (by decide +kernel)
  have hl := lv_entry ([.ref (ad 0), .int p0, .int p1, .int p2]) (n := 4) (Nat.le_of_ble_eq_true rfl)
  rw [lg_entry_eq]
  generalize (lg_sl ([.ref (ad 0), .int p0, .int p1, .int p2]) ++ List.replicate (4 - (lg_sl ([.ref (ad 0), .int p0, .int p1, .int p2])).length) Slot.unset).toArray = ls at hl ⊢
  have hl : lv_has ls 4 [(0, .ref (ad 0)), (1, .int p0), (2, .int p1), (3, .int p2)] := hl
  refine lv_iload_n E.1 E.2.1 dX3_winters_0 rfl (lv_at hl 1 rfl) ?_
  refine lv_iconst (v := 1) E.1 E.2.1 dX3_winters_1 (by decide) ?_
  refine lv_bipush (v := 60) E.1 E.2.1 dX3_winters_2 (by decide) ?_
  refine g_SR (As := [.int p0, .int 1, .int 60]) (rest := []) E hK (c_X3_within l D cI cB p0 1 60) (va_cwS 3 E.2.2.2.2 gX3_winters_X3_within rfl rfl rfl (by decide +kernel) ⟨Nat.le_of_ble_eq_true rfl, Nat.le_of_ble_eq_true rfl⟩) rfl hl.1 rfl (Nat.le_of_ble_eq_true rfl) dX3_winters_4 ⟨Nat.zero_le _, Nat.zero_le _⟩ ?_
  refine lv_if_eq (x := FX3_within p0 1 60) (tgt := 23) E.1 E.2.1 dX3_winters_7 (by decide) (fun h7 => ?_) (fun h7 => ?_)
  · have h7 := h7
    refine lv_bipush (v := (-102)) E.1 E.2.1 dX3_winters_23 (by decide) ?_
    exact W.iret (v := (-102)) E.1 E.2.1 hr (fun tt ht _ => ⟨⟨(-102), (g, t, gl, b, tb), rfl, (by rw [FX3_winters, if_pos h7]), (show va_P D vwCl (wM cI cB ad g t gl b tb) tt.heap from by rw [ht]; exact hP)⟩, hS.F ht⟩) hS.2.2 dX3_winters_25
  · have h7 := h7
    refine lv_iload_n E.1 E.2.1 dX3_winters_10 rfl (lv_at hl 2 rfl) ?_
    refine lv_if_lt (x := p1) (tgt := 23) E.1 E.2.1 dX3_winters_11 (by decide) (fun h11 => ?_) (fun h11 => ?_)
    · have h11 := h11
      refine lv_bipush (v := (-102)) E.1 E.2.1 dX3_winters_23 (by decide) ?_
      exact W.iret (v := (-102)) E.1 E.2.1 hr (fun tt ht _ => ⟨⟨(-102), (g, t, gl, b, tb), rfl, (by rw [FX3_winters, if_neg h7, if_pos h11]), (show va_P D vwCl (wM cI cB ad g t gl b tb) tt.heap from by rw [ht]; exact hP)⟩, hS.F ht⟩) hS.2.2 dX3_winters_25
    · have h11 := h11
      refine lv_iload_n E.1 E.2.1 dX3_winters_14 rfl (lv_at hl 3 rfl) ?_
      refine lv_iconst (v := 0) E.1 E.2.1 dX3_winters_15 (by decide) ?_
      refine lv_iconst (v := 2) E.1 E.2.1 dX3_winters_16 (by decide) ?_
      refine g_SR (As := [.int p2, .int 0, .int 2]) (rest := []) E hK (c_X3_within l D cI cB p2 0 2) (va_cwS 3 E.2.2.2.2 gX3_winters_X3_within rfl rfl rfl (by decide +kernel) ⟨Nat.le_of_ble_eq_true rfl, Nat.le_of_ble_eq_true rfl⟩) rfl hl.1 rfl (Nat.le_of_ble_eq_true rfl) dX3_winters_17 ⟨Nat.zero_le _, Nat.zero_le _⟩ ?_
      refine lv_if_ne (x := FX3_within p2 0 2) (tgt := 26) E.1 E.2.1 dX3_winters_20 (by decide) (fun h20 => ?_) (fun h20 => ?_)
      · have h20 := h20
        refine lv_aload_n E.1 E.2.1 dX3_winters_26 rfl (lv_at hl 0 rfl) ?_
        refine mg_0_1 E hK hP in_3 w_0 dX3_winters_27 ?_
        refine lv_topi (fun y_1 ey_1 => ?_)
        obtain rfl : y_1 = nI n := ey_1.trans (hn)
        refine lv_if_ne (x := nI n) (tgt := 38) E.1 E.2.1 dX3_winters_30 (by decide) (fun h30 => ?_) (fun h30 => ?_)
        · have h30 := h30
          refine lv_aload_n E.1 E.2.1 dX3_winters_38 rfl (lv_at hl 0 rfl) ?_
          refine lv_iload_n E.1 E.2.1 dX3_winters_39 rfl (lv_at hl 1 rfl) ?_
          refine lv_topi (fun y_2 ey_2 => ?_)
          obtain rfl : y_2 = nI p0.toNatClampNeg := ey_2.trans (nI_cl (nlt0 (within_t h7).1))
          refine lv_iload_n E.1 E.2.1 dX3_winters_40 rfl (lv_at hl 2 rfl) ?_
          refine lv_iload_n E.1 E.2.1 dX3_winters_41 rfl (lv_at hl 3 rfl) ?_
          refine g_VWi (As := [.int (nI p0.toNatClampNeg), .int p1, .int p2]) (rest := []) E hK hP hS (fun q h => h) (c_X3_wintersNow l D cI cB ad g t gl b tb n z c hM hI p0.toNatClampNeg p1 p2 (cl_lt _) (n_pos (by assumption))) (cwV 3 E.2.2.2.2 gX3_winters_X3_wintersNow rfl rfl rfl (by decide +kernel) ⟨Nat.le_of_ble_eq_true rfl, Nat.le_of_ble_eq_true rfl⟩) (rm0x hK hP) rfl hl.1 rfl (Nat.le_of_ble_eq_true rfl) dX3_winters_42 ⟨Nat.zero_le _, Nat.zero_le _⟩ (fun r_4 u_3 H1 locs hp_5 hP1 hq_6 hS => ?_)
          obtain rfl : r_4 = (FX3_wintersNow g t gl b tb n z c p0.toNatClampNeg p1 p2).1 := congrArg Prod.fst hp_5
          obtain rfl : u_3 = (FX3_wintersNow g t gl b tb n z c p0.toNatClampNeg p1 p2).2 := congrArg Prod.snd hp_5
          have hP : va_P D vwCl (wM cI cB ad ((FX3_wintersNow g t gl b tb n z c p0.toNatClampNeg p1 p2).2.1) ((FX3_wintersNow g t gl b tb n z c p0.toNatClampNeg p1 p2).2.2.1) ((FX3_wintersNow g t gl b tb n z c p0.toNatClampNeg p1 p2).2.2.2.1) ((FX3_wintersNow g t gl b tb n z c p0.toNatClampNeg p1 p2).2.2.2.2.1) ((FX3_wintersNow g t gl b tb n z c p0.toNatClampNeg p1 p2).2.2.2.2.2)) H1 := hP1
          clear hP1
          generalize H1 = H at hP hS ⊢
          exact W.iret (v := (FX3_wintersNow g t gl b tb n z c p0.toNatClampNeg p1 p2).1) E.1 E.2.1 hr (fun tt ht _ => ⟨⟨(FX3_wintersNow g t gl b tb n z c p0.toNatClampNeg p1 p2).1, ((FX3_wintersNow g t gl b tb n z c p0.toNatClampNeg p1 p2).2.1, (FX3_wintersNow g t gl b tb n z c p0.toNatClampNeg p1 p2).2.2.1, (FX3_wintersNow g t gl b tb n z c p0.toNatClampNeg p1 p2).2.2.2.1, (FX3_wintersNow g t gl b tb n z c p0.toNatClampNeg p1 p2).2.2.2.2.1, (FX3_wintersNow g t gl b tb n z c p0.toNatClampNeg p1 p2).2.2.2.2.2), rfl, (by rw [FX3_winters, if_neg h7, if_neg h11, if_neg h20, if_neg h30]), (show va_P D vwCl (wM cI cB ad ((FX3_wintersNow g t gl b tb n z c p0.toNatClampNeg p1 p2).2.1) ((FX3_wintersNow g t gl b tb n z c p0.toNatClampNeg p1 p2).2.2.1) ((FX3_wintersNow g t gl b tb n z c p0.toNatClampNeg p1 p2).2.2.2.1) ((FX3_wintersNow g t gl b tb n z c p0.toNatClampNeg p1 p2).2.2.2.2.1) ((FX3_wintersNow g t gl b tb n z c p0.toNatClampNeg p1 p2).2.2.2.2.2)) tt.heap from by rw [ht]; exact hP)⟩, hS.F ht⟩) hS.2.2 dX3_winters_45
        · have h30 := h30
          refine lv_bipush (v := (-103)) E.1 E.2.1 dX3_winters_33 (by decide) ?_
          refine lv_goto (tgt := 45) E.1 E.2.1 dX3_winters_35 (by decide) ?_
          exact W.iret (v := (-103)) E.1 E.2.1 hr (fun tt ht _ => ⟨⟨(-103), (g, t, gl, b, tb), rfl, (by rw [FX3_winters, if_neg h7, if_neg h11, if_neg h20, if_pos h30]), (show va_P D vwCl (wM cI cB ad g t gl b tb) tt.heap from by rw [ht]; exact hP)⟩, hS.F ht⟩) hS.2.2 dX3_winters_45
      · have h20 := h20
        refine lv_bipush (v := (-102)) E.1 E.2.1 dX3_winters_23 (by decide) ?_
        exact W.iret (v := (-102)) E.1 E.2.1 hr (fun tt ht _ => ⟨⟨(-102), (g, t, gl, b, tb), rfl, (by rw [FX3_winters, if_neg h7, if_neg h11, if_pos h20]), (show va_P D vwCl (wM cI cB ad g t gl b tb) tt.heap from by rw [ht]; exact hP)⟩, hS.F ht⟩) hS.2.2 dX3_winters_25
def FX3_image_L65 (t : Nat → Int32) (gl : Nat → Int64) (tb : Nat → Nat → Int32) (n : Nat) (z : Nat) (c : Nat) : Nat → Nat → (Nat → Int32) → (Nat → Nat → Int32) → Int32 × SM
  | 0, k_9, g8, b8 => (g8 9, g8, t, gl, b8, tb)
  | d_8 + 1, k_9, g8, b8 => FX3_image_L65 t gl tb n z c d_8 (k_9 + 1) g8 (uA (uA (uA (uA (uA (uA (uA b8 13 (upd (b8 13) k_9 (b8 3 k_9))) 14 (upd (b8 14) k_9 (b8 4 k_9))) 15 (upd (b8 15) k_9 (b8 5 k_9))) 16 (upd (b8 16) k_9 (b8 6 k_9))) 17 (upd (b8 17) k_9 (b8 7 k_9))) 18 (upd (b8 18) k_9 (b8 8 k_9))) 19 (upd (b8 19) k_9 (b8 9 k_9)))
def FX3_image (g : Nat → Int32) (t : Nat → Int32) (gl : Nat → Int64) (b : Nat → Nat → Int32) (tb : Nat → Nat → Int32) (n : Nat) (z : Nat) (c : Nat) : Int32 × SM := (if nI n = 0 then ((-103), g, t, gl, b, tb) else FX3_image_L65 t gl tb n z c 6 0 (upd (upd (upd (upd (upd (upd (upd g 25 1) 26 (g 0)) 27 (g 8)) 28 (g 9)) 29 (g 10)) 30 (g 11)) 31 (nI c)) b)
set_option maxHeartbeats 4000000 in
set_option maxRecDepth 100000 in
/-- an image -/
theorem c_X3_image (l : Launch) (D : va_G) (cI cB : ClassId) (ad : Nat → Nat) (g t : Nat → Int32) (gl : Nat → Int64) (b tb : Nat → Nat → Int32) (n z c : Nat) (hM : IM n z c g b) (hI : wI 20 ad)  : Met l yX3_image wsX3_image ({ frames := 0, cells := 0, slots := 0, locals := 0 }) (GPc D cI cB (wM cI cB ad g t gl b tb) [.ref (ad 0)]) (va_Qi (fun (r : Int32) (u : SM) => (r, u) = FX3_image g t gl b tb n z c) (fun u t => va_P D vwCl (wM cI cB ad u.1 u.2.1 u.2.2.1 u.2.2.2.1 u.2.2.2.2) t.heap) (wA 20 ad)) 0 0 (wA 20 ad) := by
  refine Met.ofW (cc := cX3_image) (maxL := 2) (ret := (some .int)) (by decide) rfl ?_
  intro p e s m args below meth cd s₁ B hml hv
  obtain ⟨rfl, hP, hK⟩ := hv
  have hts := atoms_spec (ws := wsX3_image) B.pre
  have E : CallFix p m cd cX3_image 2 s _ wsX3_image RX3 := ⟨B.exec, B.bytes, hml, findClass_of_methodNamed B.named, hts⟩
  have hr := B.returns
  have hlocks := B.notSynchronized
  have h2n := pow6 (n := n) (by have := hM.2.1; omega)
  obtain ⟨hn, hn6, hz, hz21, hc, hc6, hfs⟩ := id hM
  have hS : va_S (wA 20 ad) s.heap s.heap [] := va_S.rf
  have in_3 : ∀ w ∈ wsX30, w ∈ wsX3_image := fun _ h => List.mem_cons_of_mem _ (List.mem_append_right _ h)
  have w_0 : (Cond.fieldLink RX3 94 "SnowTermModel" "sites" "I").before _ s = true := hts _ (by decide +kernel)
  have w_1 : (Cond.fieldLink RX3 208 "SnowTermModel" "isImage" "Z").before _ s = true := hts _ (by decide +kernel)
  have w_2 : (Cond.fieldLink RX3 100 "SnowTermModel" "cities" "I").before _ s = true := hts _ (by decide +kernel)
  have w_3 : (Cond.fieldLink RX3 211 "SnowTermModel" "keptCity" "I").before _ s = true := hts _ (by decide +kernel)
  have w_4 : (Cond.fieldLink RX3 97 "SnowTermModel" "sunNow" "I").before _ s = true := hts _ (by decide +kernel)
  have w_5 : (Cond.fieldLink RX3 214 "SnowTermModel" "keptSun" "I").before _ s = true := hts _ (by decide +kernel)
  have w_6 : (Cond.fieldLink RX3 103 "SnowTermModel" "days" "I").before _ s = true := hts _ (by decide +kernel)
  have w_7 : (Cond.fieldLink RX3 217 "SnowTermModel" "keptDays" "I").before _ s = true := hts _ (by decide +kernel)
  have w_8 : (Cond.fieldLink RX3 106 "SnowTermModel" "praise" "I").before _ s = true := hts _ (by decide +kernel)
  have w_9 : (Cond.fieldLink RX3 220 "SnowTermModel" "keptPraise" "I").before _ s = true := hts _ (by decide +kernel)
  have w_10 : (Cond.fieldLink RX3 109 "SnowTermModel" "cost" "I").before _ s = true := hts _ (by decide +kernel)
  have w_11 : (Cond.fieldLink RX3 223 "SnowTermModel" "keptCost" "I").before _ s = true := hts _ (by decide +kernel)
  have w_12 : (Cond.fieldLink RX3 112 "SnowTermModel" "found" "I").before _ s = true := hts _ (by decide +kernel)
  have w_13 : (Cond.fieldLink RX3 226 "SnowTermModel" "keptFound" "I").before _ s = true := hts _ (by decide +kernel)
  have w_14 : (Cond.fieldLink RX3 47 "SnowTermModel" "keptDeep" "[I").before _ s = true := hts _ (by decide +kernel)
  have w_15 : (Cond.fieldLink RX3 16 "SnowTermModel" "deepOf" "[I").before _ s = true := hts _ (by decide +kernel)
  have w_16 : (Cond.fieldLink RX3 50 "SnowTermModel" "keptStart" "[I").before _ s = true := hts _ (by decide +kernel)
  have w_17 : (Cond.fieldLink RX3 19 "SnowTermModel" "startOf" "[I").before _ s = true := hts _ (by decide +kernel)
  have w_18 : (Cond.fieldLink RX3 53 "SnowTermModel" "keptBrought" "[I").before _ s = true := hts _ (by decide +kernel)
  have w_19 : (Cond.fieldLink RX3 22 "SnowTermModel" "broughtTo" "[I").before _ s = true := hts _ (by decide +kernel)
  have w_20 : (Cond.fieldLink RX3 56 "SnowTermModel" "keptFeet" "[I").before _ s = true := hts _ (by decide +kernel)
  have w_21 : (Cond.fieldLink RX3 25 "SnowTermModel" "feetOf" "[I").before _ s = true := hts _ (by decide +kernel)
  have w_22 : (Cond.fieldLink RX3 59 "SnowTermModel" "keptSite" "[I").before _ s = true := hts _ (by decide +kernel)
  have w_23 : (Cond.fieldLink RX3 28 "SnowTermModel" "foundSite" "[I").before _ s = true := hts _ (by decide +kernel)
  have w_24 : (Cond.fieldLink RX3 62 "SnowTermModel" "keptFoundDeep" "[I").before _ s = true := hts _ (by decide +kernel)
  have w_25 : (Cond.fieldLink RX3 31 "SnowTermModel" "foundDeep" "[I").before _ s = true := hts _ (by decide +kernel)
  have w_26 : (Cond.fieldLink RX3 65 "SnowTermModel" "keptLeft" "[I").before _ s = true := hts _ (by decide +kernel)
  have w_27 : (Cond.fieldLink RX3 34 "SnowTermModel" "foundLeft" "[I").before _ s = true := hts _ (by decide +kernel)
  have hl := lv_entry ([.ref (ad 0)]) (n := 2) (Nat.le_of_ble_eq_true rfl)
  rw [lg_entry_eq]
  generalize (lg_sl ([.ref (ad 0)]) ++ List.replicate (2 - (lg_sl ([.ref (ad 0)])).length) Slot.unset).toArray = ls at hl ⊢
  have hl : lv_has ls 2 [(0, .ref (ad 0))] := hl
  refine lv_aload_n E.1 E.2.1 dX3_image_0 rfl (lv_at hl 0 rfl) ?_
  refine mg_0_1 E hK hP in_3 w_0 dX3_image_1 ?_
  refine lv_topi (fun y_1 ey_1 => ?_)
  obtain rfl : y_1 = nI n := ey_1.trans (hn)
  refine lv_if_ne (x := nI n) (tgt := 10) E.1 E.2.1 dX3_image_4 (by decide) (fun h4 => ?_) (fun h4 => ?_)
  · have h4 := h4
    refine lv_aload_n E.1 E.2.1 dX3_image_10 rfl (lv_at hl 0 rfl) ?_
    refine lv_iconst (v := 1) E.1 E.2.1 dX3_image_11 (by decide) ?_
    refine mp_0_25 (v := 1) E hK hP in_3 w_1 hI hS rfl rfl dX3_image_12 (fun H locs hP hS => ?_)
    refine lv_aload_n E.1 E.2.1 dX3_image_15 rfl (lv_at hl 0 rfl) ?_
    refine lv_aload_n E.1 E.2.1 dX3_image_16 rfl (lv_at hl 0 rfl) ?_
    refine mg_0_0 E hK hP in_3 w_2 dX3_image_17 ?_
    refine lv_topi (fun y_2 ey_2 => ?_)
    obtain rfl : y_2 = g 0 := ey_2.trans (rfl)
    refine mp_0_26 (v := g 0) E hK hP in_3 w_3 hI hS dX3_image_20 (fun H locs hP hS => ?_)
    refine lv_aload_n E.1 E.2.1 dX3_image_23 rfl (lv_at hl 0 rfl) ?_
    refine lv_aload_n E.1 E.2.1 dX3_image_24 rfl (lv_at hl 0 rfl) ?_
    refine mg_0_8 E hK hP in_3 w_4 dX3_image_25 ?_
    refine lv_topi (fun y_3 ey_3 => ?_)
    obtain rfl : y_3 = g 8 := ey_3.trans (rfl)
    refine mp_0_27 (v := g 8) E hK hP in_3 w_5 hI hS dX3_image_28 (fun H locs hP hS => ?_)
    refine lv_aload_n E.1 E.2.1 dX3_image_31 rfl (lv_at hl 0 rfl) ?_
    refine lv_aload_n E.1 E.2.1 dX3_image_32 rfl (lv_at hl 0 rfl) ?_
    refine mg_0_9 E hK hP in_3 w_6 dX3_image_33 ?_
    refine lv_topi (fun y_4 ey_4 => ?_)
    obtain rfl : y_4 = g 9 := ey_4.trans (rfl)
    refine mp_0_28 (v := g 9) E hK hP in_3 w_7 hI hS dX3_image_36 (fun H locs hP hS => ?_)
    refine lv_aload_n E.1 E.2.1 dX3_image_39 rfl (lv_at hl 0 rfl) ?_
    refine lv_aload_n E.1 E.2.1 dX3_image_40 rfl (lv_at hl 0 rfl) ?_
    refine mg_0_10 E hK hP in_3 w_8 dX3_image_41 ?_
    refine lv_topi (fun y_5 ey_5 => ?_)
    obtain rfl : y_5 = g 10 := ey_5.trans (rfl)
    refine mp_0_29 (v := g 10) E hK hP in_3 w_9 hI hS dX3_image_44 (fun H locs hP hS => ?_)
    refine lv_aload_n E.1 E.2.1 dX3_image_47 rfl (lv_at hl 0 rfl) ?_
    refine lv_aload_n E.1 E.2.1 dX3_image_48 rfl (lv_at hl 0 rfl) ?_
    refine mg_0_11 E hK hP in_3 w_10 dX3_image_49 ?_
    refine lv_topi (fun y_6 ey_6 => ?_)
    obtain rfl : y_6 = g 11 := ey_6.trans (rfl)
    refine mp_0_30 (v := g 11) E hK hP in_3 w_11 hI hS dX3_image_52 (fun H locs hP hS => ?_)
    refine lv_aload_n E.1 E.2.1 dX3_image_55 rfl (lv_at hl 0 rfl) ?_
    refine lv_aload_n E.1 E.2.1 dX3_image_56 rfl (lv_at hl 0 rfl) ?_
    refine mg_0_12 E hK hP in_3 w_12 dX3_image_57 ?_
    refine lv_topi (fun y_7 ey_7 => ?_)
    obtain rfl : y_7 = nI c := ey_7.trans (hc)
    refine mp_0_31 (v := nI c) E hK hP in_3 w_13 hI hS dX3_image_60 (fun H locs hP hS => ?_)
    refine lv_iconst (v := 0) E.1 E.2.1 dX3_image_63 (by decide) ?_
    refine lv_istore_n (lv' := [(1, .int 0), (0, .ref (ad 0))]) E.1 E.2.1 dX3_image_64 rfl hl (by decide) rfl (fun ls hl => ?_)
    have loop8 : ∀ (d_8 k_9 : Nat) (g8 : Nat → Int32) (b8 : Nat → Nat → Int32) (H : Heap) (locs : List Loc) (ls : Array Slot), k_9 + d_8 = 6 → va_P D vwCl (wM cI cB ad g8 t gl b8 tb) H → va_S (wA 20 ad) s.heap H locs → lv_has ls 2 [(1, .int (nI k_9)), (0, .ref (ad 0))] → W p l e (headSpec wsX3_image { frames := 0, cells := 0, slots := 0, locals := 0 }).room s m ([.ref (ad 0)] : List Value).toArray below meth cd H locs 0 0 (MQ below (va_Qi (fun (r : Int32) (u : SM) => (r, u) = FX3_image_L65 t gl tb n z c d_8 k_9 g8 b8) (fun u t => va_P D vwCl (wM cI cB ad u.1 u.2.1 u.2.2.1 u.2.2.2.1 u.2.2.2.2) t.heap) (wA 20 ad)) ([.ref (ad 0)] : List Value).toArray s 0 0 (wA 20 ad)) (F0 m 65 ls []) := by
      intro d_8
      induction d_8 with
      | zero =>
        intro k_9 g8 b8 H locs ls hk8 hP hS hl
        refine lv_iload_n E.1 E.2.1 dX3_image_65 rfl (lv_at hl 0 rfl) ?_
        refine lv_bipush (v := 6) E.1 E.2.1 dX3_image_66 (by decide) ?_
        refine lv_icmp_ge (x := nI k_9) (y := 6) (tgt := 161) E.1 E.2.1 dX3_image_68 (by decide) (fun _ => ?_) (fun h9 => absurd (nI_le (a := 6) (b := k_9) (by omega) (by omega)) h9)
        refine lv_aload_n E.1 E.2.1 dX3_image_161 rfl (lv_at hl 1 rfl) ?_
        refine mg_0_9 E hK hP in_3 w_6 dX3_image_162 ?_
        exact W.iret (v := g8 9) E.1 E.2.1 hr (fun tt ht _ => ⟨⟨g8 9, (g8, t, gl, b8, tb), rfl, (by rw [FX3_image_L65]), (show va_P D vwCl (wM cI cB ad g8 t gl b8 tb) tt.heap from by rw [ht]; exact hP)⟩, hS.F ht⟩) hS.2.2 dX3_image_165
      | succ d_8 ih8 =>
        intro k_9 g8 b8 H locs ls hk8 hP hS hl
        refine lv_iload_n E.1 E.2.1 dX3_image_65 rfl (lv_at hl 0 rfl) ?_
        refine lv_bipush (v := 6) E.1 E.2.1 dX3_image_66 (by decide) ?_
        refine lv_icmp_ge (x := nI k_9) (y := 6) (tgt := 161) E.1 E.2.1 dX3_image_68 (by decide) (fun h9 => absurd h9 (nI_ge (a := k_9) (b := 6) (by omega) (by omega))) (fun _ => ?_)
        refine lv_aload_n E.1 E.2.1 dX3_image_71 rfl (lv_at hl 1 rfl) ?_
        refine mg_0_32 E hK hP in_3 w_14 dX3_image_72 ?_
        refine lv_iload_n E.1 E.2.1 dX3_image_75 rfl (lv_at hl 0 rfl) ?_
        refine lv_aload_n E.1 E.2.1 dX3_image_76 rfl (lv_at hl 1 rfl) ?_
        refine mg_0_4 E hK hP in_3 w_15 dX3_image_77 ?_
        refine lv_iload_n E.1 E.2.1 dX3_image_80 rfl (lv_at hl 0 rfl) ?_
        refine ml_3 (i := nI k_9) E hK hP (vp_in_nI (by omega) (by omega)) dX3_image_81 ?_
        refine lv_topi (fun y_10 ey_10 => ?_)
        obtain rfl : y_10 = b8 3 k_9 := ey_10.trans (by rw [nI_clamp (show k_9 < 2 ^ 31 by omega)] <;> rfl)
        refine ms_13 (v := b8 3 k_9) (i := nI k_9) E hK hP hI hS (vp_in_nI (by omega) (by omega)) dX3_image_82 (fun H locs hP hS => ?_)
        rw [nI_clamp (show k_9 < 2 ^ 31 by omega)] at hP
        have hP : va_P D vwCl (wM cI cB ad g8 t gl (uA b8 13 (upd (b8 13) k_9 (b8 3 k_9))) tb) H := hP
        refine lv_aload_n E.1 E.2.1 dX3_image_83 rfl (lv_at hl 1 rfl) ?_
        refine mg_0_33 E hK hP in_3 w_16 dX3_image_84 ?_
        refine lv_iload_n E.1 E.2.1 dX3_image_87 rfl (lv_at hl 0 rfl) ?_
        refine lv_aload_n E.1 E.2.1 dX3_image_88 rfl (lv_at hl 1 rfl) ?_
        refine mg_0_5 E hK hP in_3 w_17 dX3_image_89 ?_
        refine lv_iload_n E.1 E.2.1 dX3_image_92 rfl (lv_at hl 0 rfl) ?_
        refine ml_4 (i := nI k_9) E hK hP (vp_in_nI (by omega) (by omega)) dX3_image_93 ?_
        refine lv_topi (fun y_11 ey_11 => ?_)
        obtain rfl : y_11 = b8 4 k_9 := ey_11.trans (by rw [nI_clamp (show k_9 < 2 ^ 31 by omega)] <;> rfl)
        refine ms_14 (v := b8 4 k_9) (i := nI k_9) E hK hP hI hS (vp_in_nI (by omega) (by omega)) dX3_image_94 (fun H locs hP hS => ?_)
        rw [nI_clamp (show k_9 < 2 ^ 31 by omega)] at hP
        have hP : va_P D vwCl (wM cI cB ad g8 t gl (uA (uA b8 13 (upd (b8 13) k_9 (b8 3 k_9))) 14 (upd (b8 14) k_9 (b8 4 k_9))) tb) H := hP
        refine lv_aload_n E.1 E.2.1 dX3_image_95 rfl (lv_at hl 1 rfl) ?_
        refine mg_0_34 E hK hP in_3 w_18 dX3_image_96 ?_
        refine lv_iload_n E.1 E.2.1 dX3_image_99 rfl (lv_at hl 0 rfl) ?_
        refine lv_aload_n E.1 E.2.1 dX3_image_100 rfl (lv_at hl 1 rfl) ?_
        refine mg_0_6 E hK hP in_3 w_19 dX3_image_101 ?_
        refine lv_iload_n E.1 E.2.1 dX3_image_104 rfl (lv_at hl 0 rfl) ?_
        refine ml_5 (i := nI k_9) E hK hP (vp_in_nI (by omega) (by omega)) dX3_image_105 ?_
        refine lv_topi (fun y_12 ey_12 => ?_)
        obtain rfl : y_12 = b8 5 k_9 := ey_12.trans (by rw [nI_clamp (show k_9 < 2 ^ 31 by omega)] <;> rfl)
        refine ms_15 (v := b8 5 k_9) (i := nI k_9) E hK hP hI hS (vp_in_nI (by omega) (by omega)) dX3_image_106 (fun H locs hP hS => ?_)
        rw [nI_clamp (show k_9 < 2 ^ 31 by omega)] at hP
        have hP : va_P D vwCl (wM cI cB ad g8 t gl (uA (uA (uA b8 13 (upd (b8 13) k_9 (b8 3 k_9))) 14 (upd (b8 14) k_9 (b8 4 k_9))) 15 (upd (b8 15) k_9 (b8 5 k_9))) tb) H := hP
        refine lv_aload_n E.1 E.2.1 dX3_image_107 rfl (lv_at hl 1 rfl) ?_
        refine mg_0_35 E hK hP in_3 w_20 dX3_image_108 ?_
        refine lv_iload_n E.1 E.2.1 dX3_image_111 rfl (lv_at hl 0 rfl) ?_
        refine lv_aload_n E.1 E.2.1 dX3_image_112 rfl (lv_at hl 1 rfl) ?_
        refine mg_0_7 E hK hP in_3 w_21 dX3_image_113 ?_
        refine lv_iload_n E.1 E.2.1 dX3_image_116 rfl (lv_at hl 0 rfl) ?_
        refine ml_6 (i := nI k_9) E hK hP (vp_in_nI (by omega) (by omega)) dX3_image_117 ?_
        refine lv_topi (fun y_13 ey_13 => ?_)
        obtain rfl : y_13 = b8 6 k_9 := ey_13.trans (by rw [nI_clamp (show k_9 < 2 ^ 31 by omega)] <;> rfl)
        refine ms_16 (v := b8 6 k_9) (i := nI k_9) E hK hP hI hS (vp_in_nI (by omega) (by omega)) dX3_image_118 (fun H locs hP hS => ?_)
        rw [nI_clamp (show k_9 < 2 ^ 31 by omega)] at hP
        have hP : va_P D vwCl (wM cI cB ad g8 t gl (uA (uA (uA (uA b8 13 (upd (b8 13) k_9 (b8 3 k_9))) 14 (upd (b8 14) k_9 (b8 4 k_9))) 15 (upd (b8 15) k_9 (b8 5 k_9))) 16 (upd (b8 16) k_9 (b8 6 k_9))) tb) H := hP
        refine lv_aload_n E.1 E.2.1 dX3_image_119 rfl (lv_at hl 1 rfl) ?_
        refine mg_0_36 E hK hP in_3 w_22 dX3_image_120 ?_
        refine lv_iload_n E.1 E.2.1 dX3_image_123 rfl (lv_at hl 0 rfl) ?_
        refine lv_aload_n E.1 E.2.1 dX3_image_124 rfl (lv_at hl 1 rfl) ?_
        refine mg_0_13 E hK hP in_3 w_23 dX3_image_125 ?_
        refine lv_iload_n E.1 E.2.1 dX3_image_128 rfl (lv_at hl 0 rfl) ?_
        refine ml_7 (i := nI k_9) E hK hP (vp_in_nI (by omega) (by omega)) dX3_image_129 ?_
        refine lv_topi (fun y_14 ey_14 => ?_)
        obtain rfl : y_14 = b8 7 k_9 := ey_14.trans (by rw [nI_clamp (show k_9 < 2 ^ 31 by omega)] <;> rfl)
        refine ms_17 (v := b8 7 k_9) (i := nI k_9) E hK hP hI hS (vp_in_nI (by omega) (by omega)) dX3_image_130 (fun H locs hP hS => ?_)
        rw [nI_clamp (show k_9 < 2 ^ 31 by omega)] at hP
        have hP : va_P D vwCl (wM cI cB ad g8 t gl (uA (uA (uA (uA (uA b8 13 (upd (b8 13) k_9 (b8 3 k_9))) 14 (upd (b8 14) k_9 (b8 4 k_9))) 15 (upd (b8 15) k_9 (b8 5 k_9))) 16 (upd (b8 16) k_9 (b8 6 k_9))) 17 (upd (b8 17) k_9 (b8 7 k_9))) tb) H := hP
        refine lv_aload_n E.1 E.2.1 dX3_image_131 rfl (lv_at hl 1 rfl) ?_
        refine mg_0_37 E hK hP in_3 w_24 dX3_image_132 ?_
        refine lv_iload_n E.1 E.2.1 dX3_image_135 rfl (lv_at hl 0 rfl) ?_
        refine lv_aload_n E.1 E.2.1 dX3_image_136 rfl (lv_at hl 1 rfl) ?_
        refine mg_0_14 E hK hP in_3 w_25 dX3_image_137 ?_
        refine lv_iload_n E.1 E.2.1 dX3_image_140 rfl (lv_at hl 0 rfl) ?_
        refine ml_8 (i := nI k_9) E hK hP (vp_in_nI (by omega) (by omega)) dX3_image_141 ?_
        refine lv_topi (fun y_15 ey_15 => ?_)
        obtain rfl : y_15 = b8 8 k_9 := ey_15.trans (by rw [nI_clamp (show k_9 < 2 ^ 31 by omega)] <;> rfl)
        refine ms_18 (v := b8 8 k_9) (i := nI k_9) E hK hP hI hS (vp_in_nI (by omega) (by omega)) dX3_image_142 (fun H locs hP hS => ?_)
        rw [nI_clamp (show k_9 < 2 ^ 31 by omega)] at hP
        have hP : va_P D vwCl (wM cI cB ad g8 t gl (uA (uA (uA (uA (uA (uA b8 13 (upd (b8 13) k_9 (b8 3 k_9))) 14 (upd (b8 14) k_9 (b8 4 k_9))) 15 (upd (b8 15) k_9 (b8 5 k_9))) 16 (upd (b8 16) k_9 (b8 6 k_9))) 17 (upd (b8 17) k_9 (b8 7 k_9))) 18 (upd (b8 18) k_9 (b8 8 k_9))) tb) H := hP
        refine lv_aload_n E.1 E.2.1 dX3_image_143 rfl (lv_at hl 1 rfl) ?_
        refine mg_0_38 E hK hP in_3 w_26 dX3_image_144 ?_
        refine lv_iload_n E.1 E.2.1 dX3_image_147 rfl (lv_at hl 0 rfl) ?_
        refine lv_aload_n E.1 E.2.1 dX3_image_148 rfl (lv_at hl 1 rfl) ?_
        refine mg_0_15 E hK hP in_3 w_27 dX3_image_149 ?_
        refine lv_iload_n E.1 E.2.1 dX3_image_152 rfl (lv_at hl 0 rfl) ?_
        refine ml_9 (i := nI k_9) E hK hP (vp_in_nI (by omega) (by omega)) dX3_image_153 ?_
        refine lv_topi (fun y_16 ey_16 => ?_)
        obtain rfl : y_16 = b8 9 k_9 := ey_16.trans (by rw [nI_clamp (show k_9 < 2 ^ 31 by omega)] <;> rfl)
        refine ms_19 (v := b8 9 k_9) (i := nI k_9) E hK hP hI hS (vp_in_nI (by omega) (by omega)) dX3_image_154 (fun H locs hP hS => ?_)
        rw [nI_clamp (show k_9 < 2 ^ 31 by omega)] at hP
        have hP : va_P D vwCl (wM cI cB ad g8 t gl (uA (uA (uA (uA (uA (uA (uA b8 13 (upd (b8 13) k_9 (b8 3 k_9))) 14 (upd (b8 14) k_9 (b8 4 k_9))) 15 (upd (b8 15) k_9 (b8 5 k_9))) 16 (upd (b8 16) k_9 (b8 6 k_9))) 17 (upd (b8 17) k_9 (b8 7 k_9))) 18 (upd (b8 18) k_9 (b8 8 k_9))) 19 (upd (b8 19) k_9 (b8 9 k_9))) tb) H := hP
        refine lv_iinc (v := nI (k_9 + 1)) (k := 0) (lv' := [(1, .int (nI (k_9 + 1))), (0, .ref (ad 0))]) E.1 E.2.1 dX3_image_155 hl rfl (nI_1 k_9) (by decide) rfl (fun ls hl => ?_)
        refine lv_goto (tgt := 65) E.1 E.2.1 dX3_image_158 (by decide) ?_
        rw [show FX3_image_L65 t gl tb n z c (d_8 + 1) k_9 g8 b8 = FX3_image_L65 t gl tb n z c d_8 (k_9 + 1) g8 (uA (uA (uA (uA (uA (uA (uA b8 13 (upd (b8 13) k_9 (b8 3 k_9))) 14 (upd (b8 14) k_9 (b8 4 k_9))) 15 (upd (b8 15) k_9 (b8 5 k_9))) 16 (upd (b8 16) k_9 (b8 6 k_9))) 17 (upd (b8 17) k_9 (b8 7 k_9))) 18 (upd (b8 18) k_9 (b8 8 k_9))) 19 (upd (b8 19) k_9 (b8 9 k_9))) from by rw [FX3_image_L65]]
        exact ih8 (k_9 + 1) g8 (uA (uA (uA (uA (uA (uA (uA b8 13 (upd (b8 13) k_9 (b8 3 k_9))) 14 (upd (b8 14) k_9 (b8 4 k_9))) 15 (upd (b8 15) k_9 (b8 5 k_9))) 16 (upd (b8 16) k_9 (b8 6 k_9))) 17 (upd (b8 17) k_9 (b8 7 k_9))) 18 (upd (b8 18) k_9 (b8 8 k_9))) 19 (upd (b8 19) k_9 (b8 9 k_9))) _ _ ls (by omega) hP hS (lv_sub hl [0, 1] rfl)
    rw [show FX3_image g t gl b tb n z c = FX3_image_L65 t gl tb n z c 6 0 (upd (upd (upd (upd (upd (upd (upd g 25 1) 26 (g 0)) 27 (g 8)) 28 (g 9)) 29 (g 10)) 30 (g 11)) 31 (nI c)) b from by rw [FX3_image, if_neg h4]]
    have hl : lv_has ls 2 [(1, .int (nI 0)), (0, .ref (ad 0))] := lv_sub hl [0, 1] rfl
    exact loop8 _ _ (upd (upd (upd (upd (upd (upd (upd g 25 1) 26 (g 0)) 27 (g 8)) 28 (g 9)) 29 (g 10)) 30 (g 11)) 31 (nI c)) b _ _ ls (by omega) hP hS (lv_sub hl [0, 1] rfl)
  · have h4 := h4
    refine lv_bipush (v := (-103)) E.1 E.2.1 dX3_image_7 (by decide) ?_
    exact W.iret (v := (-103)) E.1 E.2.1 hr (fun tt ht _ => ⟨⟨(-103), (g, t, gl, b, tb), rfl, (by rw [FX3_image, if_pos h4]), (show va_P D vwCl (wM cI cB ad g t gl b tb) tt.heap from by rw [ht]; exact hP)⟩, hS.F ht⟩) hS.2.2 dX3_image_9
def FX3_restore_L63 (t : Nat → Int32) (gl : Nat → Int64) (tb : Nat → Nat → Int32) (n : Nat) (z : Nat) (c : Nat) : Nat → Nat → (Nat → Int32) → (Nat → Nat → Int32) → Int32 × SM
  | 0, k_6, g5, b5 => (g5 9, g5, t, gl, b5, tb)
  | d_5 + 1, k_6, g5, b5 => FX3_restore_L63 t gl tb n z c d_5 (k_6 + 1) g5 (uA (uA (uA (uA (uA (uA (uA b5 3 (upd (b5 3) k_6 (b5 13 k_6))) 4 (upd (b5 4) k_6 (b5 14 k_6))) 5 (upd (b5 5) k_6 (b5 15 k_6))) 6 (upd (b5 6) k_6 (b5 16 k_6))) 7 (upd (b5 7) k_6 (b5 17 k_6))) 8 (upd (b5 8) k_6 (b5 18 k_6))) 9 (upd (b5 9) k_6 (b5 19 k_6)))
def FX3_restore (g : Nat → Int32) (t : Nat → Int32) (gl : Nat → Int64) (b : Nat → Nat → Int32) (tb : Nat → Nat → Int32) (n : Nat) (z : Nat) (c : Nat) : Int32 × SM := (if g 25 = 0 then ((-103), g, t, gl, b, tb) else (if g 26 = g 0 then FX3_restore_L63 t gl tb n z c 6 0 (upd (upd (upd (upd (upd g 8 (g 27)) 9 (g 28)) 10 (g 29)) 11 (g 30)) 12 (g 31)) b else ((-103), g, t, gl, b, tb)))
set_option maxHeartbeats 4000000 in
set_option maxRecDepth 100000 in
/-- back to the image -/
theorem c_X3_restore (l : Launch) (D : va_G) (cI cB : ClassId) (ad : Nat → Nat) (g t : Nat → Int32) (gl : Nat → Int64) (b tb : Nat → Nat → Int32) (n z c : Nat) (hM : IM n z c g b) (hI : wI 20 ad)  : Met l yX3_restore wsX3_restore ({ frames := 0, cells := 0, slots := 0, locals := 0 }) (GPc D cI cB (wM cI cB ad g t gl b tb) [.ref (ad 0)]) (va_Qi (fun (r : Int32) (u : SM) => (r, u) = FX3_restore g t gl b tb n z c) (fun u t => va_P D vwCl (wM cI cB ad u.1 u.2.1 u.2.2.1 u.2.2.2.1 u.2.2.2.2) t.heap) (wA 20 ad)) 0 0 (wA 20 ad) := by
  refine Met.ofW (cc := cX3_restore) (maxL := 2) (ret := (some .int)) (by decide) rfl ?_
  intro p e s m args below meth cd s₁ B hml hv
  obtain ⟨rfl, hP, hK⟩ := hv
  have hts := atoms_spec (ws := wsX3_restore) B.pre
  have E : CallFix p m cd cX3_restore 2 s _ wsX3_restore RX3 := ⟨B.exec, B.bytes, hml, findClass_of_methodNamed B.named, hts⟩
  have hr := B.returns
  have hlocks := B.notSynchronized
  have h2n := pow6 (n := n) (by have := hM.2.1; omega)
  obtain ⟨hn, hn6, hz, hz21, hc, hc6, hfs⟩ := id hM
  have hS : va_S (wA 20 ad) s.heap s.heap [] := va_S.rf
  have in_3 : ∀ w ∈ wsX30, w ∈ wsX3_restore := fun _ h => List.mem_cons_of_mem _ (List.mem_append_right _ h)
  have w_0 : (Cond.fieldLink RX3 208 "SnowTermModel" "isImage" "Z").before _ s = true := hts _ (by decide +kernel)
  have w_1 : (Cond.fieldLink RX3 211 "SnowTermModel" "keptCity" "I").before _ s = true := hts _ (by decide +kernel)
  have w_2 : (Cond.fieldLink RX3 100 "SnowTermModel" "cities" "I").before _ s = true := hts _ (by decide +kernel)
  have w_3 : (Cond.fieldLink RX3 214 "SnowTermModel" "keptSun" "I").before _ s = true := hts _ (by decide +kernel)
  have w_4 : (Cond.fieldLink RX3 97 "SnowTermModel" "sunNow" "I").before _ s = true := hts _ (by decide +kernel)
  have w_5 : (Cond.fieldLink RX3 217 "SnowTermModel" "keptDays" "I").before _ s = true := hts _ (by decide +kernel)
  have w_6 : (Cond.fieldLink RX3 103 "SnowTermModel" "days" "I").before _ s = true := hts _ (by decide +kernel)
  have w_7 : (Cond.fieldLink RX3 220 "SnowTermModel" "keptPraise" "I").before _ s = true := hts _ (by decide +kernel)
  have w_8 : (Cond.fieldLink RX3 106 "SnowTermModel" "praise" "I").before _ s = true := hts _ (by decide +kernel)
  have w_9 : (Cond.fieldLink RX3 223 "SnowTermModel" "keptCost" "I").before _ s = true := hts _ (by decide +kernel)
  have w_10 : (Cond.fieldLink RX3 109 "SnowTermModel" "cost" "I").before _ s = true := hts _ (by decide +kernel)
  have w_11 : (Cond.fieldLink RX3 226 "SnowTermModel" "keptFound" "I").before _ s = true := hts _ (by decide +kernel)
  have w_12 : (Cond.fieldLink RX3 112 "SnowTermModel" "found" "I").before _ s = true := hts _ (by decide +kernel)
  have w_13 : (Cond.fieldLink RX3 16 "SnowTermModel" "deepOf" "[I").before _ s = true := hts _ (by decide +kernel)
  have w_14 : (Cond.fieldLink RX3 47 "SnowTermModel" "keptDeep" "[I").before _ s = true := hts _ (by decide +kernel)
  have w_15 : (Cond.fieldLink RX3 19 "SnowTermModel" "startOf" "[I").before _ s = true := hts _ (by decide +kernel)
  have w_16 : (Cond.fieldLink RX3 50 "SnowTermModel" "keptStart" "[I").before _ s = true := hts _ (by decide +kernel)
  have w_17 : (Cond.fieldLink RX3 22 "SnowTermModel" "broughtTo" "[I").before _ s = true := hts _ (by decide +kernel)
  have w_18 : (Cond.fieldLink RX3 53 "SnowTermModel" "keptBrought" "[I").before _ s = true := hts _ (by decide +kernel)
  have w_19 : (Cond.fieldLink RX3 25 "SnowTermModel" "feetOf" "[I").before _ s = true := hts _ (by decide +kernel)
  have w_20 : (Cond.fieldLink RX3 56 "SnowTermModel" "keptFeet" "[I").before _ s = true := hts _ (by decide +kernel)
  have w_21 : (Cond.fieldLink RX3 28 "SnowTermModel" "foundSite" "[I").before _ s = true := hts _ (by decide +kernel)
  have w_22 : (Cond.fieldLink RX3 59 "SnowTermModel" "keptSite" "[I").before _ s = true := hts _ (by decide +kernel)
  have w_23 : (Cond.fieldLink RX3 31 "SnowTermModel" "foundDeep" "[I").before _ s = true := hts _ (by decide +kernel)
  have w_24 : (Cond.fieldLink RX3 62 "SnowTermModel" "keptFoundDeep" "[I").before _ s = true := hts _ (by decide +kernel)
  have w_25 : (Cond.fieldLink RX3 34 "SnowTermModel" "foundLeft" "[I").before _ s = true := hts _ (by decide +kernel)
  have w_26 : (Cond.fieldLink RX3 65 "SnowTermModel" "keptLeft" "[I").before _ s = true := hts _ (by decide +kernel)
  have hl := lv_entry ([.ref (ad 0)]) (n := 2) (Nat.le_of_ble_eq_true rfl)
  rw [lg_entry_eq]
  generalize (lg_sl ([.ref (ad 0)]) ++ List.replicate (2 - (lg_sl ([.ref (ad 0)])).length) Slot.unset).toArray = ls at hl ⊢
  have hl : lv_has ls 2 [(0, .ref (ad 0))] := hl
  refine lv_aload_n E.1 E.2.1 dX3_restore_0 rfl (lv_at hl 0 rfl) ?_
  refine mg_0_25 E hK hP in_3 w_0 dX3_restore_1 ?_
  refine lv_if_eq (x := g 25) (tgt := 18) E.1 E.2.1 dX3_restore_4 (by decide) (fun h4 => ?_) (fun h4 => ?_)
  · have h4 := h4
    refine lv_bipush (v := (-103)) E.1 E.2.1 dX3_restore_18 (by decide) ?_
    exact W.iret (v := (-103)) E.1 E.2.1 hr (fun tt ht _ => ⟨⟨(-103), (g, t, gl, b, tb), rfl, (by rw [FX3_restore, if_pos h4]), (show va_P D vwCl (wM cI cB ad g t gl b tb) tt.heap from by rw [ht]; exact hP)⟩, hS.F ht⟩) hS.2.2 dX3_restore_20
  · have h4 := h4
    refine lv_aload_n E.1 E.2.1 dX3_restore_7 rfl (lv_at hl 0 rfl) ?_
    refine mg_0_26 E hK hP in_3 w_1 dX3_restore_8 ?_
    refine lv_aload_n E.1 E.2.1 dX3_restore_11 rfl (lv_at hl 0 rfl) ?_
    refine mg_0_0 E hK hP in_3 w_2 dX3_restore_12 ?_
    refine lv_icmp_eq (x := g 26) (y := g 0) (tgt := 21) E.1 E.2.1 dX3_restore_15 (by decide) (fun h15 => ?_) (fun h15 => ?_)
    · have h15 := h15
      refine lv_aload_n E.1 E.2.1 dX3_restore_21 rfl (lv_at hl 0 rfl) ?_
      refine lv_aload_n E.1 E.2.1 dX3_restore_22 rfl (lv_at hl 0 rfl) ?_
      refine mg_0_27 E hK hP in_3 w_3 dX3_restore_23 ?_
      refine mp_0_8 (v := g 27) E hK hP in_3 w_4 hI hS dX3_restore_26 (fun H locs hP hS => ?_)
      refine lv_aload_n E.1 E.2.1 dX3_restore_29 rfl (lv_at hl 0 rfl) ?_
      refine lv_aload_n E.1 E.2.1 dX3_restore_30 rfl (lv_at hl 0 rfl) ?_
      refine mg_0_28 E hK hP in_3 w_5 dX3_restore_31 ?_
      refine lv_topi (fun y_1 ey_1 => ?_)
      obtain rfl : y_1 = g 28 := ey_1.trans (rfl)
      refine mp_0_9 (v := g 28) E hK hP in_3 w_6 hI hS dX3_restore_34 (fun H locs hP hS => ?_)
      refine lv_aload_n E.1 E.2.1 dX3_restore_37 rfl (lv_at hl 0 rfl) ?_
      refine lv_aload_n E.1 E.2.1 dX3_restore_38 rfl (lv_at hl 0 rfl) ?_
      refine mg_0_29 E hK hP in_3 w_7 dX3_restore_39 ?_
      refine lv_topi (fun y_2 ey_2 => ?_)
      obtain rfl : y_2 = g 29 := ey_2.trans (rfl)
      refine mp_0_10 (v := g 29) E hK hP in_3 w_8 hI hS dX3_restore_42 (fun H locs hP hS => ?_)
      refine lv_aload_n E.1 E.2.1 dX3_restore_45 rfl (lv_at hl 0 rfl) ?_
      refine lv_aload_n E.1 E.2.1 dX3_restore_46 rfl (lv_at hl 0 rfl) ?_
      refine mg_0_30 E hK hP in_3 w_9 dX3_restore_47 ?_
      refine lv_topi (fun y_3 ey_3 => ?_)
      obtain rfl : y_3 = g 30 := ey_3.trans (rfl)
      refine mp_0_11 (v := g 30) E hK hP in_3 w_10 hI hS dX3_restore_50 (fun H locs hP hS => ?_)
      refine lv_aload_n E.1 E.2.1 dX3_restore_53 rfl (lv_at hl 0 rfl) ?_
      refine lv_aload_n E.1 E.2.1 dX3_restore_54 rfl (lv_at hl 0 rfl) ?_
      refine mg_0_31 E hK hP in_3 w_11 dX3_restore_55 ?_
      refine lv_topi (fun y_4 ey_4 => ?_)
      obtain rfl : y_4 = g 31 := ey_4.trans (rfl)
      refine mp_0_12 (v := g 31) E hK hP in_3 w_12 hI hS dX3_restore_58 (fun H locs hP hS => ?_)
      refine lv_iconst (v := 0) E.1 E.2.1 dX3_restore_61 (by decide) ?_
      refine lv_istore_n (lv' := [(1, .int 0), (0, .ref (ad 0))]) E.1 E.2.1 dX3_restore_62 rfl hl (by decide) rfl (fun ls hl => ?_)
      have loop5 : ∀ (d_5 k_6 : Nat) (g5 : Nat → Int32) (b5 : Nat → Nat → Int32) (H : Heap) (locs : List Loc) (ls : Array Slot), k_6 + d_5 = 6 → va_P D vwCl (wM cI cB ad g5 t gl b5 tb) H → va_S (wA 20 ad) s.heap H locs → lv_has ls 2 [(1, .int (nI k_6)), (0, .ref (ad 0))] → W p l e (headSpec wsX3_restore { frames := 0, cells := 0, slots := 0, locals := 0 }).room s m ([.ref (ad 0)] : List Value).toArray below meth cd H locs 0 0 (MQ below (va_Qi (fun (r : Int32) (u : SM) => (r, u) = FX3_restore_L63 t gl tb n z c d_5 k_6 g5 b5) (fun u t => va_P D vwCl (wM cI cB ad u.1 u.2.1 u.2.2.1 u.2.2.2.1 u.2.2.2.2) t.heap) (wA 20 ad)) ([.ref (ad 0)] : List Value).toArray s 0 0 (wA 20 ad)) (F0 m 63 ls []) := by
        intro d_5
        induction d_5 with
        | zero =>
          intro k_6 g5 b5 H locs ls hk5 hP hS hl
          refine lv_iload_n E.1 E.2.1 dX3_restore_63 rfl (lv_at hl 0 rfl) ?_
          refine lv_bipush (v := 6) E.1 E.2.1 dX3_restore_64 (by decide) ?_
          refine lv_icmp_ge (x := nI k_6) (y := 6) (tgt := 159) E.1 E.2.1 dX3_restore_66 (by decide) (fun _ => ?_) (fun h9 => absurd (nI_le (a := 6) (b := k_6) (by omega) (by omega)) h9)
          refine lv_aload_n E.1 E.2.1 dX3_restore_159 rfl (lv_at hl 1 rfl) ?_
          refine mg_0_9 E hK hP in_3 w_6 dX3_restore_160 ?_
          exact W.iret (v := g5 9) E.1 E.2.1 hr (fun tt ht _ => ⟨⟨g5 9, (g5, t, gl, b5, tb), rfl, (by rw [FX3_restore_L63]), (show va_P D vwCl (wM cI cB ad g5 t gl b5 tb) tt.heap from by rw [ht]; exact hP)⟩, hS.F ht⟩) hS.2.2 dX3_restore_163
        | succ d_5 ih5 =>
          intro k_6 g5 b5 H locs ls hk5 hP hS hl
          refine lv_iload_n E.1 E.2.1 dX3_restore_63 rfl (lv_at hl 0 rfl) ?_
          refine lv_bipush (v := 6) E.1 E.2.1 dX3_restore_64 (by decide) ?_
          refine lv_icmp_ge (x := nI k_6) (y := 6) (tgt := 159) E.1 E.2.1 dX3_restore_66 (by decide) (fun h9 => absurd h9 (nI_ge (a := k_6) (b := 6) (by omega) (by omega))) (fun _ => ?_)
          refine lv_aload_n E.1 E.2.1 dX3_restore_69 rfl (lv_at hl 1 rfl) ?_
          refine mg_0_4 E hK hP in_3 w_13 dX3_restore_70 ?_
          refine lv_iload_n E.1 E.2.1 dX3_restore_73 rfl (lv_at hl 0 rfl) ?_
          refine lv_aload_n E.1 E.2.1 dX3_restore_74 rfl (lv_at hl 1 rfl) ?_
          refine mg_0_32 E hK hP in_3 w_14 dX3_restore_75 ?_
          refine lv_iload_n E.1 E.2.1 dX3_restore_78 rfl (lv_at hl 0 rfl) ?_
          refine ml_13 (i := nI k_6) E hK hP (vp_in_nI (by omega) (by omega)) dX3_restore_79 ?_
          refine lv_topi (fun y_7 ey_7 => ?_)
          obtain rfl : y_7 = b5 13 k_6 := ey_7.trans (by rw [nI_clamp (show k_6 < 2 ^ 31 by omega)] <;> rfl)
          refine ms_3 (v := b5 13 k_6) (i := nI k_6) E hK hP hI hS (vp_in_nI (by omega) (by omega)) dX3_restore_80 (fun H locs hP hS => ?_)
          rw [nI_clamp (show k_6 < 2 ^ 31 by omega)] at hP
          have hP : va_P D vwCl (wM cI cB ad g5 t gl (uA b5 3 (upd (b5 3) k_6 (b5 13 k_6))) tb) H := hP
          refine lv_aload_n E.1 E.2.1 dX3_restore_81 rfl (lv_at hl 1 rfl) ?_
          refine mg_0_5 E hK hP in_3 w_15 dX3_restore_82 ?_
          refine lv_iload_n E.1 E.2.1 dX3_restore_85 rfl (lv_at hl 0 rfl) ?_
          refine lv_aload_n E.1 E.2.1 dX3_restore_86 rfl (lv_at hl 1 rfl) ?_
          refine mg_0_33 E hK hP in_3 w_16 dX3_restore_87 ?_
          refine lv_iload_n E.1 E.2.1 dX3_restore_90 rfl (lv_at hl 0 rfl) ?_
          refine ml_14 (i := nI k_6) E hK hP (vp_in_nI (by omega) (by omega)) dX3_restore_91 ?_
          refine lv_topi (fun y_8 ey_8 => ?_)
          obtain rfl : y_8 = b5 14 k_6 := ey_8.trans (by rw [nI_clamp (show k_6 < 2 ^ 31 by omega)] <;> rfl)
          refine ms_4 (v := b5 14 k_6) (i := nI k_6) E hK hP hI hS (vp_in_nI (by omega) (by omega)) dX3_restore_92 (fun H locs hP hS => ?_)
          rw [nI_clamp (show k_6 < 2 ^ 31 by omega)] at hP
          have hP : va_P D vwCl (wM cI cB ad g5 t gl (uA (uA b5 3 (upd (b5 3) k_6 (b5 13 k_6))) 4 (upd (b5 4) k_6 (b5 14 k_6))) tb) H := hP
          refine lv_aload_n E.1 E.2.1 dX3_restore_93 rfl (lv_at hl 1 rfl) ?_
          refine mg_0_6 E hK hP in_3 w_17 dX3_restore_94 ?_
          refine lv_iload_n E.1 E.2.1 dX3_restore_97 rfl (lv_at hl 0 rfl) ?_
          refine lv_aload_n E.1 E.2.1 dX3_restore_98 rfl (lv_at hl 1 rfl) ?_
          refine mg_0_34 E hK hP in_3 w_18 dX3_restore_99 ?_
          refine lv_iload_n E.1 E.2.1 dX3_restore_102 rfl (lv_at hl 0 rfl) ?_
          refine ml_15 (i := nI k_6) E hK hP (vp_in_nI (by omega) (by omega)) dX3_restore_103 ?_
          refine lv_topi (fun y_9 ey_9 => ?_)
          obtain rfl : y_9 = b5 15 k_6 := ey_9.trans (by rw [nI_clamp (show k_6 < 2 ^ 31 by omega)] <;> rfl)
          refine ms_5 (v := b5 15 k_6) (i := nI k_6) E hK hP hI hS (vp_in_nI (by omega) (by omega)) dX3_restore_104 (fun H locs hP hS => ?_)
          rw [nI_clamp (show k_6 < 2 ^ 31 by omega)] at hP
          have hP : va_P D vwCl (wM cI cB ad g5 t gl (uA (uA (uA b5 3 (upd (b5 3) k_6 (b5 13 k_6))) 4 (upd (b5 4) k_6 (b5 14 k_6))) 5 (upd (b5 5) k_6 (b5 15 k_6))) tb) H := hP
          refine lv_aload_n E.1 E.2.1 dX3_restore_105 rfl (lv_at hl 1 rfl) ?_
          refine mg_0_7 E hK hP in_3 w_19 dX3_restore_106 ?_
          refine lv_iload_n E.1 E.2.1 dX3_restore_109 rfl (lv_at hl 0 rfl) ?_
          refine lv_aload_n E.1 E.2.1 dX3_restore_110 rfl (lv_at hl 1 rfl) ?_
          refine mg_0_35 E hK hP in_3 w_20 dX3_restore_111 ?_
          refine lv_iload_n E.1 E.2.1 dX3_restore_114 rfl (lv_at hl 0 rfl) ?_
          refine ml_16 (i := nI k_6) E hK hP (vp_in_nI (by omega) (by omega)) dX3_restore_115 ?_
          refine lv_topi (fun y_10 ey_10 => ?_)
          obtain rfl : y_10 = b5 16 k_6 := ey_10.trans (by rw [nI_clamp (show k_6 < 2 ^ 31 by omega)] <;> rfl)
          refine ms_6 (v := b5 16 k_6) (i := nI k_6) E hK hP hI hS (vp_in_nI (by omega) (by omega)) dX3_restore_116 (fun H locs hP hS => ?_)
          rw [nI_clamp (show k_6 < 2 ^ 31 by omega)] at hP
          have hP : va_P D vwCl (wM cI cB ad g5 t gl (uA (uA (uA (uA b5 3 (upd (b5 3) k_6 (b5 13 k_6))) 4 (upd (b5 4) k_6 (b5 14 k_6))) 5 (upd (b5 5) k_6 (b5 15 k_6))) 6 (upd (b5 6) k_6 (b5 16 k_6))) tb) H := hP
          refine lv_aload_n E.1 E.2.1 dX3_restore_117 rfl (lv_at hl 1 rfl) ?_
          refine mg_0_13 E hK hP in_3 w_21 dX3_restore_118 ?_
          refine lv_iload_n E.1 E.2.1 dX3_restore_121 rfl (lv_at hl 0 rfl) ?_
          refine lv_aload_n E.1 E.2.1 dX3_restore_122 rfl (lv_at hl 1 rfl) ?_
          refine mg_0_36 E hK hP in_3 w_22 dX3_restore_123 ?_
          refine lv_iload_n E.1 E.2.1 dX3_restore_126 rfl (lv_at hl 0 rfl) ?_
          refine ml_17 (i := nI k_6) E hK hP (vp_in_nI (by omega) (by omega)) dX3_restore_127 ?_
          refine lv_topi (fun y_11 ey_11 => ?_)
          obtain rfl : y_11 = b5 17 k_6 := ey_11.trans (by rw [nI_clamp (show k_6 < 2 ^ 31 by omega)] <;> rfl)
          refine ms_7 (v := b5 17 k_6) (i := nI k_6) E hK hP hI hS (vp_in_nI (by omega) (by omega)) dX3_restore_128 (fun H locs hP hS => ?_)
          rw [nI_clamp (show k_6 < 2 ^ 31 by omega)] at hP
          have hP : va_P D vwCl (wM cI cB ad g5 t gl (uA (uA (uA (uA (uA b5 3 (upd (b5 3) k_6 (b5 13 k_6))) 4 (upd (b5 4) k_6 (b5 14 k_6))) 5 (upd (b5 5) k_6 (b5 15 k_6))) 6 (upd (b5 6) k_6 (b5 16 k_6))) 7 (upd (b5 7) k_6 (b5 17 k_6))) tb) H := hP
          refine lv_aload_n E.1 E.2.1 dX3_restore_129 rfl (lv_at hl 1 rfl) ?_
          refine mg_0_14 E hK hP in_3 w_23 dX3_restore_130 ?_
          refine lv_iload_n E.1 E.2.1 dX3_restore_133 rfl (lv_at hl 0 rfl) ?_
          refine lv_aload_n E.1 E.2.1 dX3_restore_134 rfl (lv_at hl 1 rfl) ?_
          refine mg_0_37 E hK hP in_3 w_24 dX3_restore_135 ?_
          refine lv_iload_n E.1 E.2.1 dX3_restore_138 rfl (lv_at hl 0 rfl) ?_
          refine ml_18 (i := nI k_6) E hK hP (vp_in_nI (by omega) (by omega)) dX3_restore_139 ?_
          refine lv_topi (fun y_12 ey_12 => ?_)
          obtain rfl : y_12 = b5 18 k_6 := ey_12.trans (by rw [nI_clamp (show k_6 < 2 ^ 31 by omega)] <;> rfl)
          refine ms_8 (v := b5 18 k_6) (i := nI k_6) E hK hP hI hS (vp_in_nI (by omega) (by omega)) dX3_restore_140 (fun H locs hP hS => ?_)
          rw [nI_clamp (show k_6 < 2 ^ 31 by omega)] at hP
          have hP : va_P D vwCl (wM cI cB ad g5 t gl (uA (uA (uA (uA (uA (uA b5 3 (upd (b5 3) k_6 (b5 13 k_6))) 4 (upd (b5 4) k_6 (b5 14 k_6))) 5 (upd (b5 5) k_6 (b5 15 k_6))) 6 (upd (b5 6) k_6 (b5 16 k_6))) 7 (upd (b5 7) k_6 (b5 17 k_6))) 8 (upd (b5 8) k_6 (b5 18 k_6))) tb) H := hP
          refine lv_aload_n E.1 E.2.1 dX3_restore_141 rfl (lv_at hl 1 rfl) ?_
          refine mg_0_15 E hK hP in_3 w_25 dX3_restore_142 ?_
          refine lv_iload_n E.1 E.2.1 dX3_restore_145 rfl (lv_at hl 0 rfl) ?_
          refine lv_aload_n E.1 E.2.1 dX3_restore_146 rfl (lv_at hl 1 rfl) ?_
          refine mg_0_38 E hK hP in_3 w_26 dX3_restore_147 ?_
          refine lv_iload_n E.1 E.2.1 dX3_restore_150 rfl (lv_at hl 0 rfl) ?_
          refine ml_19 (i := nI k_6) E hK hP (vp_in_nI (by omega) (by omega)) dX3_restore_151 ?_
          refine lv_topi (fun y_13 ey_13 => ?_)
          obtain rfl : y_13 = b5 19 k_6 := ey_13.trans (by rw [nI_clamp (show k_6 < 2 ^ 31 by omega)] <;> rfl)
          refine ms_9 (v := b5 19 k_6) (i := nI k_6) E hK hP hI hS (vp_in_nI (by omega) (by omega)) dX3_restore_152 (fun H locs hP hS => ?_)
          rw [nI_clamp (show k_6 < 2 ^ 31 by omega)] at hP
          have hP : va_P D vwCl (wM cI cB ad g5 t gl (uA (uA (uA (uA (uA (uA (uA b5 3 (upd (b5 3) k_6 (b5 13 k_6))) 4 (upd (b5 4) k_6 (b5 14 k_6))) 5 (upd (b5 5) k_6 (b5 15 k_6))) 6 (upd (b5 6) k_6 (b5 16 k_6))) 7 (upd (b5 7) k_6 (b5 17 k_6))) 8 (upd (b5 8) k_6 (b5 18 k_6))) 9 (upd (b5 9) k_6 (b5 19 k_6))) tb) H := hP
          refine lv_iinc (v := nI (k_6 + 1)) (k := 0) (lv' := [(1, .int (nI (k_6 + 1))), (0, .ref (ad 0))]) E.1 E.2.1 dX3_restore_153 hl rfl (nI_1 k_6) (by decide) rfl (fun ls hl => ?_)
          refine lv_goto (tgt := 63) E.1 E.2.1 dX3_restore_156 (by decide) ?_
          rw [show FX3_restore_L63 t gl tb n z c (d_5 + 1) k_6 g5 b5 = FX3_restore_L63 t gl tb n z c d_5 (k_6 + 1) g5 (uA (uA (uA (uA (uA (uA (uA b5 3 (upd (b5 3) k_6 (b5 13 k_6))) 4 (upd (b5 4) k_6 (b5 14 k_6))) 5 (upd (b5 5) k_6 (b5 15 k_6))) 6 (upd (b5 6) k_6 (b5 16 k_6))) 7 (upd (b5 7) k_6 (b5 17 k_6))) 8 (upd (b5 8) k_6 (b5 18 k_6))) 9 (upd (b5 9) k_6 (b5 19 k_6))) from by rw [FX3_restore_L63]]
          exact ih5 (k_6 + 1) g5 (uA (uA (uA (uA (uA (uA (uA b5 3 (upd (b5 3) k_6 (b5 13 k_6))) 4 (upd (b5 4) k_6 (b5 14 k_6))) 5 (upd (b5 5) k_6 (b5 15 k_6))) 6 (upd (b5 6) k_6 (b5 16 k_6))) 7 (upd (b5 7) k_6 (b5 17 k_6))) 8 (upd (b5 8) k_6 (b5 18 k_6))) 9 (upd (b5 9) k_6 (b5 19 k_6))) _ _ ls (by omega) hP hS (lv_sub hl [0, 1] rfl)
      rw [show FX3_restore g t gl b tb n z c = FX3_restore_L63 t gl tb n z c 6 0 (upd (upd (upd (upd (upd g 8 (g 27)) 9 (g 28)) 10 (g 29)) 11 (g 30)) 12 (g 31)) b from by rw [FX3_restore, if_neg h4, if_pos h15]]
      have hl : lv_has ls 2 [(1, .int (nI 0)), (0, .ref (ad 0))] := lv_sub hl [0, 1] rfl
      exact loop5 _ _ (upd (upd (upd (upd (upd g 8 (g 27)) 9 (g 28)) 10 (g 29)) 11 (g 30)) 12 (g 31)) b _ _ ls (by omega) hP hS (lv_sub hl [0, 1] rfl)
    · have h15 := h15
      refine lv_bipush (v := (-103)) E.1 E.2.1 dX3_restore_18 (by decide) ?_
      exact W.iret (v := (-103)) E.1 E.2.1 hr (fun tt ht _ => ⟨⟨(-103), (g, t, gl, b, tb), rfl, (by rw [FX3_restore, if_neg h4, if_neg h15]), (show va_P D vwCl (wM cI cB ad g t gl b tb) tt.heap from by rw [ht]; exact hP)⟩, hS.F ht⟩) hS.2.2 dX3_restore_20
def FX3_mix (g : Nat → Int32) (t : Nat → Int32) (gl : Nat → Int64) (b : Nat → Nat → Int32) (tb : Nat → Nat → Int32) (n : Nat) (z : Nat) (c : Nat) (p0 : Int64) : SM := (g, t, uL gl 39 ((31 * (gl 39)) + p0), b, tb)
set_option maxHeartbeats 4000000 in
set_option maxRecDepth 100000 in
/-- h becomes 31 h + v -/
theorem c_X3_mix (l : Launch) (D : va_G) (cI cB : ClassId) (ad : Nat → Nat) (g t : Nat → Int32) (gl : Nat → Int64) (b tb : Nat → Nat → Int32) (n z c : Nat) (hM : IM n z c g b) (hI : wI 20 ad) (p0 : Int64) : Met l yX3_mix wsX3_mix ({ frames := 0, cells := 0, slots := 0, locals := 0 }) (GPc D cI cB (wM cI cB ad g t gl b tb) [.ref (ad 0), .long p0]) (va_Qv (fun u : SM => u = FX3_mix g t gl b tb n z c p0) (fun u t => va_P D vwCl (wM cI cB ad u.1 u.2.1 u.2.2.1 u.2.2.2.1 u.2.2.2.2) t.heap) (wA 20 ad)) 0 0 (wA 20 ad) := by
  refine Met.ofW (cc := cX3_mix) (maxL := 3) (ret := none) (by decide) rfl ?_
  intro p e s m args below meth cd s₁ B hml hv
  obtain ⟨rfl, hP, hK⟩ := hv
  have hts := atoms_spec (ws := wsX3_mix) B.pre
  have E : CallFix p m cd cX3_mix 3 s _ wsX3_mix RX3 := ⟨B.exec, B.bytes, hml, findClass_of_methodNamed B.named, hts⟩
  have hr := B.returns
  have hlocks := B.notSynchronized
  have h2n := pow6 (n := n) (by have := hM.2.1; omega)
  obtain ⟨hn, hn6, hz, hz21, hc, hc6, hfs⟩ := id hM
  have hS : va_S (wA 20 ad) s.heap s.heap [] := va_S.rf
  have in_3 : ∀ w ∈ wsX30, w ∈ wsX3_mix := fun _ h => List.mem_cons_of_mem _ (List.mem_append_right _ h)
  have w_0 : (Cond.constantLong RX3 232 31).before _ s = true := hts _ (by decide +kernel)
  have w_1 : (Cond.fieldLink RX3 234 "SnowTermModel" "h" "J").before _ s = true := hts _ (by decide +kernel)
  have hl := lv_entry ([.ref (ad 0), .long p0]) (n := 3) (Nat.le_of_ble_eq_true rfl)
  rw [lg_entry_eq]
  generalize (lg_sl ([.ref (ad 0), .long p0]) ++ List.replicate (3 - (lg_sl ([.ref (ad 0), .long p0])).length) Slot.unset).toArray = ls at hl ⊢
  have hl : lv_has ls 3 [(0, .ref (ad 0)), (1, .long p0)] := hl
  refine lv_aload_n E.1 E.2.1 dX3_mix_0 rfl (lv_at hl 0 rfl) ?_
  refine lv_ldc2 (v := 31) E.1 E.2.1 E.2.2.2.1 w_0 dX3_mix_1 ?_
  refine lv_aload_n E.1 E.2.1 dX3_mix_4 rfl (lv_at hl 0 rfl) ?_
  refine mg_0_39 E hK hP in_3 w_1 dX3_mix_5 ?_
  refine lv_lmul (x := 31) (y := gl 39) E.1 E.2.1 dX3_mix_8 ?_
  refine lv_lload_n E.1 E.2.1 dX3_mix_9 rfl (lv_at hl 1 rfl) ?_
  refine lv_ladd (x := 31 * (gl 39)) (y := p0) E.1 E.2.1 dX3_mix_10 ?_
  refine mp_0_39 (v := (31 * (gl 39)) + p0) E hK hP in_3 w_1 hI hS dX3_mix_11 (fun H locs hP hS => ?_)
  exact W.vret E.1 E.2.1 hr (fun tt ht _ => ⟨⟨(g, t, uL gl 39 ((31 * (gl 39)) + p0), b, tb), rfl, (by rw [FX3_mix]), (show va_P D vwCl (wM cI cB ad g t (uL gl 39 ((31 * (gl 39)) + p0)) b tb) tt.heap from by rw [ht]; exact hP)⟩, hS.F ht⟩) hS.2.2 dX3_mix_14
theorem kp_mix_g (g t : Nat → Int32) (gl : Nat → Int64) (b tb : Nat → Nat → Int32) (n z c : Nat) (p0 : Int64) : (FX3_mix g t gl b tb n z c p0).1 = g := rfl
theorem kp_mix_t (g t : Nat → Int32) (gl : Nat → Int64) (b tb : Nat → Nat → Int32) (n z c : Nat) (p0 : Int64) : (FX3_mix g t gl b tb n z c p0).2.1 = t := rfl
theorem kp_mix_b (g t : Nat → Int32) (gl : Nat → Int64) (b tb : Nat → Nat → Int32) (n z c : Nat) (p0 : Int64) : (FX3_mix g t gl b tb n z c p0).2.2.2.1 = b := rfl
theorem kp_mix_tb (g t : Nat → Int32) (gl : Nat → Int64) (b tb : Nat → Nat → Int32) (n z c : Nat) (p0 : Int64) : (FX3_mix g t gl b tb n z c p0).2.2.2.2 = tb := rfl

def FX3_digest_L181 (g : Nat → Int32) (b : Nat → Nat → Int32) (n : Nat) (z : Nat) (c : Nat) : Nat → Nat → (Nat → Int32) → (Nat → Int64) → (Nat → Nat → Int32) → Int64 × SM
  | 0, k_9, t8, gl8, tb8 => (gl8 39, g, t8, gl8, b, tb8)
  | d_8 + 1, k_9, t8, gl8, tb8 => FX3_digest_L181 g b n z c d_8 (k_9 + 1) t8 ((FX3_mix g t8 gl8 b tb8 n z c ((FX3_howMany g b tb8 n z c (nI k_9)).toInt64)).2.2.1) tb8
def FX3_digest_L154 (g : Nat → Int32) (b : Nat → Nat → Int32) (n : Nat) (z : Nat) (c : Nat) : Nat → Nat → (Nat → Int32) → (Nat → Int64) → (Nat → Nat → Int32) → Int64 × SM
  | 0, k_6, t5, gl5, tb5 => FX3_digest_L181 g b n z c 10 0 t5 gl5 tb5
  | d_5 + 1, k_6, t5, gl5, tb5 => FX3_digest_L154 g b n z c d_5 (k_6 + 1) t5 ((FX3_mix g t5 gl5 b tb5 n z c ((b 10 k_6).toInt64)).2.2.1) tb5
def FX3_digest_L90 (g : Nat → Int32) (b : Nat → Nat → Int32) (n : Nat) (z : Nat) (c : Nat) : Nat → Nat → (Nat → Int32) → (Nat → Int64) → (Nat → Nat → Int32) → Int64 × SM
  | 0, k_21, t20, gl20, tb20 => FX3_digest_L154 g b n z c z 0 t20 ((FX3_mix g t20 ((FX3_mix g t20 ((FX3_mix g t20 ((FX3_mix g t20 gl20 b tb20 n z c ((FX3_errorNow g b tb20 n z c 0).toInt64)).2.2.1) b tb20 n z c ((FX3_errorNow g b tb20 n z c 1).toInt64)).2.2.1) b tb20 n z c ((FX3_sunsNow g b tb20 n z c).toInt64)).2.2.1) b tb20 n z c ((FX3_lookNow g b tb20 n z c).toInt64)).2.2.1) tb20
  | d_20 + 1, k_21, t20, gl20, tb20 => FX3_digest_L90 g b n z c d_20 (k_21 + 1) ((FX3_planNow g t20 gl20 b tb20 n z c 20 2 (nI k_21)).2.2.1) ((FX3_mix g ((FX3_planNow g t20 gl20 b tb20 n z c 20 2 (nI k_21)).2.2.1) gl20 b ((FX3_planNow g t20 gl20 b tb20 n z c 20 2 (nI k_21)).2.2.2.2.2) n z c (((FX3_planNow g t20 gl20 b tb20 n z c 20 2 (nI k_21)).1).toInt64)).2.2.1) ((FX3_planNow g t20 gl20 b tb20 n z c 20 2 (nI k_21)).2.2.2.2.2)
def FX3_digest_L9 (g : Nat → Int32) (b : Nat → Nat → Int32) (n : Nat) (z : Nat) (c : Nat) : Nat → Nat → (Nat → Int32) → (Nat → Int64) → (Nat → Nat → Int32) → Int64 × SM
  | 0, k_2, t1, gl1, tb1 => (if nI n ≤ 0 then FX3_digest_L154 g b n z c z 0 t1 gl1 tb1 else FX3_digest_L90 g b n z c 4 0 t1 gl1 tb1)
  | d_1 + 1, k_2, t1, gl1, tb1 => FX3_digest_L9 g b n z c d_1 (k_2 + 1) t1 ((FX3_mix g t1 ((FX3_mix g t1 ((FX3_mix g t1 ((FX3_mix g t1 ((FX3_mix g t1 ((FX3_mix g t1 ((FX3_mix g t1 ((FX3_mix g t1 ((FX3_mix g t1 ((FX3_mix g t1 gl1 b tb1 n z c ((FX3_siteNow g b tb1 n z c (nI k_2) 0).toInt64)).2.2.1) b tb1 n z c ((FX3_siteNow g b tb1 n z c (nI k_2) 1).toInt64)).2.2.1) b tb1 n z c ((FX3_siteNow g b tb1 n z c (nI k_2) 2).toInt64)).2.2.1) b tb1 n z c ((FX3_siteNow g b tb1 n z c (nI k_2) 3).toInt64)).2.2.1) b tb1 n z c ((FX3_siteNow g b tb1 n z c (nI k_2) 4).toInt64)).2.2.1) b tb1 n z c ((FX3_siteNow g b tb1 n z c (nI k_2) 5).toInt64)).2.2.1) b tb1 n z c ((FX3_siteNow g b tb1 n z c (nI k_2) 6).toInt64)).2.2.1) b tb1 n z c ((FX3_needOf g b tb1 n z c (nI k_2) 0).toInt64)).2.2.1) b tb1 n z c ((FX3_needOf g b tb1 n z c (nI k_2) 1).toInt64)).2.2.1) b tb1 n z c ((FX3_needOf g b tb1 n z c (nI k_2) 5).toInt64)).2.2.1) tb1
def FX3_digest (g : Nat → Int32) (t : Nat → Int32) (gl : Nat → Int64) (b : Nat → Nat → Int32) (tb : Nat → Nat → Int32) (n : Nat) (z : Nat) (c : Nat) : Int64 × SM := FX3_digest_L9 g b n z c n 0 t (uL gl 39 1061) tb
set_option maxHeartbeats 4000000 in
set_option maxRecDepth 100000 in
/-- digest -/
theorem c_X3_digest (l : Launch) (D : va_G) (cI cB : ClassId) (ad : Nat → Nat) (g t : Nat → Int32) (gl : Nat → Int64) (b tb : Nat → Nat → Int32) (n z c : Nat) (hM : IM n z c g b) (hI : wI 20 ad)  : Met l yX3_digest wsX3_digest ({ frames := 5, cells := 0, slots := 0, locals := 120 }) (GPc D cI cB (wM cI cB ad g t gl b tb) [.ref (ad 0)]) (va_Ql (fun (r : Int64) (u : SM) => (r, u) = FX3_digest g t gl b tb n z c) (fun u t => va_P D vwCl (wM cI cB ad u.1 u.2.1 u.2.2.1 u.2.2.2.1 u.2.2.2.2) t.heap) (wA 20 ad)) 0 0 (wA 20 ad) := by
  refine Met.ofW (cc := cX3_digest) (maxL := 3) (ret := (some .long)) (by decide) rfl ?_
  intro p e s m args below meth cd s₁ B hml hv
  obtain ⟨rfl, hP, hK⟩ := hv
  have hts := atoms_spec (ws := wsX3_digest) B.pre
  have E : CallFix p m cd cX3_digest 3 s _ wsX3_digest RX3 := ⟨B.exec, B.bytes, hml, findClass_of_methodNamed B.named, hts⟩
  have hr := B.returns
  have hlocks := B.notSynchronized
  have h2n := pow6 (n := n) (by have := hM.2.1; omega)
  obtain ⟨hn, hn6, hz, hz21, hc, hc6, hfs⟩ := id hM
  have hS : va_S (wA 20 ad) s.heap s.heap [] := va_S.rf
  have in_3 : ∀ w ∈ wsX30, w ∈ wsX3_digest := fun _ h => List.mem_cons_of_mem _ (List.mem_append_right _ h)
  have w_0 : (Cond.constantLong RX3 237 1061).before _ s = true := hts _ (by decide +kernel)
  have w_1 : (Cond.fieldLink RX3 234 "SnowTermModel" "h" "J").before _ s = true := hts _ (by decide +kernel)
  have w_2 : (Cond.fieldLink RX3 94 "SnowTermModel" "sites" "I").before _ s = true := hts _ (by decide +kernel)
  have w_3 : (Cond.fieldLink RX3 72 "SnowTermModel" "pageLength" "I").before _ s = true := hts _ (by decide +kernel)
  have w_4 : (Cond.fieldLink RX3 37 "SnowTermModel" "page" "[B").before _ s = true := hts _ (by decide +kernel)
  have hl := lv_entry ([.ref (ad 0)]) (n := 3) (Nat.le_of_ble_eq_true rfl)
  rw [lg_entry_eq]
  generalize (lg_sl ([.ref (ad 0)]) ++ List.replicate (3 - (lg_sl ([.ref (ad 0)])).length) Slot.unset).toArray = ls at hl ⊢
  have hl : lv_has ls 3 [(0, .ref (ad 0))] := hl
  refine lv_aload_n E.1 E.2.1 dX3_digest_0 rfl (lv_at hl 0 rfl) ?_
  refine lv_ldc2 (v := 1061) E.1 E.2.1 E.2.2.2.1 w_0 dX3_digest_1 ?_
  refine mp_0_39 (v := 1061) E hK hP in_3 w_1 hI hS dX3_digest_4 (fun H locs hP hS => ?_)
  refine lv_iconst (v := 0) E.1 E.2.1 dX3_digest_7 (by decide) ?_
  refine lv_istore_n (lv' := [(1, .int 0), (0, .ref (ad 0))]) E.1 E.2.1 dX3_digest_8 rfl hl (by decide) rfl (fun ls hl => ?_)
  have loop1 : ∀ (d_1 k_2 : Nat) (t1 : Nat → Int32) (gl1 : Nat → Int64) (tb1 : Nat → Nat → Int32) (H : Heap) (locs : List Loc) (ls : Array Slot), k_2 + d_1 = n → va_P D vwCl (wM cI cB ad g t1 gl1 b tb1) H → va_S (wA 20 ad) s.heap H locs → lv_has ls 3 [(1, .int (nI k_2)), (0, .ref (ad 0))] → W p l e (headSpec wsX3_digest { frames := 5, cells := 0, slots := 0, locals := 120 }).room s m ([.ref (ad 0)] : List Value).toArray below meth cd H locs 0 0 (MQ below (va_Ql (fun (r : Int64) (u : SM) => (r, u) = FX3_digest_L9 g b n z c d_1 k_2 t1 gl1 tb1) (fun u t => va_P D vwCl (wM cI cB ad u.1 u.2.1 u.2.2.1 u.2.2.2.1 u.2.2.2.2) t.heap) (wA 20 ad)) ([.ref (ad 0)] : List Value).toArray s 0 0 (wA 20 ad)) (F0 m 9 ls []) := by
    intro d_1
    induction d_1 with
    | zero =>
      intro k_2 t1 gl1 tb1 H locs ls hk1 hP hS hl
      refine lv_iload_n E.1 E.2.1 dX3_digest_9 rfl (lv_at hl 0 rfl) ?_
      refine lv_aload_n E.1 E.2.1 dX3_digest_10 rfl (lv_at hl 1 rfl) ?_
      refine mg_0_1 E hK hP in_3 w_2 dX3_digest_11 ?_
      refine lv_topi (fun y_3 ey_3 => ?_)
      obtain rfl : y_3 = nI n := ey_3.trans (hn)
      refine lv_icmp_ge (x := nI k_2) (y := nI n) (tgt := 81) E.1 E.2.1 dX3_digest_14 (by decide) (fun _ => ?_) (fun h9 => absurd (nI_le (a := n) (b := k_2) (by omega) (by omega)) h9)
      refine lv_aload_n E.1 E.2.1 dX3_digest_81 rfl (lv_at hl 1 rfl) ?_
      refine mg_0_1 E hK hP in_3 w_2 dX3_digest_82 ?_
      refine lv_topi (fun y_4 ey_4 => ?_)
      obtain rfl : y_4 = nI n := ey_4.trans (hn)
      refine lv_if_le (x := nI n) (tgt := 152) E.1 E.2.1 dX3_digest_85 (by decide) (fun h85 => ?_) (fun h85 => ?_)
      · have h85 := h85
        refine lv_iconst (v := 0) E.1 E.2.1 dX3_digest_152 (by decide) ?_
        refine lv_istore_n (lv' := [(1, .int 0), (0, .ref (ad 0))]) E.1 E.2.1 dX3_digest_153 rfl hl (by decide) rfl (fun ls hl => ?_)
        have loop5 : ∀ (d_5 k_6 : Nat) (t5 : Nat → Int32) (gl5 : Nat → Int64) (tb5 : Nat → Nat → Int32) (H : Heap) (locs : List Loc) (ls : Array Slot), k_6 + d_5 = z → va_P D vwCl (wM cI cB ad g t5 gl5 b tb5) H → va_S (wA 20 ad) s.heap H locs → lv_has ls 3 [(1, .int (nI k_6)), (0, .ref (ad 0))] → W p l e (headSpec wsX3_digest { frames := 5, cells := 0, slots := 0, locals := 120 }).room s m ([.ref (ad 0)] : List Value).toArray below meth cd H locs 0 0 (MQ below (va_Ql (fun (r : Int64) (u : SM) => (r, u) = FX3_digest_L154 g b n z c d_5 k_6 t5 gl5 tb5) (fun u t => va_P D vwCl (wM cI cB ad u.1 u.2.1 u.2.2.1 u.2.2.2.1 u.2.2.2.2) t.heap) (wA 20 ad)) ([.ref (ad 0)] : List Value).toArray s 0 0 (wA 20 ad)) (F0 m 154 ls []) := by
          intro d_5
          induction d_5 with
          | zero =>
            intro k_6 t5 gl5 tb5 H locs ls hk5 hP hS hl
            refine lv_iload_n E.1 E.2.1 dX3_digest_154 rfl (lv_at hl 0 rfl) ?_
            refine lv_aload_n E.1 E.2.1 dX3_digest_155 rfl (lv_at hl 1 rfl) ?_
            refine mg_0_16 E hK hP in_3 w_3 dX3_digest_156 ?_
            refine lv_topi (fun y_7 ey_7 => ?_)
            obtain rfl : y_7 = nI z := ey_7.trans (hz)
            refine lv_icmp_ge (x := nI k_6) (y := nI z) (tgt := 179) E.1 E.2.1 dX3_digest_159 (by decide) (fun _ => ?_) (fun h9 => absurd (nI_le (a := z) (b := k_6) (by omega) (by omega)) h9)
            refine lv_iconst (v := 0) E.1 E.2.1 dX3_digest_179 (by decide) ?_
            refine lv_istore_n (lv' := [(1, .int 0), (0, .ref (ad 0))]) E.1 E.2.1 dX3_digest_180 rfl hl (by decide) rfl (fun ls hl => ?_)
            have loop8 : ∀ (d_8 k_9 : Nat) (t8 : Nat → Int32) (gl8 : Nat → Int64) (tb8 : Nat → Nat → Int32) (H : Heap) (locs : List Loc) (ls : Array Slot), k_9 + d_8 = 10 → va_P D vwCl (wM cI cB ad g t8 gl8 b tb8) H → va_S (wA 20 ad) s.heap H locs → lv_has ls 3 [(1, .int (nI k_9)), (0, .ref (ad 0))] → W p l e (headSpec wsX3_digest { frames := 5, cells := 0, slots := 0, locals := 120 }).room s m ([.ref (ad 0)] : List Value).toArray below meth cd H locs 0 0 (MQ below (va_Ql (fun (r : Int64) (u : SM) => (r, u) = FX3_digest_L181 g b n z c d_8 k_9 t8 gl8 tb8) (fun u t => va_P D vwCl (wM cI cB ad u.1 u.2.1 u.2.2.1 u.2.2.2.1 u.2.2.2.2) t.heap) (wA 20 ad)) ([.ref (ad 0)] : List Value).toArray s 0 0 (wA 20 ad)) (F0 m 181 ls []) := by
              intro d_8
              induction d_8 with
              | zero =>
                intro k_9 t8 gl8 tb8 H locs ls hk8 hP hS hl
                refine lv_iload_n E.1 E.2.1 dX3_digest_181 rfl (lv_at hl 0 rfl) ?_
                refine lv_bipush (v := 10) E.1 E.2.1 dX3_digest_182 (by decide) ?_
                refine lv_icmp_ge (x := nI k_9) (y := 10) (tgt := 203) E.1 E.2.1 dX3_digest_184 (by decide) (fun _ => ?_) (fun h9 => absurd (nI_le (a := 10) (b := k_9) (by omega) (by omega)) h9)
                refine lv_aload_n E.1 E.2.1 dX3_digest_203 rfl (lv_at hl 1 rfl) ?_
                refine mg_0_39 E hK hP in_3 w_1 dX3_digest_204 ?_
                exact W.lret (v := gl8 39) E.1 E.2.1 hr (fun tt ht _ => ⟨⟨gl8 39, (g, t8, gl8, b, tb8), rfl, (by rw [FX3_digest_L181]), (show va_P D vwCl (wM cI cB ad g t8 gl8 b tb8) tt.heap from by rw [ht]; exact hP)⟩, hS.F ht⟩) hS.2.2 dX3_digest_207
              | succ d_8 ih8 =>
                intro k_9 t8 gl8 tb8 H locs ls hk8 hP hS hl
                refine lv_iload_n E.1 E.2.1 dX3_digest_181 rfl (lv_at hl 0 rfl) ?_
                refine lv_bipush (v := 10) E.1 E.2.1 dX3_digest_182 (by decide) ?_
                refine lv_icmp_ge (x := nI k_9) (y := 10) (tgt := 203) E.1 E.2.1 dX3_digest_184 (by decide) (fun h9 => absurd h9 (nI_ge (a := k_9) (b := 10) (by omega) (by omega))) (fun _ => ?_)
                refine lv_aload_n E.1 E.2.1 dX3_digest_187 rfl (lv_at hl 1 rfl) ?_
                refine lv_aload_n E.1 E.2.1 dX3_digest_188 rfl (lv_at hl 1 rfl) ?_
                refine lv_iload_n E.1 E.2.1 dX3_digest_189 rfl (lv_at hl 0 rfl) ?_
                refine g_VR (As := [.int (nI k_9)]) (rest := [.ref (ad 0)]) E hK hP (c_X3_howMany l D cI cB ad g t8 gl8 b tb8 n z c hM (nI k_9)) (cwV 1 E.2.2.2.2 gX3_digest_X3_howMany rfl rfl rfl (by decide +kernel) ⟨Nat.le_of_ble_eq_true rfl, Nat.le_of_ble_eq_true rfl⟩) (rm0x hK hP) rfl hl.1 rfl (Nat.le_of_ble_eq_true rfl) dX3_digest_190 ⟨Nat.zero_le _, Nat.zero_le _⟩ ?_
                refine lv_i2l E.1 E.2.1 dX3_digest_193 rfl ?_
                refine g_VWv (As := [.long ((FX3_howMany g b tb8 n z c (nI k_9)).toInt64)]) (rest := []) E hK hP hS (fun q h => h) (c_X3_mix l D cI cB ad g t8 gl8 b tb8 n z c hM hI ((FX3_howMany g b tb8 n z c (nI k_9)).toInt64)) (cwV 1 E.2.2.2.2 gX3_digest_X3_mix rfl rfl rfl (by decide +kernel) ⟨Nat.le_of_ble_eq_true rfl, Nat.le_of_ble_eq_true rfl⟩) (rm0x hK hP) rfl hl.1 rfl (Nat.le_of_ble_eq_true rfl) dX3_digest_194 ⟨Nat.zero_le _, Nat.zero_le _⟩ (fun u_10 H1 locs hp_12 hP1 hq_13 hS => ?_)
                obtain rfl : u_10 = FX3_mix g t8 gl8 b tb8 n z c ((FX3_howMany g b tb8 n z c (nI k_9)).toInt64) := hp_12
                have hP : va_P D vwCl (wM cI cB ad ((FX3_mix g t8 gl8 b tb8 n z c ((FX3_howMany g b tb8 n z c (nI k_9)).toInt64)).1) ((FX3_mix g t8 gl8 b tb8 n z c ((FX3_howMany g b tb8 n z c (nI k_9)).toInt64)).2.1) ((FX3_mix g t8 gl8 b tb8 n z c ((FX3_howMany g b tb8 n z c (nI k_9)).toInt64)).2.2.1) ((FX3_mix g t8 gl8 b tb8 n z c ((FX3_howMany g b tb8 n z c (nI k_9)).toInt64)).2.2.2.1) ((FX3_mix g t8 gl8 b tb8 n z c ((FX3_howMany g b tb8 n z c (nI k_9)).toInt64)).2.2.2.2)) H1 := hP1
                clear hP1
                generalize H1 = H at hP hS ⊢
                rw [show (FX3_mix g t8 gl8 b tb8 n z c ((FX3_howMany g b tb8 n z c (nI k_9)).toInt64)).1 = g from kp_mix_g ..] at hP
                rw [show (FX3_mix g t8 gl8 b tb8 n z c ((FX3_howMany g b tb8 n z c (nI k_9)).toInt64)).2.1 = t8 from kp_mix_t ..] at hP
                rw [show (FX3_mix g t8 gl8 b tb8 n z c ((FX3_howMany g b tb8 n z c (nI k_9)).toInt64)).2.2.2.1 = b from kp_mix_b ..] at hP
                rw [show (FX3_mix g t8 gl8 b tb8 n z c ((FX3_howMany g b tb8 n z c (nI k_9)).toInt64)).2.2.2.2 = tb8 from kp_mix_tb ..] at hP
                have hP : va_P D vwCl (wM cI cB ad g t8 ((FX3_mix g t8 gl8 b tb8 n z c ((FX3_howMany g b tb8 n z c (nI k_9)).toInt64)).2.2.1) b tb8) H := hP
                refine lv_iinc (v := nI (k_9 + 1)) (k := 0) (lv' := [(1, .int (nI (k_9 + 1))), (0, .ref (ad 0))]) E.1 E.2.1 dX3_digest_197 hl rfl (nI_1 k_9) (by decide) rfl (fun ls hl => ?_)
                refine lv_goto (tgt := 181) E.1 E.2.1 dX3_digest_200 (by decide) ?_
                rw [show FX3_digest_L181 g b n z c (d_8 + 1) k_9 t8 gl8 tb8 = FX3_digest_L181 g b n z c d_8 (k_9 + 1) t8 ((FX3_mix g t8 gl8 b tb8 n z c ((FX3_howMany g b tb8 n z c (nI k_9)).toInt64)).2.2.1) tb8 from by rw [FX3_digest_L181]]
                exact ih8 (k_9 + 1) t8 ((FX3_mix g t8 gl8 b tb8 n z c ((FX3_howMany g b tb8 n z c (nI k_9)).toInt64)).2.2.1) tb8 _ _ ls (by omega) hP hS (lv_sub hl [0, 1] rfl)
            rw [show FX3_digest_L154 g b n z c 0 k_6 t5 gl5 tb5 = FX3_digest_L181 g b n z c 10 0 t5 gl5 tb5 from by rw [FX3_digest_L154]]
            have hl : lv_has ls 3 [(1, .int (nI 0)), (0, .ref (ad 0))] := lv_sub hl [0, 1] rfl
            exact loop8 _ _ t5 gl5 tb5 _ _ ls (by omega) hP hS (lv_sub hl [0, 1] rfl)
          | succ d_5 ih5 =>
            intro k_6 t5 gl5 tb5 H locs ls hk5 hP hS hl
            refine lv_iload_n E.1 E.2.1 dX3_digest_154 rfl (lv_at hl 0 rfl) ?_
            refine lv_aload_n E.1 E.2.1 dX3_digest_155 rfl (lv_at hl 1 rfl) ?_
            refine mg_0_16 E hK hP in_3 w_3 dX3_digest_156 ?_
            refine lv_topi (fun y_14 ey_14 => ?_)
            obtain rfl : y_14 = nI z := ey_14.trans (hz)
            refine lv_icmp_ge (x := nI k_6) (y := nI z) (tgt := 179) E.1 E.2.1 dX3_digest_159 (by decide) (fun h9 => absurd h9 (nI_ge (a := k_6) (b := z) (by omega) (by omega))) (fun _ => ?_)
            refine lv_aload_n E.1 E.2.1 dX3_digest_162 rfl (lv_at hl 1 rfl) ?_
            refine lv_aload_n E.1 E.2.1 dX3_digest_163 rfl (lv_at hl 1 rfl) ?_
            refine mg_0_17 E hK hP in_3 w_4 dX3_digest_164 ?_
            refine lv_iload_n E.1 E.2.1 dX3_digest_167 rfl (lv_at hl 0 rfl) ?_
            refine ml_10 (i := nI k_6) E hK hP (vp_in_nI (by omega) (by omega)) dX3_digest_168 ?_
            refine lv_topi (fun y_15 ey_15 => ?_)
            obtain rfl : y_15 = b 10 k_6 := ey_15.trans (by rw [nI_clamp (show k_6 < 2 ^ 31 by omega)] <;> rfl)
            refine lv_i2l E.1 E.2.1 dX3_digest_169 rfl ?_
            refine g_VWv (As := [.long ((b 10 k_6).toInt64)]) (rest := []) E hK hP hS (fun q h => h) (c_X3_mix l D cI cB ad g t5 gl5 b tb5 n z c hM hI ((b 10 k_6).toInt64)) (cwV 1 E.2.2.2.2 gX3_digest_X3_mix rfl rfl rfl (by decide +kernel) ⟨Nat.le_of_ble_eq_true rfl, Nat.le_of_ble_eq_true rfl⟩) (rm0x hK hP) rfl hl.1 rfl (Nat.le_of_ble_eq_true rfl) dX3_digest_170 ⟨Nat.zero_le _, Nat.zero_le _⟩ (fun u_16 H1 locs hp_18 hP1 hq_19 hS => ?_)
            obtain rfl : u_16 = FX3_mix g t5 gl5 b tb5 n z c ((b 10 k_6).toInt64) := hp_18
            have hP : va_P D vwCl (wM cI cB ad ((FX3_mix g t5 gl5 b tb5 n z c ((b 10 k_6).toInt64)).1) ((FX3_mix g t5 gl5 b tb5 n z c ((b 10 k_6).toInt64)).2.1) ((FX3_mix g t5 gl5 b tb5 n z c ((b 10 k_6).toInt64)).2.2.1) ((FX3_mix g t5 gl5 b tb5 n z c ((b 10 k_6).toInt64)).2.2.2.1) ((FX3_mix g t5 gl5 b tb5 n z c ((b 10 k_6).toInt64)).2.2.2.2)) H1 := hP1
            clear hP1
            generalize H1 = H at hP hS ⊢
            rw [show (FX3_mix g t5 gl5 b tb5 n z c ((b 10 k_6).toInt64)).1 = g from kp_mix_g ..] at hP
            rw [show (FX3_mix g t5 gl5 b tb5 n z c ((b 10 k_6).toInt64)).2.1 = t5 from kp_mix_t ..] at hP
            rw [show (FX3_mix g t5 gl5 b tb5 n z c ((b 10 k_6).toInt64)).2.2.2.1 = b from kp_mix_b ..] at hP
            rw [show (FX3_mix g t5 gl5 b tb5 n z c ((b 10 k_6).toInt64)).2.2.2.2 = tb5 from kp_mix_tb ..] at hP
            have hP : va_P D vwCl (wM cI cB ad g t5 ((FX3_mix g t5 gl5 b tb5 n z c ((b 10 k_6).toInt64)).2.2.1) b tb5) H := hP
            refine lv_iinc (v := nI (k_6 + 1)) (k := 0) (lv' := [(1, .int (nI (k_6 + 1))), (0, .ref (ad 0))]) E.1 E.2.1 dX3_digest_173 hl rfl (nI_1 k_6) (by decide) rfl (fun ls hl => ?_)
            refine lv_goto (tgt := 154) E.1 E.2.1 dX3_digest_176 (by decide) ?_
            rw [show FX3_digest_L154 g b n z c (d_5 + 1) k_6 t5 gl5 tb5 = FX3_digest_L154 g b n z c d_5 (k_6 + 1) t5 ((FX3_mix g t5 gl5 b tb5 n z c ((b 10 k_6).toInt64)).2.2.1) tb5 from by rw [FX3_digest_L154]]
            exact ih5 (k_6 + 1) t5 ((FX3_mix g t5 gl5 b tb5 n z c ((b 10 k_6).toInt64)).2.2.1) tb5 _ _ ls (by omega) hP hS (lv_sub hl [0, 1] rfl)
        rw [show FX3_digest_L9 g b n z c 0 k_2 t1 gl1 tb1 = FX3_digest_L154 g b n z c z 0 t1 gl1 tb1 from by rw [FX3_digest_L9, if_pos h85]]
        have hl : lv_has ls 3 [(1, .int (nI 0)), (0, .ref (ad 0))] := lv_sub hl [0, 1] rfl
        exact loop5 _ _ t1 gl1 tb1 _ _ ls (by omega) hP hS (lv_sub hl [0, 1] rfl)
      · have h85 := h85
        refine lv_iconst (v := 0) E.1 E.2.1 dX3_digest_88 (by decide) ?_
        refine lv_istore_n (lv' := [(1, .int 0), (0, .ref (ad 0))]) E.1 E.2.1 dX3_digest_89 rfl hl (by decide) rfl (fun ls hl => ?_)
        have loop20 : ∀ (d_20 k_21 : Nat) (t20 : Nat → Int32) (gl20 : Nat → Int64) (tb20 : Nat → Nat → Int32) (H : Heap) (locs : List Loc) (ls : Array Slot), k_21 + d_20 = 4 → va_P D vwCl (wM cI cB ad g t20 gl20 b tb20) H → va_S (wA 20 ad) s.heap H locs → lv_has ls 3 [(1, .int (nI k_21)), (0, .ref (ad 0))] → W p l e (headSpec wsX3_digest { frames := 5, cells := 0, slots := 0, locals := 120 }).room s m ([.ref (ad 0)] : List Value).toArray below meth cd H locs 0 0 (MQ below (va_Ql (fun (r : Int64) (u : SM) => (r, u) = FX3_digest_L90 g b n z c d_20 k_21 t20 gl20 tb20) (fun u t => va_P D vwCl (wM cI cB ad u.1 u.2.1 u.2.2.1 u.2.2.2.1 u.2.2.2.2) t.heap) (wA 20 ad)) ([.ref (ad 0)] : List Value).toArray s 0 0 (wA 20 ad)) (F0 m 90 ls []) := by
          intro d_20
          induction d_20 with
          | zero =>
            intro k_21 t20 gl20 tb20 H locs ls hk20 hP hS hl
            refine lv_iload_n E.1 E.2.1 dX3_digest_90 rfl (lv_at hl 0 rfl) ?_
            refine lv_iconst (v := 4) E.1 E.2.1 dX3_digest_91 (by decide) ?_
            refine lv_icmp_ge (x := nI k_21) (y := 4) (tgt := 114) E.1 E.2.1 dX3_digest_92 (by decide) (fun _ => ?_) (fun h9 => absurd (nI_le (a := 4) (b := k_21) (by omega) (by omega)) h9)
            refine lv_aload_n E.1 E.2.1 dX3_digest_114 rfl (lv_at hl 1 rfl) ?_
            refine lv_aload_n E.1 E.2.1 dX3_digest_115 rfl (lv_at hl 1 rfl) ?_
            refine lv_iconst (v := 0) E.1 E.2.1 dX3_digest_116 (by decide) ?_
            refine g_VR (As := [.int 0]) (rest := [.ref (ad 0)]) E hK hP (c_X3_errorNow l D cI cB ad g t20 gl20 b tb20 n z c hM 0) (cwV 1 E.2.2.2.2 gX3_digest_X3_errorNow rfl rfl rfl (by decide +kernel) ⟨Nat.le_of_ble_eq_true rfl, Nat.le_of_ble_eq_true rfl⟩) (rm0x hK hP) rfl hl.1 rfl (Nat.le_of_ble_eq_true rfl) dX3_digest_117 ⟨Nat.zero_le _, Nat.zero_le _⟩ ?_
            refine lv_i2l E.1 E.2.1 dX3_digest_120 rfl ?_
            refine g_VWv (As := [.long ((FX3_errorNow g b tb20 n z c 0).toInt64)]) (rest := []) E hK hP hS (fun q h => h) (c_X3_mix l D cI cB ad g t20 gl20 b tb20 n z c hM hI ((FX3_errorNow g b tb20 n z c 0).toInt64)) (cwV 1 E.2.2.2.2 gX3_digest_X3_mix rfl rfl rfl (by decide +kernel) ⟨Nat.le_of_ble_eq_true rfl, Nat.le_of_ble_eq_true rfl⟩) (rm0x hK hP) rfl hl.1 rfl (Nat.le_of_ble_eq_true rfl) dX3_digest_121 ⟨Nat.zero_le _, Nat.zero_le _⟩ (fun u_22 H1 locs hp_24 hP1 hq_25 hS => ?_)
            obtain rfl : u_22 = FX3_mix g t20 gl20 b tb20 n z c ((FX3_errorNow g b tb20 n z c 0).toInt64) := hp_24
            have hP : va_P D vwCl (wM cI cB ad ((FX3_mix g t20 gl20 b tb20 n z c ((FX3_errorNow g b tb20 n z c 0).toInt64)).1) ((FX3_mix g t20 gl20 b tb20 n z c ((FX3_errorNow g b tb20 n z c 0).toInt64)).2.1) ((FX3_mix g t20 gl20 b tb20 n z c ((FX3_errorNow g b tb20 n z c 0).toInt64)).2.2.1) ((FX3_mix g t20 gl20 b tb20 n z c ((FX3_errorNow g b tb20 n z c 0).toInt64)).2.2.2.1) ((FX3_mix g t20 gl20 b tb20 n z c ((FX3_errorNow g b tb20 n z c 0).toInt64)).2.2.2.2)) H1 := hP1
            clear hP1
            generalize H1 = H at hP hS ⊢
            rw [show (FX3_mix g t20 gl20 b tb20 n z c ((FX3_errorNow g b tb20 n z c 0).toInt64)).1 = g from kp_mix_g ..] at hP
            rw [show (FX3_mix g t20 gl20 b tb20 n z c ((FX3_errorNow g b tb20 n z c 0).toInt64)).2.1 = t20 from kp_mix_t ..] at hP
            rw [show (FX3_mix g t20 gl20 b tb20 n z c ((FX3_errorNow g b tb20 n z c 0).toInt64)).2.2.2.1 = b from kp_mix_b ..] at hP
            rw [show (FX3_mix g t20 gl20 b tb20 n z c ((FX3_errorNow g b tb20 n z c 0).toInt64)).2.2.2.2 = tb20 from kp_mix_tb ..] at hP
            have hP : va_P D vwCl (wM cI cB ad g t20 ((FX3_mix g t20 gl20 b tb20 n z c ((FX3_errorNow g b tb20 n z c 0).toInt64)).2.2.1) b tb20) H := hP
            refine lv_aload_n E.1 E.2.1 dX3_digest_124 rfl (lv_at hl 1 rfl) ?_
            refine lv_aload_n E.1 E.2.1 dX3_digest_125 rfl (lv_at hl 1 rfl) ?_
            refine lv_iconst (v := 1) E.1 E.2.1 dX3_digest_126 (by decide) ?_
            refine g_VR (As := [.int 1]) (rest := [.ref (ad 0)]) E hK hP (c_X3_errorNow l D cI cB ad g t20 ((FX3_mix g t20 gl20 b tb20 n z c ((FX3_errorNow g b tb20 n z c 0).toInt64)).2.2.1) b tb20 n z c hM 1) (cwV 1 E.2.2.2.2 gX3_digest_X3_errorNow rfl rfl rfl (by decide +kernel) ⟨Nat.le_of_ble_eq_true rfl, Nat.le_of_ble_eq_true rfl⟩) (rm0x hK hP) rfl hl.1 rfl (Nat.le_of_ble_eq_true rfl) dX3_digest_127 ⟨Nat.zero_le _, Nat.zero_le _⟩ ?_
            refine lv_i2l E.1 E.2.1 dX3_digest_130 rfl ?_
            refine g_VWv (As := [.long ((FX3_errorNow g b tb20 n z c 1).toInt64)]) (rest := []) E hK hP hS (fun q h => h) (c_X3_mix l D cI cB ad g t20 ((FX3_mix g t20 gl20 b tb20 n z c ((FX3_errorNow g b tb20 n z c 0).toInt64)).2.2.1) b tb20 n z c hM hI ((FX3_errorNow g b tb20 n z c 1).toInt64)) (cwV 1 E.2.2.2.2 gX3_digest_X3_mix rfl rfl rfl (by decide +kernel) ⟨Nat.le_of_ble_eq_true rfl, Nat.le_of_ble_eq_true rfl⟩) (rm0x hK hP) rfl hl.1 rfl (Nat.le_of_ble_eq_true rfl) dX3_digest_131 ⟨Nat.zero_le _, Nat.zero_le _⟩ (fun u_26 H1 locs hp_28 hP1 hq_29 hS => ?_)
            obtain rfl : u_26 = FX3_mix g t20 ((FX3_mix g t20 gl20 b tb20 n z c ((FX3_errorNow g b tb20 n z c 0).toInt64)).2.2.1) b tb20 n z c ((FX3_errorNow g b tb20 n z c 1).toInt64) := hp_28
            have hP : va_P D vwCl (wM cI cB ad ((FX3_mix g t20 ((FX3_mix g t20 gl20 b tb20 n z c ((FX3_errorNow g b tb20 n z c 0).toInt64)).2.2.1) b tb20 n z c ((FX3_errorNow g b tb20 n z c 1).toInt64)).1) ((FX3_mix g t20 ((FX3_mix g t20 gl20 b tb20 n z c ((FX3_errorNow g b tb20 n z c 0).toInt64)).2.2.1) b tb20 n z c ((FX3_errorNow g b tb20 n z c 1).toInt64)).2.1) ((FX3_mix g t20 ((FX3_mix g t20 gl20 b tb20 n z c ((FX3_errorNow g b tb20 n z c 0).toInt64)).2.2.1) b tb20 n z c ((FX3_errorNow g b tb20 n z c 1).toInt64)).2.2.1) ((FX3_mix g t20 ((FX3_mix g t20 gl20 b tb20 n z c ((FX3_errorNow g b tb20 n z c 0).toInt64)).2.2.1) b tb20 n z c ((FX3_errorNow g b tb20 n z c 1).toInt64)).2.2.2.1) ((FX3_mix g t20 ((FX3_mix g t20 gl20 b tb20 n z c ((FX3_errorNow g b tb20 n z c 0).toInt64)).2.2.1) b tb20 n z c ((FX3_errorNow g b tb20 n z c 1).toInt64)).2.2.2.2)) H1 := hP1
            clear hP1
            generalize H1 = H at hP hS ⊢
            rw [show (FX3_mix g t20 ((FX3_mix g t20 gl20 b tb20 n z c ((FX3_errorNow g b tb20 n z c 0).toInt64)).2.2.1) b tb20 n z c ((FX3_errorNow g b tb20 n z c 1).toInt64)).1 = g from kp_mix_g ..] at hP
            rw [show (FX3_mix g t20 ((FX3_mix g t20 gl20 b tb20 n z c ((FX3_errorNow g b tb20 n z c 0).toInt64)).2.2.1) b tb20 n z c ((FX3_errorNow g b tb20 n z c 1).toInt64)).2.1 = t20 from kp_mix_t ..] at hP
            rw [show (FX3_mix g t20 ((FX3_mix g t20 gl20 b tb20 n z c ((FX3_errorNow g b tb20 n z c 0).toInt64)).2.2.1) b tb20 n z c ((FX3_errorNow g b tb20 n z c 1).toInt64)).2.2.2.1 = b from kp_mix_b ..] at hP
            rw [show (FX3_mix g t20 ((FX3_mix g t20 gl20 b tb20 n z c ((FX3_errorNow g b tb20 n z c 0).toInt64)).2.2.1) b tb20 n z c ((FX3_errorNow g b tb20 n z c 1).toInt64)).2.2.2.2 = tb20 from kp_mix_tb ..] at hP
            have hP : va_P D vwCl (wM cI cB ad g t20 ((FX3_mix g t20 ((FX3_mix g t20 gl20 b tb20 n z c ((FX3_errorNow g b tb20 n z c 0).toInt64)).2.2.1) b tb20 n z c ((FX3_errorNow g b tb20 n z c 1).toInt64)).2.2.1) b tb20) H := hP
            refine lv_aload_n E.1 E.2.1 dX3_digest_134 rfl (lv_at hl 1 rfl) ?_
            refine lv_aload_n E.1 E.2.1 dX3_digest_135 rfl (lv_at hl 1 rfl) ?_
            refine g_VR (As := []) (rest := [.ref (ad 0)]) E hK hP (c_X3_sunsNow l D cI cB ad g t20 ((FX3_mix g t20 ((FX3_mix g t20 gl20 b tb20 n z c ((FX3_errorNow g b tb20 n z c 0).toInt64)).2.2.1) b tb20 n z c ((FX3_errorNow g b tb20 n z c 1).toInt64)).2.2.1) b tb20 n z c hM) (cwV 0 E.2.2.2.2 gX3_digest_X3_sunsNow rfl rfl rfl (by decide +kernel) ⟨Nat.le_of_ble_eq_true rfl, Nat.le_of_ble_eq_true rfl⟩) (rm0x hK hP) rfl hl.1 rfl (Nat.le_of_ble_eq_true rfl) dX3_digest_136 ⟨Nat.zero_le _, Nat.zero_le _⟩ ?_
            refine lv_i2l E.1 E.2.1 dX3_digest_139 rfl ?_
            refine g_VWv (As := [.long ((FX3_sunsNow g b tb20 n z c).toInt64)]) (rest := []) E hK hP hS (fun q h => h) (c_X3_mix l D cI cB ad g t20 ((FX3_mix g t20 ((FX3_mix g t20 gl20 b tb20 n z c ((FX3_errorNow g b tb20 n z c 0).toInt64)).2.2.1) b tb20 n z c ((FX3_errorNow g b tb20 n z c 1).toInt64)).2.2.1) b tb20 n z c hM hI ((FX3_sunsNow g b tb20 n z c).toInt64)) (cwV 1 E.2.2.2.2 gX3_digest_X3_mix rfl rfl rfl (by decide +kernel) ⟨Nat.le_of_ble_eq_true rfl, Nat.le_of_ble_eq_true rfl⟩) (rm0x hK hP) rfl hl.1 rfl (Nat.le_of_ble_eq_true rfl) dX3_digest_140 ⟨Nat.zero_le _, Nat.zero_le _⟩ (fun u_30 H1 locs hp_32 hP1 hq_33 hS => ?_)
            obtain rfl : u_30 = FX3_mix g t20 ((FX3_mix g t20 ((FX3_mix g t20 gl20 b tb20 n z c ((FX3_errorNow g b tb20 n z c 0).toInt64)).2.2.1) b tb20 n z c ((FX3_errorNow g b tb20 n z c 1).toInt64)).2.2.1) b tb20 n z c ((FX3_sunsNow g b tb20 n z c).toInt64) := hp_32
            have hP : va_P D vwCl (wM cI cB ad ((FX3_mix g t20 ((FX3_mix g t20 ((FX3_mix g t20 gl20 b tb20 n z c ((FX3_errorNow g b tb20 n z c 0).toInt64)).2.2.1) b tb20 n z c ((FX3_errorNow g b tb20 n z c 1).toInt64)).2.2.1) b tb20 n z c ((FX3_sunsNow g b tb20 n z c).toInt64)).1) ((FX3_mix g t20 ((FX3_mix g t20 ((FX3_mix g t20 gl20 b tb20 n z c ((FX3_errorNow g b tb20 n z c 0).toInt64)).2.2.1) b tb20 n z c ((FX3_errorNow g b tb20 n z c 1).toInt64)).2.2.1) b tb20 n z c ((FX3_sunsNow g b tb20 n z c).toInt64)).2.1) ((FX3_mix g t20 ((FX3_mix g t20 ((FX3_mix g t20 gl20 b tb20 n z c ((FX3_errorNow g b tb20 n z c 0).toInt64)).2.2.1) b tb20 n z c ((FX3_errorNow g b tb20 n z c 1).toInt64)).2.2.1) b tb20 n z c ((FX3_sunsNow g b tb20 n z c).toInt64)).2.2.1) ((FX3_mix g t20 ((FX3_mix g t20 ((FX3_mix g t20 gl20 b tb20 n z c ((FX3_errorNow g b tb20 n z c 0).toInt64)).2.2.1) b tb20 n z c ((FX3_errorNow g b tb20 n z c 1).toInt64)).2.2.1) b tb20 n z c ((FX3_sunsNow g b tb20 n z c).toInt64)).2.2.2.1) ((FX3_mix g t20 ((FX3_mix g t20 ((FX3_mix g t20 gl20 b tb20 n z c ((FX3_errorNow g b tb20 n z c 0).toInt64)).2.2.1) b tb20 n z c ((FX3_errorNow g b tb20 n z c 1).toInt64)).2.2.1) b tb20 n z c ((FX3_sunsNow g b tb20 n z c).toInt64)).2.2.2.2)) H1 := hP1
            clear hP1
            generalize H1 = H at hP hS ⊢
            rw [show (FX3_mix g t20 ((FX3_mix g t20 ((FX3_mix g t20 gl20 b tb20 n z c ((FX3_errorNow g b tb20 n z c 0).toInt64)).2.2.1) b tb20 n z c ((FX3_errorNow g b tb20 n z c 1).toInt64)).2.2.1) b tb20 n z c ((FX3_sunsNow g b tb20 n z c).toInt64)).1 = g from kp_mix_g ..] at hP
            rw [show (FX3_mix g t20 ((FX3_mix g t20 ((FX3_mix g t20 gl20 b tb20 n z c ((FX3_errorNow g b tb20 n z c 0).toInt64)).2.2.1) b tb20 n z c ((FX3_errorNow g b tb20 n z c 1).toInt64)).2.2.1) b tb20 n z c ((FX3_sunsNow g b tb20 n z c).toInt64)).2.1 = t20 from kp_mix_t ..] at hP
            rw [show (FX3_mix g t20 ((FX3_mix g t20 ((FX3_mix g t20 gl20 b tb20 n z c ((FX3_errorNow g b tb20 n z c 0).toInt64)).2.2.1) b tb20 n z c ((FX3_errorNow g b tb20 n z c 1).toInt64)).2.2.1) b tb20 n z c ((FX3_sunsNow g b tb20 n z c).toInt64)).2.2.2.1 = b from kp_mix_b ..] at hP
            rw [show (FX3_mix g t20 ((FX3_mix g t20 ((FX3_mix g t20 gl20 b tb20 n z c ((FX3_errorNow g b tb20 n z c 0).toInt64)).2.2.1) b tb20 n z c ((FX3_errorNow g b tb20 n z c 1).toInt64)).2.2.1) b tb20 n z c ((FX3_sunsNow g b tb20 n z c).toInt64)).2.2.2.2 = tb20 from kp_mix_tb ..] at hP
            have hP : va_P D vwCl (wM cI cB ad g t20 ((FX3_mix g t20 ((FX3_mix g t20 ((FX3_mix g t20 gl20 b tb20 n z c ((FX3_errorNow g b tb20 n z c 0).toInt64)).2.2.1) b tb20 n z c ((FX3_errorNow g b tb20 n z c 1).toInt64)).2.2.1) b tb20 n z c ((FX3_sunsNow g b tb20 n z c).toInt64)).2.2.1) b tb20) H := hP
            refine lv_aload_n E.1 E.2.1 dX3_digest_143 rfl (lv_at hl 1 rfl) ?_
            refine lv_aload_n E.1 E.2.1 dX3_digest_144 rfl (lv_at hl 1 rfl) ?_
            refine g_VR (As := []) (rest := [.ref (ad 0)]) E hK hP (c_X3_lookNow l D cI cB ad g t20 ((FX3_mix g t20 ((FX3_mix g t20 ((FX3_mix g t20 gl20 b tb20 n z c ((FX3_errorNow g b tb20 n z c 0).toInt64)).2.2.1) b tb20 n z c ((FX3_errorNow g b tb20 n z c 1).toInt64)).2.2.1) b tb20 n z c ((FX3_sunsNow g b tb20 n z c).toInt64)).2.2.1) b tb20 n z c hM) (cwV 0 E.2.2.2.2 gX3_digest_X3_lookNow rfl rfl rfl (by decide +kernel) ⟨Nat.le_of_ble_eq_true rfl, Nat.le_of_ble_eq_true rfl⟩) (rm0x hK hP) rfl hl.1 rfl (Nat.le_of_ble_eq_true rfl) dX3_digest_145 ⟨Nat.zero_le _, Nat.zero_le _⟩ ?_
            refine lv_i2l E.1 E.2.1 dX3_digest_148 rfl ?_
            refine g_VWv (As := [.long ((FX3_lookNow g b tb20 n z c).toInt64)]) (rest := []) E hK hP hS (fun q h => h) (c_X3_mix l D cI cB ad g t20 ((FX3_mix g t20 ((FX3_mix g t20 ((FX3_mix g t20 gl20 b tb20 n z c ((FX3_errorNow g b tb20 n z c 0).toInt64)).2.2.1) b tb20 n z c ((FX3_errorNow g b tb20 n z c 1).toInt64)).2.2.1) b tb20 n z c ((FX3_sunsNow g b tb20 n z c).toInt64)).2.2.1) b tb20 n z c hM hI ((FX3_lookNow g b tb20 n z c).toInt64)) (cwV 1 E.2.2.2.2 gX3_digest_X3_mix rfl rfl rfl (by decide +kernel) ⟨Nat.le_of_ble_eq_true rfl, Nat.le_of_ble_eq_true rfl⟩) (rm0x hK hP) rfl hl.1 rfl (Nat.le_of_ble_eq_true rfl) dX3_digest_149 ⟨Nat.zero_le _, Nat.zero_le _⟩ (fun u_34 H1 locs hp_36 hP1 hq_37 hS => ?_)
            obtain rfl : u_34 = FX3_mix g t20 ((FX3_mix g t20 ((FX3_mix g t20 ((FX3_mix g t20 gl20 b tb20 n z c ((FX3_errorNow g b tb20 n z c 0).toInt64)).2.2.1) b tb20 n z c ((FX3_errorNow g b tb20 n z c 1).toInt64)).2.2.1) b tb20 n z c ((FX3_sunsNow g b tb20 n z c).toInt64)).2.2.1) b tb20 n z c ((FX3_lookNow g b tb20 n z c).toInt64) := hp_36
            have hP : va_P D vwCl (wM cI cB ad ((FX3_mix g t20 ((FX3_mix g t20 ((FX3_mix g t20 ((FX3_mix g t20 gl20 b tb20 n z c ((FX3_errorNow g b tb20 n z c 0).toInt64)).2.2.1) b tb20 n z c ((FX3_errorNow g b tb20 n z c 1).toInt64)).2.2.1) b tb20 n z c ((FX3_sunsNow g b tb20 n z c).toInt64)).2.2.1) b tb20 n z c ((FX3_lookNow g b tb20 n z c).toInt64)).1) ((FX3_mix g t20 ((FX3_mix g t20 ((FX3_mix g t20 ((FX3_mix g t20 gl20 b tb20 n z c ((FX3_errorNow g b tb20 n z c 0).toInt64)).2.2.1) b tb20 n z c ((FX3_errorNow g b tb20 n z c 1).toInt64)).2.2.1) b tb20 n z c ((FX3_sunsNow g b tb20 n z c).toInt64)).2.2.1) b tb20 n z c ((FX3_lookNow g b tb20 n z c).toInt64)).2.1) ((FX3_mix g t20 ((FX3_mix g t20 ((FX3_mix g t20 ((FX3_mix g t20 gl20 b tb20 n z c ((FX3_errorNow g b tb20 n z c 0).toInt64)).2.2.1) b tb20 n z c ((FX3_errorNow g b tb20 n z c 1).toInt64)).2.2.1) b tb20 n z c ((FX3_sunsNow g b tb20 n z c).toInt64)).2.2.1) b tb20 n z c ((FX3_lookNow g b tb20 n z c).toInt64)).2.2.1) ((FX3_mix g t20 ((FX3_mix g t20 ((FX3_mix g t20 ((FX3_mix g t20 gl20 b tb20 n z c ((FX3_errorNow g b tb20 n z c 0).toInt64)).2.2.1) b tb20 n z c ((FX3_errorNow g b tb20 n z c 1).toInt64)).2.2.1) b tb20 n z c ((FX3_sunsNow g b tb20 n z c).toInt64)).2.2.1) b tb20 n z c ((FX3_lookNow g b tb20 n z c).toInt64)).2.2.2.1) ((FX3_mix g t20 ((FX3_mix g t20 ((FX3_mix g t20 ((FX3_mix g t20 gl20 b tb20 n z c ((FX3_errorNow g b tb20 n z c 0).toInt64)).2.2.1) b tb20 n z c ((FX3_errorNow g b tb20 n z c 1).toInt64)).2.2.1) b tb20 n z c ((FX3_sunsNow g b tb20 n z c).toInt64)).2.2.1) b tb20 n z c ((FX3_lookNow g b tb20 n z c).toInt64)).2.2.2.2)) H1 := hP1
            clear hP1
            generalize H1 = H at hP hS ⊢
            rw [show (FX3_mix g t20 ((FX3_mix g t20 ((FX3_mix g t20 ((FX3_mix g t20 gl20 b tb20 n z c ((FX3_errorNow g b tb20 n z c 0).toInt64)).2.2.1) b tb20 n z c ((FX3_errorNow g b tb20 n z c 1).toInt64)).2.2.1) b tb20 n z c ((FX3_sunsNow g b tb20 n z c).toInt64)).2.2.1) b tb20 n z c ((FX3_lookNow g b tb20 n z c).toInt64)).1 = g from kp_mix_g ..] at hP
            rw [show (FX3_mix g t20 ((FX3_mix g t20 ((FX3_mix g t20 ((FX3_mix g t20 gl20 b tb20 n z c ((FX3_errorNow g b tb20 n z c 0).toInt64)).2.2.1) b tb20 n z c ((FX3_errorNow g b tb20 n z c 1).toInt64)).2.2.1) b tb20 n z c ((FX3_sunsNow g b tb20 n z c).toInt64)).2.2.1) b tb20 n z c ((FX3_lookNow g b tb20 n z c).toInt64)).2.1 = t20 from kp_mix_t ..] at hP
            rw [show (FX3_mix g t20 ((FX3_mix g t20 ((FX3_mix g t20 ((FX3_mix g t20 gl20 b tb20 n z c ((FX3_errorNow g b tb20 n z c 0).toInt64)).2.2.1) b tb20 n z c ((FX3_errorNow g b tb20 n z c 1).toInt64)).2.2.1) b tb20 n z c ((FX3_sunsNow g b tb20 n z c).toInt64)).2.2.1) b tb20 n z c ((FX3_lookNow g b tb20 n z c).toInt64)).2.2.2.1 = b from kp_mix_b ..] at hP
            rw [show (FX3_mix g t20 ((FX3_mix g t20 ((FX3_mix g t20 ((FX3_mix g t20 gl20 b tb20 n z c ((FX3_errorNow g b tb20 n z c 0).toInt64)).2.2.1) b tb20 n z c ((FX3_errorNow g b tb20 n z c 1).toInt64)).2.2.1) b tb20 n z c ((FX3_sunsNow g b tb20 n z c).toInt64)).2.2.1) b tb20 n z c ((FX3_lookNow g b tb20 n z c).toInt64)).2.2.2.2 = tb20 from kp_mix_tb ..] at hP
            have hP : va_P D vwCl (wM cI cB ad g t20 ((FX3_mix g t20 ((FX3_mix g t20 ((FX3_mix g t20 ((FX3_mix g t20 gl20 b tb20 n z c ((FX3_errorNow g b tb20 n z c 0).toInt64)).2.2.1) b tb20 n z c ((FX3_errorNow g b tb20 n z c 1).toInt64)).2.2.1) b tb20 n z c ((FX3_sunsNow g b tb20 n z c).toInt64)).2.2.1) b tb20 n z c ((FX3_lookNow g b tb20 n z c).toInt64)).2.2.1) b tb20) H := hP
            refine lv_iconst (v := 0) E.1 E.2.1 dX3_digest_152 (by decide) ?_
            refine lv_istore_n (lv' := [(1, .int 0), (0, .ref (ad 0))]) E.1 E.2.1 dX3_digest_153 rfl hl (by decide) rfl (fun ls hl => ?_)
            have loop38 : ∀ (d_38 k_39 : Nat) (t38 : Nat → Int32) (gl38 : Nat → Int64) (tb38 : Nat → Nat → Int32) (H : Heap) (locs : List Loc) (ls : Array Slot), k_39 + d_38 = z → va_P D vwCl (wM cI cB ad g t38 gl38 b tb38) H → va_S (wA 20 ad) s.heap H locs → lv_has ls 3 [(1, .int (nI k_39)), (0, .ref (ad 0))] → W p l e (headSpec wsX3_digest { frames := 5, cells := 0, slots := 0, locals := 120 }).room s m ([.ref (ad 0)] : List Value).toArray below meth cd H locs 0 0 (MQ below (va_Ql (fun (r : Int64) (u : SM) => (r, u) = FX3_digest_L154 g b n z c d_38 k_39 t38 gl38 tb38) (fun u t => va_P D vwCl (wM cI cB ad u.1 u.2.1 u.2.2.1 u.2.2.2.1 u.2.2.2.2) t.heap) (wA 20 ad)) ([.ref (ad 0)] : List Value).toArray s 0 0 (wA 20 ad)) (F0 m 154 ls []) := by
              intro d_38
              induction d_38 with
              | zero =>
                intro k_39 t38 gl38 tb38 H locs ls hk38 hP hS hl
                refine lv_iload_n E.1 E.2.1 dX3_digest_154 rfl (lv_at hl 0 rfl) ?_
                refine lv_aload_n E.1 E.2.1 dX3_digest_155 rfl (lv_at hl 1 rfl) ?_
                refine mg_0_16 E hK hP in_3 w_3 dX3_digest_156 ?_
                refine lv_topi (fun y_40 ey_40 => ?_)
                obtain rfl : y_40 = nI z := ey_40.trans (hz)
                refine lv_icmp_ge (x := nI k_39) (y := nI z) (tgt := 179) E.1 E.2.1 dX3_digest_159 (by decide) (fun _ => ?_) (fun h9 => absurd (nI_le (a := z) (b := k_39) (by omega) (by omega)) h9)
                refine lv_iconst (v := 0) E.1 E.2.1 dX3_digest_179 (by decide) ?_
                refine lv_istore_n (lv' := [(1, .int 0), (0, .ref (ad 0))]) E.1 E.2.1 dX3_digest_180 rfl hl (by decide) rfl (fun ls hl => ?_)
                have loop41 : ∀ (d_41 k_42 : Nat) (t41 : Nat → Int32) (gl41 : Nat → Int64) (tb41 : Nat → Nat → Int32) (H : Heap) (locs : List Loc) (ls : Array Slot), k_42 + d_41 = 10 → va_P D vwCl (wM cI cB ad g t41 gl41 b tb41) H → va_S (wA 20 ad) s.heap H locs → lv_has ls 3 [(1, .int (nI k_42)), (0, .ref (ad 0))] → W p l e (headSpec wsX3_digest { frames := 5, cells := 0, slots := 0, locals := 120 }).room s m ([.ref (ad 0)] : List Value).toArray below meth cd H locs 0 0 (MQ below (va_Ql (fun (r : Int64) (u : SM) => (r, u) = FX3_digest_L181 g b n z c d_41 k_42 t41 gl41 tb41) (fun u t => va_P D vwCl (wM cI cB ad u.1 u.2.1 u.2.2.1 u.2.2.2.1 u.2.2.2.2) t.heap) (wA 20 ad)) ([.ref (ad 0)] : List Value).toArray s 0 0 (wA 20 ad)) (F0 m 181 ls []) := by
                  intro d_41
                  induction d_41 with
                  | zero =>
                    intro k_42 t41 gl41 tb41 H locs ls hk41 hP hS hl
                    refine lv_iload_n E.1 E.2.1 dX3_digest_181 rfl (lv_at hl 0 rfl) ?_
                    refine lv_bipush (v := 10) E.1 E.2.1 dX3_digest_182 (by decide) ?_
                    refine lv_icmp_ge (x := nI k_42) (y := 10) (tgt := 203) E.1 E.2.1 dX3_digest_184 (by decide) (fun _ => ?_) (fun h9 => absurd (nI_le (a := 10) (b := k_42) (by omega) (by omega)) h9)
                    refine lv_aload_n E.1 E.2.1 dX3_digest_203 rfl (lv_at hl 1 rfl) ?_
                    refine mg_0_39 E hK hP in_3 w_1 dX3_digest_204 ?_
                    exact W.lret (v := gl41 39) E.1 E.2.1 hr (fun tt ht _ => ⟨⟨gl41 39, (g, t41, gl41, b, tb41), rfl, (by rw [FX3_digest_L181]), (show va_P D vwCl (wM cI cB ad g t41 gl41 b tb41) tt.heap from by rw [ht]; exact hP)⟩, hS.F ht⟩) hS.2.2 dX3_digest_207
                  | succ d_41 ih41 =>
                    intro k_42 t41 gl41 tb41 H locs ls hk41 hP hS hl
                    refine lv_iload_n E.1 E.2.1 dX3_digest_181 rfl (lv_at hl 0 rfl) ?_
                    refine lv_bipush (v := 10) E.1 E.2.1 dX3_digest_182 (by decide) ?_
                    refine lv_icmp_ge (x := nI k_42) (y := 10) (tgt := 203) E.1 E.2.1 dX3_digest_184 (by decide) (fun h9 => absurd h9 (nI_ge (a := k_42) (b := 10) (by omega) (by omega))) (fun _ => ?_)
                    refine lv_aload_n E.1 E.2.1 dX3_digest_187 rfl (lv_at hl 1 rfl) ?_
                    refine lv_aload_n E.1 E.2.1 dX3_digest_188 rfl (lv_at hl 1 rfl) ?_
                    refine lv_iload_n E.1 E.2.1 dX3_digest_189 rfl (lv_at hl 0 rfl) ?_
                    refine g_VR (As := [.int (nI k_42)]) (rest := [.ref (ad 0)]) E hK hP (c_X3_howMany l D cI cB ad g t41 gl41 b tb41 n z c hM (nI k_42)) (cwV 1 E.2.2.2.2 gX3_digest_X3_howMany rfl rfl rfl (by decide +kernel) ⟨Nat.le_of_ble_eq_true rfl, Nat.le_of_ble_eq_true rfl⟩) (rm0x hK hP) rfl hl.1 rfl (Nat.le_of_ble_eq_true rfl) dX3_digest_190 ⟨Nat.zero_le _, Nat.zero_le _⟩ ?_
                    refine lv_i2l E.1 E.2.1 dX3_digest_193 rfl ?_
                    refine g_VWv (As := [.long ((FX3_howMany g b tb41 n z c (nI k_42)).toInt64)]) (rest := []) E hK hP hS (fun q h => h) (c_X3_mix l D cI cB ad g t41 gl41 b tb41 n z c hM hI ((FX3_howMany g b tb41 n z c (nI k_42)).toInt64)) (cwV 1 E.2.2.2.2 gX3_digest_X3_mix rfl rfl rfl (by decide +kernel) ⟨Nat.le_of_ble_eq_true rfl, Nat.le_of_ble_eq_true rfl⟩) (rm0x hK hP) rfl hl.1 rfl (Nat.le_of_ble_eq_true rfl) dX3_digest_194 ⟨Nat.zero_le _, Nat.zero_le _⟩ (fun u_43 H1 locs hp_45 hP1 hq_46 hS => ?_)
                    obtain rfl : u_43 = FX3_mix g t41 gl41 b tb41 n z c ((FX3_howMany g b tb41 n z c (nI k_42)).toInt64) := hp_45
                    have hP : va_P D vwCl (wM cI cB ad ((FX3_mix g t41 gl41 b tb41 n z c ((FX3_howMany g b tb41 n z c (nI k_42)).toInt64)).1) ((FX3_mix g t41 gl41 b tb41 n z c ((FX3_howMany g b tb41 n z c (nI k_42)).toInt64)).2.1) ((FX3_mix g t41 gl41 b tb41 n z c ((FX3_howMany g b tb41 n z c (nI k_42)).toInt64)).2.2.1) ((FX3_mix g t41 gl41 b tb41 n z c ((FX3_howMany g b tb41 n z c (nI k_42)).toInt64)).2.2.2.1) ((FX3_mix g t41 gl41 b tb41 n z c ((FX3_howMany g b tb41 n z c (nI k_42)).toInt64)).2.2.2.2)) H1 := hP1
                    clear hP1
                    generalize H1 = H at hP hS ⊢
                    rw [show (FX3_mix g t41 gl41 b tb41 n z c ((FX3_howMany g b tb41 n z c (nI k_42)).toInt64)).1 = g from kp_mix_g ..] at hP
                    rw [show (FX3_mix g t41 gl41 b tb41 n z c ((FX3_howMany g b tb41 n z c (nI k_42)).toInt64)).2.1 = t41 from kp_mix_t ..] at hP
                    rw [show (FX3_mix g t41 gl41 b tb41 n z c ((FX3_howMany g b tb41 n z c (nI k_42)).toInt64)).2.2.2.1 = b from kp_mix_b ..] at hP
                    rw [show (FX3_mix g t41 gl41 b tb41 n z c ((FX3_howMany g b tb41 n z c (nI k_42)).toInt64)).2.2.2.2 = tb41 from kp_mix_tb ..] at hP
                    have hP : va_P D vwCl (wM cI cB ad g t41 ((FX3_mix g t41 gl41 b tb41 n z c ((FX3_howMany g b tb41 n z c (nI k_42)).toInt64)).2.2.1) b tb41) H := hP
                    refine lv_iinc (v := nI (k_42 + 1)) (k := 0) (lv' := [(1, .int (nI (k_42 + 1))), (0, .ref (ad 0))]) E.1 E.2.1 dX3_digest_197 hl rfl (nI_1 k_42) (by decide) rfl (fun ls hl => ?_)
                    refine lv_goto (tgt := 181) E.1 E.2.1 dX3_digest_200 (by decide) ?_
                    rw [show FX3_digest_L181 g b n z c (d_41 + 1) k_42 t41 gl41 tb41 = FX3_digest_L181 g b n z c d_41 (k_42 + 1) t41 ((FX3_mix g t41 gl41 b tb41 n z c ((FX3_howMany g b tb41 n z c (nI k_42)).toInt64)).2.2.1) tb41 from by rw [FX3_digest_L181]]
                    exact ih41 (k_42 + 1) t41 ((FX3_mix g t41 gl41 b tb41 n z c ((FX3_howMany g b tb41 n z c (nI k_42)).toInt64)).2.2.1) tb41 _ _ ls (by omega) hP hS (lv_sub hl [0, 1] rfl)
                rw [show FX3_digest_L154 g b n z c 0 k_39 t38 gl38 tb38 = FX3_digest_L181 g b n z c 10 0 t38 gl38 tb38 from by rw [FX3_digest_L154]]
                have hl : lv_has ls 3 [(1, .int (nI 0)), (0, .ref (ad 0))] := lv_sub hl [0, 1] rfl
                exact loop41 _ _ t38 gl38 tb38 _ _ ls (by omega) hP hS (lv_sub hl [0, 1] rfl)
              | succ d_38 ih38 =>
                intro k_39 t38 gl38 tb38 H locs ls hk38 hP hS hl
                refine lv_iload_n E.1 E.2.1 dX3_digest_154 rfl (lv_at hl 0 rfl) ?_
                refine lv_aload_n E.1 E.2.1 dX3_digest_155 rfl (lv_at hl 1 rfl) ?_
                refine mg_0_16 E hK hP in_3 w_3 dX3_digest_156 ?_
                refine lv_topi (fun y_47 ey_47 => ?_)
                obtain rfl : y_47 = nI z := ey_47.trans (hz)
                refine lv_icmp_ge (x := nI k_39) (y := nI z) (tgt := 179) E.1 E.2.1 dX3_digest_159 (by decide) (fun h9 => absurd h9 (nI_ge (a := k_39) (b := z) (by omega) (by omega))) (fun _ => ?_)
                refine lv_aload_n E.1 E.2.1 dX3_digest_162 rfl (lv_at hl 1 rfl) ?_
                refine lv_aload_n E.1 E.2.1 dX3_digest_163 rfl (lv_at hl 1 rfl) ?_
                refine mg_0_17 E hK hP in_3 w_4 dX3_digest_164 ?_
                refine lv_iload_n E.1 E.2.1 dX3_digest_167 rfl (lv_at hl 0 rfl) ?_
                refine ml_10 (i := nI k_39) E hK hP (vp_in_nI (by omega) (by omega)) dX3_digest_168 ?_
                refine lv_topi (fun y_48 ey_48 => ?_)
                obtain rfl : y_48 = b 10 k_39 := ey_48.trans (by rw [nI_clamp (show k_39 < 2 ^ 31 by omega)] <;> rfl)
                refine lv_i2l E.1 E.2.1 dX3_digest_169 rfl ?_
                refine g_VWv (As := [.long ((b 10 k_39).toInt64)]) (rest := []) E hK hP hS (fun q h => h) (c_X3_mix l D cI cB ad g t38 gl38 b tb38 n z c hM hI ((b 10 k_39).toInt64)) (cwV 1 E.2.2.2.2 gX3_digest_X3_mix rfl rfl rfl (by decide +kernel) ⟨Nat.le_of_ble_eq_true rfl, Nat.le_of_ble_eq_true rfl⟩) (rm0x hK hP) rfl hl.1 rfl (Nat.le_of_ble_eq_true rfl) dX3_digest_170 ⟨Nat.zero_le _, Nat.zero_le _⟩ (fun u_49 H1 locs hp_51 hP1 hq_52 hS => ?_)
                obtain rfl : u_49 = FX3_mix g t38 gl38 b tb38 n z c ((b 10 k_39).toInt64) := hp_51
                have hP : va_P D vwCl (wM cI cB ad ((FX3_mix g t38 gl38 b tb38 n z c ((b 10 k_39).toInt64)).1) ((FX3_mix g t38 gl38 b tb38 n z c ((b 10 k_39).toInt64)).2.1) ((FX3_mix g t38 gl38 b tb38 n z c ((b 10 k_39).toInt64)).2.2.1) ((FX3_mix g t38 gl38 b tb38 n z c ((b 10 k_39).toInt64)).2.2.2.1) ((FX3_mix g t38 gl38 b tb38 n z c ((b 10 k_39).toInt64)).2.2.2.2)) H1 := hP1
                clear hP1
                generalize H1 = H at hP hS ⊢
                rw [show (FX3_mix g t38 gl38 b tb38 n z c ((b 10 k_39).toInt64)).1 = g from kp_mix_g ..] at hP
                rw [show (FX3_mix g t38 gl38 b tb38 n z c ((b 10 k_39).toInt64)).2.1 = t38 from kp_mix_t ..] at hP
                rw [show (FX3_mix g t38 gl38 b tb38 n z c ((b 10 k_39).toInt64)).2.2.2.1 = b from kp_mix_b ..] at hP
                rw [show (FX3_mix g t38 gl38 b tb38 n z c ((b 10 k_39).toInt64)).2.2.2.2 = tb38 from kp_mix_tb ..] at hP
                have hP : va_P D vwCl (wM cI cB ad g t38 ((FX3_mix g t38 gl38 b tb38 n z c ((b 10 k_39).toInt64)).2.2.1) b tb38) H := hP
                refine lv_iinc (v := nI (k_39 + 1)) (k := 0) (lv' := [(1, .int (nI (k_39 + 1))), (0, .ref (ad 0))]) E.1 E.2.1 dX3_digest_173 hl rfl (nI_1 k_39) (by decide) rfl (fun ls hl => ?_)
                refine lv_goto (tgt := 154) E.1 E.2.1 dX3_digest_176 (by decide) ?_
                rw [show FX3_digest_L154 g b n z c (d_38 + 1) k_39 t38 gl38 tb38 = FX3_digest_L154 g b n z c d_38 (k_39 + 1) t38 ((FX3_mix g t38 gl38 b tb38 n z c ((b 10 k_39).toInt64)).2.2.1) tb38 from by rw [FX3_digest_L154]]
                exact ih38 (k_39 + 1) t38 ((FX3_mix g t38 gl38 b tb38 n z c ((b 10 k_39).toInt64)).2.2.1) tb38 _ _ ls (by omega) hP hS (lv_sub hl [0, 1] rfl)
            rw [show FX3_digest_L90 g b n z c 0 k_21 t20 gl20 tb20 = FX3_digest_L154 g b n z c z 0 t20 ((FX3_mix g t20 ((FX3_mix g t20 ((FX3_mix g t20 ((FX3_mix g t20 gl20 b tb20 n z c ((FX3_errorNow g b tb20 n z c 0).toInt64)).2.2.1) b tb20 n z c ((FX3_errorNow g b tb20 n z c 1).toInt64)).2.2.1) b tb20 n z c ((FX3_sunsNow g b tb20 n z c).toInt64)).2.2.1) b tb20 n z c ((FX3_lookNow g b tb20 n z c).toInt64)).2.2.1) tb20 from by rw [FX3_digest_L90]]
            have hl : lv_has ls 3 [(1, .int (nI 0)), (0, .ref (ad 0))] := lv_sub hl [0, 1] rfl
            exact loop38 _ _ t20 ((FX3_mix g t20 ((FX3_mix g t20 ((FX3_mix g t20 ((FX3_mix g t20 gl20 b tb20 n z c ((FX3_errorNow g b tb20 n z c 0).toInt64)).2.2.1) b tb20 n z c ((FX3_errorNow g b tb20 n z c 1).toInt64)).2.2.1) b tb20 n z c ((FX3_sunsNow g b tb20 n z c).toInt64)).2.2.1) b tb20 n z c ((FX3_lookNow g b tb20 n z c).toInt64)).2.2.1) tb20 _ _ ls (by omega) hP hS (lv_sub hl [0, 1] rfl)
          | succ d_20 ih20 =>
            intro k_21 t20 gl20 tb20 H locs ls hk20 hP hS hl
            refine lv_iload_n E.1 E.2.1 dX3_digest_90 rfl (lv_at hl 0 rfl) ?_
            refine lv_iconst (v := 4) E.1 E.2.1 dX3_digest_91 (by decide) ?_
            refine lv_icmp_ge (x := nI k_21) (y := 4) (tgt := 114) E.1 E.2.1 dX3_digest_92 (by decide) (fun h9 => absurd h9 (nI_ge (a := k_21) (b := 4) (by omega) (by omega))) (fun _ => ?_)
            refine lv_aload_n E.1 E.2.1 dX3_digest_95 rfl (lv_at hl 1 rfl) ?_
            refine lv_aload_n E.1 E.2.1 dX3_digest_96 rfl (lv_at hl 1 rfl) ?_
            refine lv_bipush (v := 20) E.1 E.2.1 dX3_digest_97 (by decide) ?_
            refine lv_iconst (v := 2) E.1 E.2.1 dX3_digest_99 (by decide) ?_
            refine lv_iload_n E.1 E.2.1 dX3_digest_100 rfl (lv_at hl 0 rfl) ?_
            refine g_VWi (As := [.int 20, .int 2, .int (nI k_21)]) (rest := [.ref (ad 0)]) E hK hP hS (fun q h => h) (c_X3_planNow l D cI cB ad g t20 gl20 b tb20 n z c hM hI 20 2 (nI k_21) (by omega)) (cwV 3 E.2.2.2.2 gX3_digest_X3_planNow rfl rfl rfl (by decide +kernel) ⟨Nat.le_of_ble_eq_true rfl, Nat.le_of_ble_eq_true rfl⟩) (rm0x hK hP) rfl hl.1 rfl (Nat.le_of_ble_eq_true rfl) dX3_digest_101 ⟨Nat.zero_le _, Nat.zero_le _⟩ (fun r_54 u_53 H1 locs hp_55 hP1 hq_56 hS => ?_)
            obtain rfl : r_54 = (FX3_planNow g t20 gl20 b tb20 n z c 20 2 (nI k_21)).1 := congrArg Prod.fst hp_55
            obtain rfl : u_53 = (FX3_planNow g t20 gl20 b tb20 n z c 20 2 (nI k_21)).2 := congrArg Prod.snd hp_55
            have hP : va_P D vwCl (wM cI cB ad ((FX3_planNow g t20 gl20 b tb20 n z c 20 2 (nI k_21)).2.1) ((FX3_planNow g t20 gl20 b tb20 n z c 20 2 (nI k_21)).2.2.1) ((FX3_planNow g t20 gl20 b tb20 n z c 20 2 (nI k_21)).2.2.2.1) ((FX3_planNow g t20 gl20 b tb20 n z c 20 2 (nI k_21)).2.2.2.2.1) ((FX3_planNow g t20 gl20 b tb20 n z c 20 2 (nI k_21)).2.2.2.2.2)) H1 := hP1
            clear hP1
            generalize H1 = H at hP hS ⊢
            rw [show (FX3_planNow g t20 gl20 b tb20 n z c 20 2 (nI k_21)).2.1 = g from kp_planNow_g ..] at hP
            rw [show (FX3_planNow g t20 gl20 b tb20 n z c 20 2 (nI k_21)).2.2.2.1 = gl20 from kp_planNow_gl ..] at hP
            rw [show (FX3_planNow g t20 gl20 b tb20 n z c 20 2 (nI k_21)).2.2.2.2.1 = b from kp_planNow_b ..] at hP
            have hP : va_P D vwCl (wM cI cB ad g ((FX3_planNow g t20 gl20 b tb20 n z c 20 2 (nI k_21)).2.2.1) gl20 b ((FX3_planNow g t20 gl20 b tb20 n z c 20 2 (nI k_21)).2.2.2.2.2)) H := hP
            refine lv_i2l E.1 E.2.1 dX3_digest_104 rfl ?_
            refine g_VWv (As := [.long (((FX3_planNow g t20 gl20 b tb20 n z c 20 2 (nI k_21)).1).toInt64)]) (rest := []) E hK hP hS (fun q h => h) (c_X3_mix l D cI cB ad g ((FX3_planNow g t20 gl20 b tb20 n z c 20 2 (nI k_21)).2.2.1) gl20 b ((FX3_planNow g t20 gl20 b tb20 n z c 20 2 (nI k_21)).2.2.2.2.2) n z c hM hI (((FX3_planNow g t20 gl20 b tb20 n z c 20 2 (nI k_21)).1).toInt64)) (cwV 1 E.2.2.2.2 gX3_digest_X3_mix rfl rfl rfl (by decide +kernel) ⟨Nat.le_of_ble_eq_true rfl, Nat.le_of_ble_eq_true rfl⟩) (rm0x hK hP) rfl hl.1 rfl (Nat.le_of_ble_eq_true rfl) dX3_digest_105 ⟨Nat.zero_le _, Nat.zero_le _⟩ (fun u_57 H1 locs hp_59 hP1 hq_60 hS => ?_)
            obtain rfl : u_57 = FX3_mix g ((FX3_planNow g t20 gl20 b tb20 n z c 20 2 (nI k_21)).2.2.1) gl20 b ((FX3_planNow g t20 gl20 b tb20 n z c 20 2 (nI k_21)).2.2.2.2.2) n z c (((FX3_planNow g t20 gl20 b tb20 n z c 20 2 (nI k_21)).1).toInt64) := hp_59
            have hP : va_P D vwCl (wM cI cB ad ((FX3_mix g ((FX3_planNow g t20 gl20 b tb20 n z c 20 2 (nI k_21)).2.2.1) gl20 b ((FX3_planNow g t20 gl20 b tb20 n z c 20 2 (nI k_21)).2.2.2.2.2) n z c (((FX3_planNow g t20 gl20 b tb20 n z c 20 2 (nI k_21)).1).toInt64)).1) ((FX3_mix g ((FX3_planNow g t20 gl20 b tb20 n z c 20 2 (nI k_21)).2.2.1) gl20 b ((FX3_planNow g t20 gl20 b tb20 n z c 20 2 (nI k_21)).2.2.2.2.2) n z c (((FX3_planNow g t20 gl20 b tb20 n z c 20 2 (nI k_21)).1).toInt64)).2.1) ((FX3_mix g ((FX3_planNow g t20 gl20 b tb20 n z c 20 2 (nI k_21)).2.2.1) gl20 b ((FX3_planNow g t20 gl20 b tb20 n z c 20 2 (nI k_21)).2.2.2.2.2) n z c (((FX3_planNow g t20 gl20 b tb20 n z c 20 2 (nI k_21)).1).toInt64)).2.2.1) ((FX3_mix g ((FX3_planNow g t20 gl20 b tb20 n z c 20 2 (nI k_21)).2.2.1) gl20 b ((FX3_planNow g t20 gl20 b tb20 n z c 20 2 (nI k_21)).2.2.2.2.2) n z c (((FX3_planNow g t20 gl20 b tb20 n z c 20 2 (nI k_21)).1).toInt64)).2.2.2.1) ((FX3_mix g ((FX3_planNow g t20 gl20 b tb20 n z c 20 2 (nI k_21)).2.2.1) gl20 b ((FX3_planNow g t20 gl20 b tb20 n z c 20 2 (nI k_21)).2.2.2.2.2) n z c (((FX3_planNow g t20 gl20 b tb20 n z c 20 2 (nI k_21)).1).toInt64)).2.2.2.2)) H1 := hP1
            clear hP1
            generalize H1 = H at hP hS ⊢
            rw [show (FX3_mix g ((FX3_planNow g t20 gl20 b tb20 n z c 20 2 (nI k_21)).2.2.1) gl20 b ((FX3_planNow g t20 gl20 b tb20 n z c 20 2 (nI k_21)).2.2.2.2.2) n z c (((FX3_planNow g t20 gl20 b tb20 n z c 20 2 (nI k_21)).1).toInt64)).1 = g from kp_mix_g ..] at hP
            rw [show (FX3_mix g ((FX3_planNow g t20 gl20 b tb20 n z c 20 2 (nI k_21)).2.2.1) gl20 b ((FX3_planNow g t20 gl20 b tb20 n z c 20 2 (nI k_21)).2.2.2.2.2) n z c (((FX3_planNow g t20 gl20 b tb20 n z c 20 2 (nI k_21)).1).toInt64)).2.1 = (FX3_planNow g t20 gl20 b tb20 n z c 20 2 (nI k_21)).2.2.1 from kp_mix_t ..] at hP
            rw [show (FX3_mix g ((FX3_planNow g t20 gl20 b tb20 n z c 20 2 (nI k_21)).2.2.1) gl20 b ((FX3_planNow g t20 gl20 b tb20 n z c 20 2 (nI k_21)).2.2.2.2.2) n z c (((FX3_planNow g t20 gl20 b tb20 n z c 20 2 (nI k_21)).1).toInt64)).2.2.2.1 = b from kp_mix_b ..] at hP
            rw [show (FX3_mix g ((FX3_planNow g t20 gl20 b tb20 n z c 20 2 (nI k_21)).2.2.1) gl20 b ((FX3_planNow g t20 gl20 b tb20 n z c 20 2 (nI k_21)).2.2.2.2.2) n z c (((FX3_planNow g t20 gl20 b tb20 n z c 20 2 (nI k_21)).1).toInt64)).2.2.2.2 = (FX3_planNow g t20 gl20 b tb20 n z c 20 2 (nI k_21)).2.2.2.2.2 from kp_mix_tb ..] at hP
            have hP : va_P D vwCl (wM cI cB ad g ((FX3_planNow g t20 gl20 b tb20 n z c 20 2 (nI k_21)).2.2.1) ((FX3_mix g ((FX3_planNow g t20 gl20 b tb20 n z c 20 2 (nI k_21)).2.2.1) gl20 b ((FX3_planNow g t20 gl20 b tb20 n z c 20 2 (nI k_21)).2.2.2.2.2) n z c (((FX3_planNow g t20 gl20 b tb20 n z c 20 2 (nI k_21)).1).toInt64)).2.2.1) b ((FX3_planNow g t20 gl20 b tb20 n z c 20 2 (nI k_21)).2.2.2.2.2)) H := hP
            refine lv_iinc (v := nI (k_21 + 1)) (k := 0) (lv' := [(1, .int (nI (k_21 + 1))), (0, .ref (ad 0))]) E.1 E.2.1 dX3_digest_108 hl rfl (nI_1 k_21) (by decide) rfl (fun ls hl => ?_)
            refine lv_goto (tgt := 90) E.1 E.2.1 dX3_digest_111 (by decide) ?_
            rw [show FX3_digest_L90 g b n z c (d_20 + 1) k_21 t20 gl20 tb20 = FX3_digest_L90 g b n z c d_20 (k_21 + 1) ((FX3_planNow g t20 gl20 b tb20 n z c 20 2 (nI k_21)).2.2.1) ((FX3_mix g ((FX3_planNow g t20 gl20 b tb20 n z c 20 2 (nI k_21)).2.2.1) gl20 b ((FX3_planNow g t20 gl20 b tb20 n z c 20 2 (nI k_21)).2.2.2.2.2) n z c (((FX3_planNow g t20 gl20 b tb20 n z c 20 2 (nI k_21)).1).toInt64)).2.2.1) ((FX3_planNow g t20 gl20 b tb20 n z c 20 2 (nI k_21)).2.2.2.2.2) from by rw [FX3_digest_L90]]
            exact ih20 (k_21 + 1) ((FX3_planNow g t20 gl20 b tb20 n z c 20 2 (nI k_21)).2.2.1) ((FX3_mix g ((FX3_planNow g t20 gl20 b tb20 n z c 20 2 (nI k_21)).2.2.1) gl20 b ((FX3_planNow g t20 gl20 b tb20 n z c 20 2 (nI k_21)).2.2.2.2.2) n z c (((FX3_planNow g t20 gl20 b tb20 n z c 20 2 (nI k_21)).1).toInt64)).2.2.1) ((FX3_planNow g t20 gl20 b tb20 n z c 20 2 (nI k_21)).2.2.2.2.2) _ _ ls (by omega) hP hS (lv_sub hl [0, 1] rfl)
        rw [show FX3_digest_L9 g b n z c 0 k_2 t1 gl1 tb1 = FX3_digest_L90 g b n z c 4 0 t1 gl1 tb1 from by rw [FX3_digest_L9, if_neg h85]]
        have hl : lv_has ls 3 [(1, .int (nI 0)), (0, .ref (ad 0))] := lv_sub hl [0, 1] rfl
        exact loop20 _ _ t1 gl1 tb1 _ _ ls (by omega) hP hS (lv_sub hl [0, 1] rfl)
    | succ d_1 ih1 =>
      intro k_2 t1 gl1 tb1 H locs ls hk1 hP hS hl
      refine lv_iload_n E.1 E.2.1 dX3_digest_9 rfl (lv_at hl 0 rfl) ?_
      refine lv_aload_n E.1 E.2.1 dX3_digest_10 rfl (lv_at hl 1 rfl) ?_
      refine mg_0_1 E hK hP in_3 w_2 dX3_digest_11 ?_
      refine lv_topi (fun y_61 ey_61 => ?_)
      obtain rfl : y_61 = nI n := ey_61.trans (hn)
      refine lv_icmp_ge (x := nI k_2) (y := nI n) (tgt := 81) E.1 E.2.1 dX3_digest_14 (by decide) (fun h9 => absurd h9 (nI_ge (a := k_2) (b := n) (by omega) (by omega))) (fun _ => ?_)
      refine lv_iconst (v := 0) E.1 E.2.1 dX3_digest_17 (by decide) ?_
      refine lv_istore_n (lv' := [(2, .int 0), (1, .int (nI k_2)), (0, .ref (ad 0))]) E.1 E.2.1 dX3_digest_18 rfl hl (by decide) rfl (fun ls hl => ?_)
      refine lv_iload_n E.1 E.2.1 dX3_digest_19 rfl (lv_at hl 0 rfl) ?_
      refine lv_bipush (v := 7) E.1 E.2.1 dX3_digest_20 (by decide) ?_
      refine lv_icmp_ge (x := 0) (y := 7) (tgt := 42) E.1 E.2.1 dX3_digest_22 (by decide) (fun h9 => absurd h9 (by decide)) (fun _ => ?_)
      refine lv_aload_n E.1 E.2.1 dX3_digest_25 rfl (lv_at hl 2 rfl) ?_
      refine lv_aload_n E.1 E.2.1 dX3_digest_26 rfl (lv_at hl 2 rfl) ?_
      refine lv_iload_n E.1 E.2.1 dX3_digest_27 rfl (lv_at hl 1 rfl) ?_
      refine lv_iload_n E.1 E.2.1 dX3_digest_28 rfl (lv_at hl 0 rfl) ?_
      refine g_VR (As := [.int (nI k_2), .int 0]) (rest := [.ref (ad 0)]) E hK hP (c_X3_siteNow l D cI cB ad g t1 gl1 b tb1 n z c hM (nI k_2) 0 (vp_in_nI (by omega) (by omega))) (cwV 2 E.2.2.2.2 gX3_digest_X3_siteNow rfl rfl rfl (by decide +kernel) ⟨Nat.le_of_ble_eq_true rfl, Nat.le_of_ble_eq_true rfl⟩) (rm0x hK hP) rfl hl.1 rfl (Nat.le_of_ble_eq_true rfl) dX3_digest_29 ⟨Nat.zero_le _, Nat.zero_le _⟩ ?_
      refine lv_i2l E.1 E.2.1 dX3_digest_32 rfl ?_
      refine g_VWv (As := [.long ((FX3_siteNow g b tb1 n z c (nI k_2) 0).toInt64)]) (rest := []) E hK hP hS (fun q h => h) (c_X3_mix l D cI cB ad g t1 gl1 b tb1 n z c hM hI ((FX3_siteNow g b tb1 n z c (nI k_2) 0).toInt64)) (cwV 1 E.2.2.2.2 gX3_digest_X3_mix rfl rfl rfl (by decide +kernel) ⟨Nat.le_of_ble_eq_true rfl, Nat.le_of_ble_eq_true rfl⟩) (rm0x hK hP) rfl hl.1 rfl (Nat.le_of_ble_eq_true rfl) dX3_digest_33 ⟨Nat.zero_le _, Nat.zero_le _⟩ (fun u_62 H1 locs hp_64 hP1 hq_65 hS => ?_)
      obtain rfl : u_62 = FX3_mix g t1 gl1 b tb1 n z c ((FX3_siteNow g b tb1 n z c (nI k_2) 0).toInt64) := hp_64
      have hP : va_P D vwCl (wM cI cB ad ((FX3_mix g t1 gl1 b tb1 n z c ((FX3_siteNow g b tb1 n z c (nI k_2) 0).toInt64)).1) ((FX3_mix g t1 gl1 b tb1 n z c ((FX3_siteNow g b tb1 n z c (nI k_2) 0).toInt64)).2.1) ((FX3_mix g t1 gl1 b tb1 n z c ((FX3_siteNow g b tb1 n z c (nI k_2) 0).toInt64)).2.2.1) ((FX3_mix g t1 gl1 b tb1 n z c ((FX3_siteNow g b tb1 n z c (nI k_2) 0).toInt64)).2.2.2.1) ((FX3_mix g t1 gl1 b tb1 n z c ((FX3_siteNow g b tb1 n z c (nI k_2) 0).toInt64)).2.2.2.2)) H1 := hP1
      clear hP1
      generalize H1 = H at hP hS ⊢
      rw [show (FX3_mix g t1 gl1 b tb1 n z c ((FX3_siteNow g b tb1 n z c (nI k_2) 0).toInt64)).1 = g from kp_mix_g ..] at hP
      rw [show (FX3_mix g t1 gl1 b tb1 n z c ((FX3_siteNow g b tb1 n z c (nI k_2) 0).toInt64)).2.1 = t1 from kp_mix_t ..] at hP
      rw [show (FX3_mix g t1 gl1 b tb1 n z c ((FX3_siteNow g b tb1 n z c (nI k_2) 0).toInt64)).2.2.2.1 = b from kp_mix_b ..] at hP
      rw [show (FX3_mix g t1 gl1 b tb1 n z c ((FX3_siteNow g b tb1 n z c (nI k_2) 0).toInt64)).2.2.2.2 = tb1 from kp_mix_tb ..] at hP
      have hP : va_P D vwCl (wM cI cB ad g t1 ((FX3_mix g t1 gl1 b tb1 n z c ((FX3_siteNow g b tb1 n z c (nI k_2) 0).toInt64)).2.2.1) b tb1) H := hP
      refine lv_iinc (v := 1) (k := 0) (lv' := [(2, .int 1), (1, .int (nI k_2)), (0, .ref (ad 0))]) E.1 E.2.1 dX3_digest_36 hl rfl (by decide) (by decide) rfl (fun ls hl => ?_)
      refine lv_goto (tgt := 19) E.1 E.2.1 dX3_digest_39 (by decide) ?_
      refine lv_iload_n E.1 E.2.1 dX3_digest_19 rfl (lv_at hl 0 rfl) ?_
      refine lv_bipush (v := 7) E.1 E.2.1 dX3_digest_20 (by decide) ?_
      refine lv_icmp_ge (x := 1) (y := 7) (tgt := 42) E.1 E.2.1 dX3_digest_22 (by decide) (fun h9 => absurd h9 (by decide)) (fun _ => ?_)
      refine lv_aload_n E.1 E.2.1 dX3_digest_25 rfl (lv_at hl 2 rfl) ?_
      refine lv_aload_n E.1 E.2.1 dX3_digest_26 rfl (lv_at hl 2 rfl) ?_
      refine lv_iload_n E.1 E.2.1 dX3_digest_27 rfl (lv_at hl 1 rfl) ?_
      refine lv_iload_n E.1 E.2.1 dX3_digest_28 rfl (lv_at hl 0 rfl) ?_
      refine g_VR (As := [.int (nI k_2), .int 1]) (rest := [.ref (ad 0)]) E hK hP (c_X3_siteNow l D cI cB ad g t1 ((FX3_mix g t1 gl1 b tb1 n z c ((FX3_siteNow g b tb1 n z c (nI k_2) 0).toInt64)).2.2.1) b tb1 n z c hM (nI k_2) 1 (vp_in_nI (by omega) (by omega))) (cwV 2 E.2.2.2.2 gX3_digest_X3_siteNow rfl rfl rfl (by decide +kernel) ⟨Nat.le_of_ble_eq_true rfl, Nat.le_of_ble_eq_true rfl⟩) (rm0x hK hP) rfl hl.1 rfl (Nat.le_of_ble_eq_true rfl) dX3_digest_29 ⟨Nat.zero_le _, Nat.zero_le _⟩ ?_
      refine lv_i2l E.1 E.2.1 dX3_digest_32 rfl ?_
      refine g_VWv (As := [.long ((FX3_siteNow g b tb1 n z c (nI k_2) 1).toInt64)]) (rest := []) E hK hP hS (fun q h => h) (c_X3_mix l D cI cB ad g t1 ((FX3_mix g t1 gl1 b tb1 n z c ((FX3_siteNow g b tb1 n z c (nI k_2) 0).toInt64)).2.2.1) b tb1 n z c hM hI ((FX3_siteNow g b tb1 n z c (nI k_2) 1).toInt64)) (cwV 1 E.2.2.2.2 gX3_digest_X3_mix rfl rfl rfl (by decide +kernel) ⟨Nat.le_of_ble_eq_true rfl, Nat.le_of_ble_eq_true rfl⟩) (rm0x hK hP) rfl hl.1 rfl (Nat.le_of_ble_eq_true rfl) dX3_digest_33 ⟨Nat.zero_le _, Nat.zero_le _⟩ (fun u_66 H1 locs hp_68 hP1 hq_69 hS => ?_)
      obtain rfl : u_66 = FX3_mix g t1 ((FX3_mix g t1 gl1 b tb1 n z c ((FX3_siteNow g b tb1 n z c (nI k_2) 0).toInt64)).2.2.1) b tb1 n z c ((FX3_siteNow g b tb1 n z c (nI k_2) 1).toInt64) := hp_68
      have hP : va_P D vwCl (wM cI cB ad ((FX3_mix g t1 ((FX3_mix g t1 gl1 b tb1 n z c ((FX3_siteNow g b tb1 n z c (nI k_2) 0).toInt64)).2.2.1) b tb1 n z c ((FX3_siteNow g b tb1 n z c (nI k_2) 1).toInt64)).1) ((FX3_mix g t1 ((FX3_mix g t1 gl1 b tb1 n z c ((FX3_siteNow g b tb1 n z c (nI k_2) 0).toInt64)).2.2.1) b tb1 n z c ((FX3_siteNow g b tb1 n z c (nI k_2) 1).toInt64)).2.1) ((FX3_mix g t1 ((FX3_mix g t1 gl1 b tb1 n z c ((FX3_siteNow g b tb1 n z c (nI k_2) 0).toInt64)).2.2.1) b tb1 n z c ((FX3_siteNow g b tb1 n z c (nI k_2) 1).toInt64)).2.2.1) ((FX3_mix g t1 ((FX3_mix g t1 gl1 b tb1 n z c ((FX3_siteNow g b tb1 n z c (nI k_2) 0).toInt64)).2.2.1) b tb1 n z c ((FX3_siteNow g b tb1 n z c (nI k_2) 1).toInt64)).2.2.2.1) ((FX3_mix g t1 ((FX3_mix g t1 gl1 b tb1 n z c ((FX3_siteNow g b tb1 n z c (nI k_2) 0).toInt64)).2.2.1) b tb1 n z c ((FX3_siteNow g b tb1 n z c (nI k_2) 1).toInt64)).2.2.2.2)) H1 := hP1
      clear hP1
      generalize H1 = H at hP hS ⊢
      rw [show (FX3_mix g t1 ((FX3_mix g t1 gl1 b tb1 n z c ((FX3_siteNow g b tb1 n z c (nI k_2) 0).toInt64)).2.2.1) b tb1 n z c ((FX3_siteNow g b tb1 n z c (nI k_2) 1).toInt64)).1 = g from kp_mix_g ..] at hP
      rw [show (FX3_mix g t1 ((FX3_mix g t1 gl1 b tb1 n z c ((FX3_siteNow g b tb1 n z c (nI k_2) 0).toInt64)).2.2.1) b tb1 n z c ((FX3_siteNow g b tb1 n z c (nI k_2) 1).toInt64)).2.1 = t1 from kp_mix_t ..] at hP
      rw [show (FX3_mix g t1 ((FX3_mix g t1 gl1 b tb1 n z c ((FX3_siteNow g b tb1 n z c (nI k_2) 0).toInt64)).2.2.1) b tb1 n z c ((FX3_siteNow g b tb1 n z c (nI k_2) 1).toInt64)).2.2.2.1 = b from kp_mix_b ..] at hP
      rw [show (FX3_mix g t1 ((FX3_mix g t1 gl1 b tb1 n z c ((FX3_siteNow g b tb1 n z c (nI k_2) 0).toInt64)).2.2.1) b tb1 n z c ((FX3_siteNow g b tb1 n z c (nI k_2) 1).toInt64)).2.2.2.2 = tb1 from kp_mix_tb ..] at hP
      have hP : va_P D vwCl (wM cI cB ad g t1 ((FX3_mix g t1 ((FX3_mix g t1 gl1 b tb1 n z c ((FX3_siteNow g b tb1 n z c (nI k_2) 0).toInt64)).2.2.1) b tb1 n z c ((FX3_siteNow g b tb1 n z c (nI k_2) 1).toInt64)).2.2.1) b tb1) H := hP
      refine lv_iinc (v := 2) (k := 0) (lv' := [(2, .int 2), (1, .int (nI k_2)), (0, .ref (ad 0))]) E.1 E.2.1 dX3_digest_36 hl rfl (by decide) (by decide) rfl (fun ls hl => ?_)
      refine lv_goto (tgt := 19) E.1 E.2.1 dX3_digest_39 (by decide) ?_
      refine lv_iload_n E.1 E.2.1 dX3_digest_19 rfl (lv_at hl 0 rfl) ?_
      refine lv_bipush (v := 7) E.1 E.2.1 dX3_digest_20 (by decide) ?_
      refine lv_icmp_ge (x := 2) (y := 7) (tgt := 42) E.1 E.2.1 dX3_digest_22 (by decide) (fun h9 => absurd h9 (by decide)) (fun _ => ?_)
      refine lv_aload_n E.1 E.2.1 dX3_digest_25 rfl (lv_at hl 2 rfl) ?_
      refine lv_aload_n E.1 E.2.1 dX3_digest_26 rfl (lv_at hl 2 rfl) ?_
      refine lv_iload_n E.1 E.2.1 dX3_digest_27 rfl (lv_at hl 1 rfl) ?_
      refine lv_iload_n E.1 E.2.1 dX3_digest_28 rfl (lv_at hl 0 rfl) ?_
      refine g_VR (As := [.int (nI k_2), .int 2]) (rest := [.ref (ad 0)]) E hK hP (c_X3_siteNow l D cI cB ad g t1 ((FX3_mix g t1 ((FX3_mix g t1 gl1 b tb1 n z c ((FX3_siteNow g b tb1 n z c (nI k_2) 0).toInt64)).2.2.1) b tb1 n z c ((FX3_siteNow g b tb1 n z c (nI k_2) 1).toInt64)).2.2.1) b tb1 n z c hM (nI k_2) 2 (vp_in_nI (by omega) (by omega))) (cwV 2 E.2.2.2.2 gX3_digest_X3_siteNow rfl rfl rfl (by decide +kernel) ⟨Nat.le_of_ble_eq_true rfl, Nat.le_of_ble_eq_true rfl⟩) (rm0x hK hP) rfl hl.1 rfl (Nat.le_of_ble_eq_true rfl) dX3_digest_29 ⟨Nat.zero_le _, Nat.zero_le _⟩ ?_
      refine lv_i2l E.1 E.2.1 dX3_digest_32 rfl ?_
      refine g_VWv (As := [.long ((FX3_siteNow g b tb1 n z c (nI k_2) 2).toInt64)]) (rest := []) E hK hP hS (fun q h => h) (c_X3_mix l D cI cB ad g t1 ((FX3_mix g t1 ((FX3_mix g t1 gl1 b tb1 n z c ((FX3_siteNow g b tb1 n z c (nI k_2) 0).toInt64)).2.2.1) b tb1 n z c ((FX3_siteNow g b tb1 n z c (nI k_2) 1).toInt64)).2.2.1) b tb1 n z c hM hI ((FX3_siteNow g b tb1 n z c (nI k_2) 2).toInt64)) (cwV 1 E.2.2.2.2 gX3_digest_X3_mix rfl rfl rfl (by decide +kernel) ⟨Nat.le_of_ble_eq_true rfl, Nat.le_of_ble_eq_true rfl⟩) (rm0x hK hP) rfl hl.1 rfl (Nat.le_of_ble_eq_true rfl) dX3_digest_33 ⟨Nat.zero_le _, Nat.zero_le _⟩ (fun u_70 H1 locs hp_72 hP1 hq_73 hS => ?_)
      obtain rfl : u_70 = FX3_mix g t1 ((FX3_mix g t1 ((FX3_mix g t1 gl1 b tb1 n z c ((FX3_siteNow g b tb1 n z c (nI k_2) 0).toInt64)).2.2.1) b tb1 n z c ((FX3_siteNow g b tb1 n z c (nI k_2) 1).toInt64)).2.2.1) b tb1 n z c ((FX3_siteNow g b tb1 n z c (nI k_2) 2).toInt64) := hp_72
      have hP : va_P D vwCl (wM cI cB ad ((FX3_mix g t1 ((FX3_mix g t1 ((FX3_mix g t1 gl1 b tb1 n z c ((FX3_siteNow g b tb1 n z c (nI k_2) 0).toInt64)).2.2.1) b tb1 n z c ((FX3_siteNow g b tb1 n z c (nI k_2) 1).toInt64)).2.2.1) b tb1 n z c ((FX3_siteNow g b tb1 n z c (nI k_2) 2).toInt64)).1) ((FX3_mix g t1 ((FX3_mix g t1 ((FX3_mix g t1 gl1 b tb1 n z c ((FX3_siteNow g b tb1 n z c (nI k_2) 0).toInt64)).2.2.1) b tb1 n z c ((FX3_siteNow g b tb1 n z c (nI k_2) 1).toInt64)).2.2.1) b tb1 n z c ((FX3_siteNow g b tb1 n z c (nI k_2) 2).toInt64)).2.1) ((FX3_mix g t1 ((FX3_mix g t1 ((FX3_mix g t1 gl1 b tb1 n z c ((FX3_siteNow g b tb1 n z c (nI k_2) 0).toInt64)).2.2.1) b tb1 n z c ((FX3_siteNow g b tb1 n z c (nI k_2) 1).toInt64)).2.2.1) b tb1 n z c ((FX3_siteNow g b tb1 n z c (nI k_2) 2).toInt64)).2.2.1) ((FX3_mix g t1 ((FX3_mix g t1 ((FX3_mix g t1 gl1 b tb1 n z c ((FX3_siteNow g b tb1 n z c (nI k_2) 0).toInt64)).2.2.1) b tb1 n z c ((FX3_siteNow g b tb1 n z c (nI k_2) 1).toInt64)).2.2.1) b tb1 n z c ((FX3_siteNow g b tb1 n z c (nI k_2) 2).toInt64)).2.2.2.1) ((FX3_mix g t1 ((FX3_mix g t1 ((FX3_mix g t1 gl1 b tb1 n z c ((FX3_siteNow g b tb1 n z c (nI k_2) 0).toInt64)).2.2.1) b tb1 n z c ((FX3_siteNow g b tb1 n z c (nI k_2) 1).toInt64)).2.2.1) b tb1 n z c ((FX3_siteNow g b tb1 n z c (nI k_2) 2).toInt64)).2.2.2.2)) H1 := hP1
      clear hP1
      generalize H1 = H at hP hS ⊢
      rw [show (FX3_mix g t1 ((FX3_mix g t1 ((FX3_mix g t1 gl1 b tb1 n z c ((FX3_siteNow g b tb1 n z c (nI k_2) 0).toInt64)).2.2.1) b tb1 n z c ((FX3_siteNow g b tb1 n z c (nI k_2) 1).toInt64)).2.2.1) b tb1 n z c ((FX3_siteNow g b tb1 n z c (nI k_2) 2).toInt64)).1 = g from kp_mix_g ..] at hP
      rw [show (FX3_mix g t1 ((FX3_mix g t1 ((FX3_mix g t1 gl1 b tb1 n z c ((FX3_siteNow g b tb1 n z c (nI k_2) 0).toInt64)).2.2.1) b tb1 n z c ((FX3_siteNow g b tb1 n z c (nI k_2) 1).toInt64)).2.2.1) b tb1 n z c ((FX3_siteNow g b tb1 n z c (nI k_2) 2).toInt64)).2.1 = t1 from kp_mix_t ..] at hP
      rw [show (FX3_mix g t1 ((FX3_mix g t1 ((FX3_mix g t1 gl1 b tb1 n z c ((FX3_siteNow g b tb1 n z c (nI k_2) 0).toInt64)).2.2.1) b tb1 n z c ((FX3_siteNow g b tb1 n z c (nI k_2) 1).toInt64)).2.2.1) b tb1 n z c ((FX3_siteNow g b tb1 n z c (nI k_2) 2).toInt64)).2.2.2.1 = b from kp_mix_b ..] at hP
      rw [show (FX3_mix g t1 ((FX3_mix g t1 ((FX3_mix g t1 gl1 b tb1 n z c ((FX3_siteNow g b tb1 n z c (nI k_2) 0).toInt64)).2.2.1) b tb1 n z c ((FX3_siteNow g b tb1 n z c (nI k_2) 1).toInt64)).2.2.1) b tb1 n z c ((FX3_siteNow g b tb1 n z c (nI k_2) 2).toInt64)).2.2.2.2 = tb1 from kp_mix_tb ..] at hP
      have hP : va_P D vwCl (wM cI cB ad g t1 ((FX3_mix g t1 ((FX3_mix g t1 ((FX3_mix g t1 gl1 b tb1 n z c ((FX3_siteNow g b tb1 n z c (nI k_2) 0).toInt64)).2.2.1) b tb1 n z c ((FX3_siteNow g b tb1 n z c (nI k_2) 1).toInt64)).2.2.1) b tb1 n z c ((FX3_siteNow g b tb1 n z c (nI k_2) 2).toInt64)).2.2.1) b tb1) H := hP
      refine lv_iinc (v := 3) (k := 0) (lv' := [(2, .int 3), (1, .int (nI k_2)), (0, .ref (ad 0))]) E.1 E.2.1 dX3_digest_36 hl rfl (by decide) (by decide) rfl (fun ls hl => ?_)
      refine lv_goto (tgt := 19) E.1 E.2.1 dX3_digest_39 (by decide) ?_
      refine lv_iload_n E.1 E.2.1 dX3_digest_19 rfl (lv_at hl 0 rfl) ?_
      refine lv_bipush (v := 7) E.1 E.2.1 dX3_digest_20 (by decide) ?_
      refine lv_icmp_ge (x := 3) (y := 7) (tgt := 42) E.1 E.2.1 dX3_digest_22 (by decide) (fun h9 => absurd h9 (by decide)) (fun _ => ?_)
      refine lv_aload_n E.1 E.2.1 dX3_digest_25 rfl (lv_at hl 2 rfl) ?_
      refine lv_aload_n E.1 E.2.1 dX3_digest_26 rfl (lv_at hl 2 rfl) ?_
      refine lv_iload_n E.1 E.2.1 dX3_digest_27 rfl (lv_at hl 1 rfl) ?_
      refine lv_iload_n E.1 E.2.1 dX3_digest_28 rfl (lv_at hl 0 rfl) ?_
      refine g_VR (As := [.int (nI k_2), .int 3]) (rest := [.ref (ad 0)]) E hK hP (c_X3_siteNow l D cI cB ad g t1 ((FX3_mix g t1 ((FX3_mix g t1 ((FX3_mix g t1 gl1 b tb1 n z c ((FX3_siteNow g b tb1 n z c (nI k_2) 0).toInt64)).2.2.1) b tb1 n z c ((FX3_siteNow g b tb1 n z c (nI k_2) 1).toInt64)).2.2.1) b tb1 n z c ((FX3_siteNow g b tb1 n z c (nI k_2) 2).toInt64)).2.2.1) b tb1 n z c hM (nI k_2) 3 (vp_in_nI (by omega) (by omega))) (cwV 2 E.2.2.2.2 gX3_digest_X3_siteNow rfl rfl rfl (by decide +kernel) ⟨Nat.le_of_ble_eq_true rfl, Nat.le_of_ble_eq_true rfl⟩) (rm0x hK hP) rfl hl.1 rfl (Nat.le_of_ble_eq_true rfl) dX3_digest_29 ⟨Nat.zero_le _, Nat.zero_le _⟩ ?_
      refine lv_i2l E.1 E.2.1 dX3_digest_32 rfl ?_
      refine g_VWv (As := [.long ((FX3_siteNow g b tb1 n z c (nI k_2) 3).toInt64)]) (rest := []) E hK hP hS (fun q h => h) (c_X3_mix l D cI cB ad g t1 ((FX3_mix g t1 ((FX3_mix g t1 ((FX3_mix g t1 gl1 b tb1 n z c ((FX3_siteNow g b tb1 n z c (nI k_2) 0).toInt64)).2.2.1) b tb1 n z c ((FX3_siteNow g b tb1 n z c (nI k_2) 1).toInt64)).2.2.1) b tb1 n z c ((FX3_siteNow g b tb1 n z c (nI k_2) 2).toInt64)).2.2.1) b tb1 n z c hM hI ((FX3_siteNow g b tb1 n z c (nI k_2) 3).toInt64)) (cwV 1 E.2.2.2.2 gX3_digest_X3_mix rfl rfl rfl (by decide +kernel) ⟨Nat.le_of_ble_eq_true rfl, Nat.le_of_ble_eq_true rfl⟩) (rm0x hK hP) rfl hl.1 rfl (Nat.le_of_ble_eq_true rfl) dX3_digest_33 ⟨Nat.zero_le _, Nat.zero_le _⟩ (fun u_74 H1 locs hp_76 hP1 hq_77 hS => ?_)
      obtain rfl : u_74 = FX3_mix g t1 ((FX3_mix g t1 ((FX3_mix g t1 ((FX3_mix g t1 gl1 b tb1 n z c ((FX3_siteNow g b tb1 n z c (nI k_2) 0).toInt64)).2.2.1) b tb1 n z c ((FX3_siteNow g b tb1 n z c (nI k_2) 1).toInt64)).2.2.1) b tb1 n z c ((FX3_siteNow g b tb1 n z c (nI k_2) 2).toInt64)).2.2.1) b tb1 n z c ((FX3_siteNow g b tb1 n z c (nI k_2) 3).toInt64) := hp_76
      have hP : va_P D vwCl (wM cI cB ad ((FX3_mix g t1 ((FX3_mix g t1 ((FX3_mix g t1 ((FX3_mix g t1 gl1 b tb1 n z c ((FX3_siteNow g b tb1 n z c (nI k_2) 0).toInt64)).2.2.1) b tb1 n z c ((FX3_siteNow g b tb1 n z c (nI k_2) 1).toInt64)).2.2.1) b tb1 n z c ((FX3_siteNow g b tb1 n z c (nI k_2) 2).toInt64)).2.2.1) b tb1 n z c ((FX3_siteNow g b tb1 n z c (nI k_2) 3).toInt64)).1) ((FX3_mix g t1 ((FX3_mix g t1 ((FX3_mix g t1 ((FX3_mix g t1 gl1 b tb1 n z c ((FX3_siteNow g b tb1 n z c (nI k_2) 0).toInt64)).2.2.1) b tb1 n z c ((FX3_siteNow g b tb1 n z c (nI k_2) 1).toInt64)).2.2.1) b tb1 n z c ((FX3_siteNow g b tb1 n z c (nI k_2) 2).toInt64)).2.2.1) b tb1 n z c ((FX3_siteNow g b tb1 n z c (nI k_2) 3).toInt64)).2.1) ((FX3_mix g t1 ((FX3_mix g t1 ((FX3_mix g t1 ((FX3_mix g t1 gl1 b tb1 n z c ((FX3_siteNow g b tb1 n z c (nI k_2) 0).toInt64)).2.2.1) b tb1 n z c ((FX3_siteNow g b tb1 n z c (nI k_2) 1).toInt64)).2.2.1) b tb1 n z c ((FX3_siteNow g b tb1 n z c (nI k_2) 2).toInt64)).2.2.1) b tb1 n z c ((FX3_siteNow g b tb1 n z c (nI k_2) 3).toInt64)).2.2.1) ((FX3_mix g t1 ((FX3_mix g t1 ((FX3_mix g t1 ((FX3_mix g t1 gl1 b tb1 n z c ((FX3_siteNow g b tb1 n z c (nI k_2) 0).toInt64)).2.2.1) b tb1 n z c ((FX3_siteNow g b tb1 n z c (nI k_2) 1).toInt64)).2.2.1) b tb1 n z c ((FX3_siteNow g b tb1 n z c (nI k_2) 2).toInt64)).2.2.1) b tb1 n z c ((FX3_siteNow g b tb1 n z c (nI k_2) 3).toInt64)).2.2.2.1) ((FX3_mix g t1 ((FX3_mix g t1 ((FX3_mix g t1 ((FX3_mix g t1 gl1 b tb1 n z c ((FX3_siteNow g b tb1 n z c (nI k_2) 0).toInt64)).2.2.1) b tb1 n z c ((FX3_siteNow g b tb1 n z c (nI k_2) 1).toInt64)).2.2.1) b tb1 n z c ((FX3_siteNow g b tb1 n z c (nI k_2) 2).toInt64)).2.2.1) b tb1 n z c ((FX3_siteNow g b tb1 n z c (nI k_2) 3).toInt64)).2.2.2.2)) H1 := hP1
      clear hP1
      generalize H1 = H at hP hS ⊢
      rw [show (FX3_mix g t1 ((FX3_mix g t1 ((FX3_mix g t1 ((FX3_mix g t1 gl1 b tb1 n z c ((FX3_siteNow g b tb1 n z c (nI k_2) 0).toInt64)).2.2.1) b tb1 n z c ((FX3_siteNow g b tb1 n z c (nI k_2) 1).toInt64)).2.2.1) b tb1 n z c ((FX3_siteNow g b tb1 n z c (nI k_2) 2).toInt64)).2.2.1) b tb1 n z c ((FX3_siteNow g b tb1 n z c (nI k_2) 3).toInt64)).1 = g from kp_mix_g ..] at hP
      rw [show (FX3_mix g t1 ((FX3_mix g t1 ((FX3_mix g t1 ((FX3_mix g t1 gl1 b tb1 n z c ((FX3_siteNow g b tb1 n z c (nI k_2) 0).toInt64)).2.2.1) b tb1 n z c ((FX3_siteNow g b tb1 n z c (nI k_2) 1).toInt64)).2.2.1) b tb1 n z c ((FX3_siteNow g b tb1 n z c (nI k_2) 2).toInt64)).2.2.1) b tb1 n z c ((FX3_siteNow g b tb1 n z c (nI k_2) 3).toInt64)).2.1 = t1 from kp_mix_t ..] at hP
      rw [show (FX3_mix g t1 ((FX3_mix g t1 ((FX3_mix g t1 ((FX3_mix g t1 gl1 b tb1 n z c ((FX3_siteNow g b tb1 n z c (nI k_2) 0).toInt64)).2.2.1) b tb1 n z c ((FX3_siteNow g b tb1 n z c (nI k_2) 1).toInt64)).2.2.1) b tb1 n z c ((FX3_siteNow g b tb1 n z c (nI k_2) 2).toInt64)).2.2.1) b tb1 n z c ((FX3_siteNow g b tb1 n z c (nI k_2) 3).toInt64)).2.2.2.1 = b from kp_mix_b ..] at hP
      rw [show (FX3_mix g t1 ((FX3_mix g t1 ((FX3_mix g t1 ((FX3_mix g t1 gl1 b tb1 n z c ((FX3_siteNow g b tb1 n z c (nI k_2) 0).toInt64)).2.2.1) b tb1 n z c ((FX3_siteNow g b tb1 n z c (nI k_2) 1).toInt64)).2.2.1) b tb1 n z c ((FX3_siteNow g b tb1 n z c (nI k_2) 2).toInt64)).2.2.1) b tb1 n z c ((FX3_siteNow g b tb1 n z c (nI k_2) 3).toInt64)).2.2.2.2 = tb1 from kp_mix_tb ..] at hP
      have hP : va_P D vwCl (wM cI cB ad g t1 ((FX3_mix g t1 ((FX3_mix g t1 ((FX3_mix g t1 ((FX3_mix g t1 gl1 b tb1 n z c ((FX3_siteNow g b tb1 n z c (nI k_2) 0).toInt64)).2.2.1) b tb1 n z c ((FX3_siteNow g b tb1 n z c (nI k_2) 1).toInt64)).2.2.1) b tb1 n z c ((FX3_siteNow g b tb1 n z c (nI k_2) 2).toInt64)).2.2.1) b tb1 n z c ((FX3_siteNow g b tb1 n z c (nI k_2) 3).toInt64)).2.2.1) b tb1) H := hP
      refine lv_iinc (v := 4) (k := 0) (lv' := [(2, .int 4), (1, .int (nI k_2)), (0, .ref (ad 0))]) E.1 E.2.1 dX3_digest_36 hl rfl (by decide) (by decide) rfl (fun ls hl => ?_)
      refine lv_goto (tgt := 19) E.1 E.2.1 dX3_digest_39 (by decide) ?_
      refine lv_iload_n E.1 E.2.1 dX3_digest_19 rfl (lv_at hl 0 rfl) ?_
      refine lv_bipush (v := 7) E.1 E.2.1 dX3_digest_20 (by decide) ?_
      refine lv_icmp_ge (x := 4) (y := 7) (tgt := 42) E.1 E.2.1 dX3_digest_22 (by decide) (fun h9 => absurd h9 (by decide)) (fun _ => ?_)
      refine lv_aload_n E.1 E.2.1 dX3_digest_25 rfl (lv_at hl 2 rfl) ?_
      refine lv_aload_n E.1 E.2.1 dX3_digest_26 rfl (lv_at hl 2 rfl) ?_
      refine lv_iload_n E.1 E.2.1 dX3_digest_27 rfl (lv_at hl 1 rfl) ?_
      refine lv_iload_n E.1 E.2.1 dX3_digest_28 rfl (lv_at hl 0 rfl) ?_
      refine g_VR (As := [.int (nI k_2), .int 4]) (rest := [.ref (ad 0)]) E hK hP (c_X3_siteNow l D cI cB ad g t1 ((FX3_mix g t1 ((FX3_mix g t1 ((FX3_mix g t1 ((FX3_mix g t1 gl1 b tb1 n z c ((FX3_siteNow g b tb1 n z c (nI k_2) 0).toInt64)).2.2.1) b tb1 n z c ((FX3_siteNow g b tb1 n z c (nI k_2) 1).toInt64)).2.2.1) b tb1 n z c ((FX3_siteNow g b tb1 n z c (nI k_2) 2).toInt64)).2.2.1) b tb1 n z c ((FX3_siteNow g b tb1 n z c (nI k_2) 3).toInt64)).2.2.1) b tb1 n z c hM (nI k_2) 4 (vp_in_nI (by omega) (by omega))) (cwV 2 E.2.2.2.2 gX3_digest_X3_siteNow rfl rfl rfl (by decide +kernel) ⟨Nat.le_of_ble_eq_true rfl, Nat.le_of_ble_eq_true rfl⟩) (rm0x hK hP) rfl hl.1 rfl (Nat.le_of_ble_eq_true rfl) dX3_digest_29 ⟨Nat.zero_le _, Nat.zero_le _⟩ ?_
      refine lv_i2l E.1 E.2.1 dX3_digest_32 rfl ?_
      refine g_VWv (As := [.long ((FX3_siteNow g b tb1 n z c (nI k_2) 4).toInt64)]) (rest := []) E hK hP hS (fun q h => h) (c_X3_mix l D cI cB ad g t1 ((FX3_mix g t1 ((FX3_mix g t1 ((FX3_mix g t1 ((FX3_mix g t1 gl1 b tb1 n z c ((FX3_siteNow g b tb1 n z c (nI k_2) 0).toInt64)).2.2.1) b tb1 n z c ((FX3_siteNow g b tb1 n z c (nI k_2) 1).toInt64)).2.2.1) b tb1 n z c ((FX3_siteNow g b tb1 n z c (nI k_2) 2).toInt64)).2.2.1) b tb1 n z c ((FX3_siteNow g b tb1 n z c (nI k_2) 3).toInt64)).2.2.1) b tb1 n z c hM hI ((FX3_siteNow g b tb1 n z c (nI k_2) 4).toInt64)) (cwV 1 E.2.2.2.2 gX3_digest_X3_mix rfl rfl rfl (by decide +kernel) ⟨Nat.le_of_ble_eq_true rfl, Nat.le_of_ble_eq_true rfl⟩) (rm0x hK hP) rfl hl.1 rfl (Nat.le_of_ble_eq_true rfl) dX3_digest_33 ⟨Nat.zero_le _, Nat.zero_le _⟩ (fun u_78 H1 locs hp_80 hP1 hq_81 hS => ?_)
      obtain rfl : u_78 = FX3_mix g t1 ((FX3_mix g t1 ((FX3_mix g t1 ((FX3_mix g t1 ((FX3_mix g t1 gl1 b tb1 n z c ((FX3_siteNow g b tb1 n z c (nI k_2) 0).toInt64)).2.2.1) b tb1 n z c ((FX3_siteNow g b tb1 n z c (nI k_2) 1).toInt64)).2.2.1) b tb1 n z c ((FX3_siteNow g b tb1 n z c (nI k_2) 2).toInt64)).2.2.1) b tb1 n z c ((FX3_siteNow g b tb1 n z c (nI k_2) 3).toInt64)).2.2.1) b tb1 n z c ((FX3_siteNow g b tb1 n z c (nI k_2) 4).toInt64) := hp_80
      have hP : va_P D vwCl (wM cI cB ad ((FX3_mix g t1 ((FX3_mix g t1 ((FX3_mix g t1 ((FX3_mix g t1 ((FX3_mix g t1 gl1 b tb1 n z c ((FX3_siteNow g b tb1 n z c (nI k_2) 0).toInt64)).2.2.1) b tb1 n z c ((FX3_siteNow g b tb1 n z c (nI k_2) 1).toInt64)).2.2.1) b tb1 n z c ((FX3_siteNow g b tb1 n z c (nI k_2) 2).toInt64)).2.2.1) b tb1 n z c ((FX3_siteNow g b tb1 n z c (nI k_2) 3).toInt64)).2.2.1) b tb1 n z c ((FX3_siteNow g b tb1 n z c (nI k_2) 4).toInt64)).1) ((FX3_mix g t1 ((FX3_mix g t1 ((FX3_mix g t1 ((FX3_mix g t1 ((FX3_mix g t1 gl1 b tb1 n z c ((FX3_siteNow g b tb1 n z c (nI k_2) 0).toInt64)).2.2.1) b tb1 n z c ((FX3_siteNow g b tb1 n z c (nI k_2) 1).toInt64)).2.2.1) b tb1 n z c ((FX3_siteNow g b tb1 n z c (nI k_2) 2).toInt64)).2.2.1) b tb1 n z c ((FX3_siteNow g b tb1 n z c (nI k_2) 3).toInt64)).2.2.1) b tb1 n z c ((FX3_siteNow g b tb1 n z c (nI k_2) 4).toInt64)).2.1) ((FX3_mix g t1 ((FX3_mix g t1 ((FX3_mix g t1 ((FX3_mix g t1 ((FX3_mix g t1 gl1 b tb1 n z c ((FX3_siteNow g b tb1 n z c (nI k_2) 0).toInt64)).2.2.1) b tb1 n z c ((FX3_siteNow g b tb1 n z c (nI k_2) 1).toInt64)).2.2.1) b tb1 n z c ((FX3_siteNow g b tb1 n z c (nI k_2) 2).toInt64)).2.2.1) b tb1 n z c ((FX3_siteNow g b tb1 n z c (nI k_2) 3).toInt64)).2.2.1) b tb1 n z c ((FX3_siteNow g b tb1 n z c (nI k_2) 4).toInt64)).2.2.1) ((FX3_mix g t1 ((FX3_mix g t1 ((FX3_mix g t1 ((FX3_mix g t1 ((FX3_mix g t1 gl1 b tb1 n z c ((FX3_siteNow g b tb1 n z c (nI k_2) 0).toInt64)).2.2.1) b tb1 n z c ((FX3_siteNow g b tb1 n z c (nI k_2) 1).toInt64)).2.2.1) b tb1 n z c ((FX3_siteNow g b tb1 n z c (nI k_2) 2).toInt64)).2.2.1) b tb1 n z c ((FX3_siteNow g b tb1 n z c (nI k_2) 3).toInt64)).2.2.1) b tb1 n z c ((FX3_siteNow g b tb1 n z c (nI k_2) 4).toInt64)).2.2.2.1) ((FX3_mix g t1 ((FX3_mix g t1 ((FX3_mix g t1 ((FX3_mix g t1 ((FX3_mix g t1 gl1 b tb1 n z c ((FX3_siteNow g b tb1 n z c (nI k_2) 0).toInt64)).2.2.1) b tb1 n z c ((FX3_siteNow g b tb1 n z c (nI k_2) 1).toInt64)).2.2.1) b tb1 n z c ((FX3_siteNow g b tb1 n z c (nI k_2) 2).toInt64)).2.2.1) b tb1 n z c ((FX3_siteNow g b tb1 n z c (nI k_2) 3).toInt64)).2.2.1) b tb1 n z c ((FX3_siteNow g b tb1 n z c (nI k_2) 4).toInt64)).2.2.2.2)) H1 := hP1
      clear hP1
      generalize H1 = H at hP hS ⊢
      rw [show (FX3_mix g t1 ((FX3_mix g t1 ((FX3_mix g t1 ((FX3_mix g t1 ((FX3_mix g t1 gl1 b tb1 n z c ((FX3_siteNow g b tb1 n z c (nI k_2) 0).toInt64)).2.2.1) b tb1 n z c ((FX3_siteNow g b tb1 n z c (nI k_2) 1).toInt64)).2.2.1) b tb1 n z c ((FX3_siteNow g b tb1 n z c (nI k_2) 2).toInt64)).2.2.1) b tb1 n z c ((FX3_siteNow g b tb1 n z c (nI k_2) 3).toInt64)).2.2.1) b tb1 n z c ((FX3_siteNow g b tb1 n z c (nI k_2) 4).toInt64)).1 = g from kp_mix_g ..] at hP
      rw [show (FX3_mix g t1 ((FX3_mix g t1 ((FX3_mix g t1 ((FX3_mix g t1 ((FX3_mix g t1 gl1 b tb1 n z c ((FX3_siteNow g b tb1 n z c (nI k_2) 0).toInt64)).2.2.1) b tb1 n z c ((FX3_siteNow g b tb1 n z c (nI k_2) 1).toInt64)).2.2.1) b tb1 n z c ((FX3_siteNow g b tb1 n z c (nI k_2) 2).toInt64)).2.2.1) b tb1 n z c ((FX3_siteNow g b tb1 n z c (nI k_2) 3).toInt64)).2.2.1) b tb1 n z c ((FX3_siteNow g b tb1 n z c (nI k_2) 4).toInt64)).2.1 = t1 from kp_mix_t ..] at hP
      rw [show (FX3_mix g t1 ((FX3_mix g t1 ((FX3_mix g t1 ((FX3_mix g t1 ((FX3_mix g t1 gl1 b tb1 n z c ((FX3_siteNow g b tb1 n z c (nI k_2) 0).toInt64)).2.2.1) b tb1 n z c ((FX3_siteNow g b tb1 n z c (nI k_2) 1).toInt64)).2.2.1) b tb1 n z c ((FX3_siteNow g b tb1 n z c (nI k_2) 2).toInt64)).2.2.1) b tb1 n z c ((FX3_siteNow g b tb1 n z c (nI k_2) 3).toInt64)).2.2.1) b tb1 n z c ((FX3_siteNow g b tb1 n z c (nI k_2) 4).toInt64)).2.2.2.1 = b from kp_mix_b ..] at hP
      rw [show (FX3_mix g t1 ((FX3_mix g t1 ((FX3_mix g t1 ((FX3_mix g t1 ((FX3_mix g t1 gl1 b tb1 n z c ((FX3_siteNow g b tb1 n z c (nI k_2) 0).toInt64)).2.2.1) b tb1 n z c ((FX3_siteNow g b tb1 n z c (nI k_2) 1).toInt64)).2.2.1) b tb1 n z c ((FX3_siteNow g b tb1 n z c (nI k_2) 2).toInt64)).2.2.1) b tb1 n z c ((FX3_siteNow g b tb1 n z c (nI k_2) 3).toInt64)).2.2.1) b tb1 n z c ((FX3_siteNow g b tb1 n z c (nI k_2) 4).toInt64)).2.2.2.2 = tb1 from kp_mix_tb ..] at hP
      have hP : va_P D vwCl (wM cI cB ad g t1 ((FX3_mix g t1 ((FX3_mix g t1 ((FX3_mix g t1 ((FX3_mix g t1 ((FX3_mix g t1 gl1 b tb1 n z c ((FX3_siteNow g b tb1 n z c (nI k_2) 0).toInt64)).2.2.1) b tb1 n z c ((FX3_siteNow g b tb1 n z c (nI k_2) 1).toInt64)).2.2.1) b tb1 n z c ((FX3_siteNow g b tb1 n z c (nI k_2) 2).toInt64)).2.2.1) b tb1 n z c ((FX3_siteNow g b tb1 n z c (nI k_2) 3).toInt64)).2.2.1) b tb1 n z c ((FX3_siteNow g b tb1 n z c (nI k_2) 4).toInt64)).2.2.1) b tb1) H := hP
      refine lv_iinc (v := 5) (k := 0) (lv' := [(2, .int 5), (1, .int (nI k_2)), (0, .ref (ad 0))]) E.1 E.2.1 dX3_digest_36 hl rfl (by decide) (by decide) rfl (fun ls hl => ?_)
      refine lv_goto (tgt := 19) E.1 E.2.1 dX3_digest_39 (by decide) ?_
      refine lv_iload_n E.1 E.2.1 dX3_digest_19 rfl (lv_at hl 0 rfl) ?_
      refine lv_bipush (v := 7) E.1 E.2.1 dX3_digest_20 (by decide) ?_
      refine lv_icmp_ge (x := 5) (y := 7) (tgt := 42) E.1 E.2.1 dX3_digest_22 (by decide) (fun h9 => absurd h9 (by decide)) (fun _ => ?_)
      refine lv_aload_n E.1 E.2.1 dX3_digest_25 rfl (lv_at hl 2 rfl) ?_
      refine lv_aload_n E.1 E.2.1 dX3_digest_26 rfl (lv_at hl 2 rfl) ?_
      refine lv_iload_n E.1 E.2.1 dX3_digest_27 rfl (lv_at hl 1 rfl) ?_
      refine lv_iload_n E.1 E.2.1 dX3_digest_28 rfl (lv_at hl 0 rfl) ?_
      refine g_VR (As := [.int (nI k_2), .int 5]) (rest := [.ref (ad 0)]) E hK hP (c_X3_siteNow l D cI cB ad g t1 ((FX3_mix g t1 ((FX3_mix g t1 ((FX3_mix g t1 ((FX3_mix g t1 ((FX3_mix g t1 gl1 b tb1 n z c ((FX3_siteNow g b tb1 n z c (nI k_2) 0).toInt64)).2.2.1) b tb1 n z c ((FX3_siteNow g b tb1 n z c (nI k_2) 1).toInt64)).2.2.1) b tb1 n z c ((FX3_siteNow g b tb1 n z c (nI k_2) 2).toInt64)).2.2.1) b tb1 n z c ((FX3_siteNow g b tb1 n z c (nI k_2) 3).toInt64)).2.2.1) b tb1 n z c ((FX3_siteNow g b tb1 n z c (nI k_2) 4).toInt64)).2.2.1) b tb1 n z c hM (nI k_2) 5 (vp_in_nI (by omega) (by omega))) (cwV 2 E.2.2.2.2 gX3_digest_X3_siteNow rfl rfl rfl (by decide +kernel) ⟨Nat.le_of_ble_eq_true rfl, Nat.le_of_ble_eq_true rfl⟩) (rm0x hK hP) rfl hl.1 rfl (Nat.le_of_ble_eq_true rfl) dX3_digest_29 ⟨Nat.zero_le _, Nat.zero_le _⟩ ?_
      refine lv_i2l E.1 E.2.1 dX3_digest_32 rfl ?_
      refine g_VWv (As := [.long ((FX3_siteNow g b tb1 n z c (nI k_2) 5).toInt64)]) (rest := []) E hK hP hS (fun q h => h) (c_X3_mix l D cI cB ad g t1 ((FX3_mix g t1 ((FX3_mix g t1 ((FX3_mix g t1 ((FX3_mix g t1 ((FX3_mix g t1 gl1 b tb1 n z c ((FX3_siteNow g b tb1 n z c (nI k_2) 0).toInt64)).2.2.1) b tb1 n z c ((FX3_siteNow g b tb1 n z c (nI k_2) 1).toInt64)).2.2.1) b tb1 n z c ((FX3_siteNow g b tb1 n z c (nI k_2) 2).toInt64)).2.2.1) b tb1 n z c ((FX3_siteNow g b tb1 n z c (nI k_2) 3).toInt64)).2.2.1) b tb1 n z c ((FX3_siteNow g b tb1 n z c (nI k_2) 4).toInt64)).2.2.1) b tb1 n z c hM hI ((FX3_siteNow g b tb1 n z c (nI k_2) 5).toInt64)) (cwV 1 E.2.2.2.2 gX3_digest_X3_mix rfl rfl rfl (by decide +kernel) ⟨Nat.le_of_ble_eq_true rfl, Nat.le_of_ble_eq_true rfl⟩) (rm0x hK hP) rfl hl.1 rfl (Nat.le_of_ble_eq_true rfl) dX3_digest_33 ⟨Nat.zero_le _, Nat.zero_le _⟩ (fun u_82 H1 locs hp_84 hP1 hq_85 hS => ?_)
      obtain rfl : u_82 = FX3_mix g t1 ((FX3_mix g t1 ((FX3_mix g t1 ((FX3_mix g t1 ((FX3_mix g t1 ((FX3_mix g t1 gl1 b tb1 n z c ((FX3_siteNow g b tb1 n z c (nI k_2) 0).toInt64)).2.2.1) b tb1 n z c ((FX3_siteNow g b tb1 n z c (nI k_2) 1).toInt64)).2.2.1) b tb1 n z c ((FX3_siteNow g b tb1 n z c (nI k_2) 2).toInt64)).2.2.1) b tb1 n z c ((FX3_siteNow g b tb1 n z c (nI k_2) 3).toInt64)).2.2.1) b tb1 n z c ((FX3_siteNow g b tb1 n z c (nI k_2) 4).toInt64)).2.2.1) b tb1 n z c ((FX3_siteNow g b tb1 n z c (nI k_2) 5).toInt64) := hp_84
      have hP : va_P D vwCl (wM cI cB ad ((FX3_mix g t1 ((FX3_mix g t1 ((FX3_mix g t1 ((FX3_mix g t1 ((FX3_mix g t1 ((FX3_mix g t1 gl1 b tb1 n z c ((FX3_siteNow g b tb1 n z c (nI k_2) 0).toInt64)).2.2.1) b tb1 n z c ((FX3_siteNow g b tb1 n z c (nI k_2) 1).toInt64)).2.2.1) b tb1 n z c ((FX3_siteNow g b tb1 n z c (nI k_2) 2).toInt64)).2.2.1) b tb1 n z c ((FX3_siteNow g b tb1 n z c (nI k_2) 3).toInt64)).2.2.1) b tb1 n z c ((FX3_siteNow g b tb1 n z c (nI k_2) 4).toInt64)).2.2.1) b tb1 n z c ((FX3_siteNow g b tb1 n z c (nI k_2) 5).toInt64)).1) ((FX3_mix g t1 ((FX3_mix g t1 ((FX3_mix g t1 ((FX3_mix g t1 ((FX3_mix g t1 ((FX3_mix g t1 gl1 b tb1 n z c ((FX3_siteNow g b tb1 n z c (nI k_2) 0).toInt64)).2.2.1) b tb1 n z c ((FX3_siteNow g b tb1 n z c (nI k_2) 1).toInt64)).2.2.1) b tb1 n z c ((FX3_siteNow g b tb1 n z c (nI k_2) 2).toInt64)).2.2.1) b tb1 n z c ((FX3_siteNow g b tb1 n z c (nI k_2) 3).toInt64)).2.2.1) b tb1 n z c ((FX3_siteNow g b tb1 n z c (nI k_2) 4).toInt64)).2.2.1) b tb1 n z c ((FX3_siteNow g b tb1 n z c (nI k_2) 5).toInt64)).2.1) ((FX3_mix g t1 ((FX3_mix g t1 ((FX3_mix g t1 ((FX3_mix g t1 ((FX3_mix g t1 ((FX3_mix g t1 gl1 b tb1 n z c ((FX3_siteNow g b tb1 n z c (nI k_2) 0).toInt64)).2.2.1) b tb1 n z c ((FX3_siteNow g b tb1 n z c (nI k_2) 1).toInt64)).2.2.1) b tb1 n z c ((FX3_siteNow g b tb1 n z c (nI k_2) 2).toInt64)).2.2.1) b tb1 n z c ((FX3_siteNow g b tb1 n z c (nI k_2) 3).toInt64)).2.2.1) b tb1 n z c ((FX3_siteNow g b tb1 n z c (nI k_2) 4).toInt64)).2.2.1) b tb1 n z c ((FX3_siteNow g b tb1 n z c (nI k_2) 5).toInt64)).2.2.1) ((FX3_mix g t1 ((FX3_mix g t1 ((FX3_mix g t1 ((FX3_mix g t1 ((FX3_mix g t1 ((FX3_mix g t1 gl1 b tb1 n z c ((FX3_siteNow g b tb1 n z c (nI k_2) 0).toInt64)).2.2.1) b tb1 n z c ((FX3_siteNow g b tb1 n z c (nI k_2) 1).toInt64)).2.2.1) b tb1 n z c ((FX3_siteNow g b tb1 n z c (nI k_2) 2).toInt64)).2.2.1) b tb1 n z c ((FX3_siteNow g b tb1 n z c (nI k_2) 3).toInt64)).2.2.1) b tb1 n z c ((FX3_siteNow g b tb1 n z c (nI k_2) 4).toInt64)).2.2.1) b tb1 n z c ((FX3_siteNow g b tb1 n z c (nI k_2) 5).toInt64)).2.2.2.1) ((FX3_mix g t1 ((FX3_mix g t1 ((FX3_mix g t1 ((FX3_mix g t1 ((FX3_mix g t1 ((FX3_mix g t1 gl1 b tb1 n z c ((FX3_siteNow g b tb1 n z c (nI k_2) 0).toInt64)).2.2.1) b tb1 n z c ((FX3_siteNow g b tb1 n z c (nI k_2) 1).toInt64)).2.2.1) b tb1 n z c ((FX3_siteNow g b tb1 n z c (nI k_2) 2).toInt64)).2.2.1) b tb1 n z c ((FX3_siteNow g b tb1 n z c (nI k_2) 3).toInt64)).2.2.1) b tb1 n z c ((FX3_siteNow g b tb1 n z c (nI k_2) 4).toInt64)).2.2.1) b tb1 n z c ((FX3_siteNow g b tb1 n z c (nI k_2) 5).toInt64)).2.2.2.2)) H1 := hP1
      clear hP1
      generalize H1 = H at hP hS ⊢
      rw [show (FX3_mix g t1 ((FX3_mix g t1 ((FX3_mix g t1 ((FX3_mix g t1 ((FX3_mix g t1 ((FX3_mix g t1 gl1 b tb1 n z c ((FX3_siteNow g b tb1 n z c (nI k_2) 0).toInt64)).2.2.1) b tb1 n z c ((FX3_siteNow g b tb1 n z c (nI k_2) 1).toInt64)).2.2.1) b tb1 n z c ((FX3_siteNow g b tb1 n z c (nI k_2) 2).toInt64)).2.2.1) b tb1 n z c ((FX3_siteNow g b tb1 n z c (nI k_2) 3).toInt64)).2.2.1) b tb1 n z c ((FX3_siteNow g b tb1 n z c (nI k_2) 4).toInt64)).2.2.1) b tb1 n z c ((FX3_siteNow g b tb1 n z c (nI k_2) 5).toInt64)).1 = g from kp_mix_g ..] at hP
      rw [show (FX3_mix g t1 ((FX3_mix g t1 ((FX3_mix g t1 ((FX3_mix g t1 ((FX3_mix g t1 ((FX3_mix g t1 gl1 b tb1 n z c ((FX3_siteNow g b tb1 n z c (nI k_2) 0).toInt64)).2.2.1) b tb1 n z c ((FX3_siteNow g b tb1 n z c (nI k_2) 1).toInt64)).2.2.1) b tb1 n z c ((FX3_siteNow g b tb1 n z c (nI k_2) 2).toInt64)).2.2.1) b tb1 n z c ((FX3_siteNow g b tb1 n z c (nI k_2) 3).toInt64)).2.2.1) b tb1 n z c ((FX3_siteNow g b tb1 n z c (nI k_2) 4).toInt64)).2.2.1) b tb1 n z c ((FX3_siteNow g b tb1 n z c (nI k_2) 5).toInt64)).2.1 = t1 from kp_mix_t ..] at hP
      rw [show (FX3_mix g t1 ((FX3_mix g t1 ((FX3_mix g t1 ((FX3_mix g t1 ((FX3_mix g t1 ((FX3_mix g t1 gl1 b tb1 n z c ((FX3_siteNow g b tb1 n z c (nI k_2) 0).toInt64)).2.2.1) b tb1 n z c ((FX3_siteNow g b tb1 n z c (nI k_2) 1).toInt64)).2.2.1) b tb1 n z c ((FX3_siteNow g b tb1 n z c (nI k_2) 2).toInt64)).2.2.1) b tb1 n z c ((FX3_siteNow g b tb1 n z c (nI k_2) 3).toInt64)).2.2.1) b tb1 n z c ((FX3_siteNow g b tb1 n z c (nI k_2) 4).toInt64)).2.2.1) b tb1 n z c ((FX3_siteNow g b tb1 n z c (nI k_2) 5).toInt64)).2.2.2.1 = b from kp_mix_b ..] at hP
      rw [show (FX3_mix g t1 ((FX3_mix g t1 ((FX3_mix g t1 ((FX3_mix g t1 ((FX3_mix g t1 ((FX3_mix g t1 gl1 b tb1 n z c ((FX3_siteNow g b tb1 n z c (nI k_2) 0).toInt64)).2.2.1) b tb1 n z c ((FX3_siteNow g b tb1 n z c (nI k_2) 1).toInt64)).2.2.1) b tb1 n z c ((FX3_siteNow g b tb1 n z c (nI k_2) 2).toInt64)).2.2.1) b tb1 n z c ((FX3_siteNow g b tb1 n z c (nI k_2) 3).toInt64)).2.2.1) b tb1 n z c ((FX3_siteNow g b tb1 n z c (nI k_2) 4).toInt64)).2.2.1) b tb1 n z c ((FX3_siteNow g b tb1 n z c (nI k_2) 5).toInt64)).2.2.2.2 = tb1 from kp_mix_tb ..] at hP
      have hP : va_P D vwCl (wM cI cB ad g t1 ((FX3_mix g t1 ((FX3_mix g t1 ((FX3_mix g t1 ((FX3_mix g t1 ((FX3_mix g t1 ((FX3_mix g t1 gl1 b tb1 n z c ((FX3_siteNow g b tb1 n z c (nI k_2) 0).toInt64)).2.2.1) b tb1 n z c ((FX3_siteNow g b tb1 n z c (nI k_2) 1).toInt64)).2.2.1) b tb1 n z c ((FX3_siteNow g b tb1 n z c (nI k_2) 2).toInt64)).2.2.1) b tb1 n z c ((FX3_siteNow g b tb1 n z c (nI k_2) 3).toInt64)).2.2.1) b tb1 n z c ((FX3_siteNow g b tb1 n z c (nI k_2) 4).toInt64)).2.2.1) b tb1 n z c ((FX3_siteNow g b tb1 n z c (nI k_2) 5).toInt64)).2.2.1) b tb1) H := hP
      refine lv_iinc (v := 6) (k := 0) (lv' := [(2, .int 6), (1, .int (nI k_2)), (0, .ref (ad 0))]) E.1 E.2.1 dX3_digest_36 hl rfl (by decide) (by decide) rfl (fun ls hl => ?_)
      refine lv_goto (tgt := 19) E.1 E.2.1 dX3_digest_39 (by decide) ?_
      refine lv_iload_n E.1 E.2.1 dX3_digest_19 rfl (lv_at hl 0 rfl) ?_
      refine lv_bipush (v := 7) E.1 E.2.1 dX3_digest_20 (by decide) ?_
      refine lv_icmp_ge (x := 6) (y := 7) (tgt := 42) E.1 E.2.1 dX3_digest_22 (by decide) (fun h9 => absurd h9 (by decide)) (fun _ => ?_)
      refine lv_aload_n E.1 E.2.1 dX3_digest_25 rfl (lv_at hl 2 rfl) ?_
      refine lv_aload_n E.1 E.2.1 dX3_digest_26 rfl (lv_at hl 2 rfl) ?_
      refine lv_iload_n E.1 E.2.1 dX3_digest_27 rfl (lv_at hl 1 rfl) ?_
      refine lv_iload_n E.1 E.2.1 dX3_digest_28 rfl (lv_at hl 0 rfl) ?_
      refine g_VR (As := [.int (nI k_2), .int 6]) (rest := [.ref (ad 0)]) E hK hP (c_X3_siteNow l D cI cB ad g t1 ((FX3_mix g t1 ((FX3_mix g t1 ((FX3_mix g t1 ((FX3_mix g t1 ((FX3_mix g t1 ((FX3_mix g t1 gl1 b tb1 n z c ((FX3_siteNow g b tb1 n z c (nI k_2) 0).toInt64)).2.2.1) b tb1 n z c ((FX3_siteNow g b tb1 n z c (nI k_2) 1).toInt64)).2.2.1) b tb1 n z c ((FX3_siteNow g b tb1 n z c (nI k_2) 2).toInt64)).2.2.1) b tb1 n z c ((FX3_siteNow g b tb1 n z c (nI k_2) 3).toInt64)).2.2.1) b tb1 n z c ((FX3_siteNow g b tb1 n z c (nI k_2) 4).toInt64)).2.2.1) b tb1 n z c ((FX3_siteNow g b tb1 n z c (nI k_2) 5).toInt64)).2.2.1) b tb1 n z c hM (nI k_2) 6 (vp_in_nI (by omega) (by omega))) (cwV 2 E.2.2.2.2 gX3_digest_X3_siteNow rfl rfl rfl (by decide +kernel) ⟨Nat.le_of_ble_eq_true rfl, Nat.le_of_ble_eq_true rfl⟩) (rm0x hK hP) rfl hl.1 rfl (Nat.le_of_ble_eq_true rfl) dX3_digest_29 ⟨Nat.zero_le _, Nat.zero_le _⟩ ?_
      refine lv_i2l E.1 E.2.1 dX3_digest_32 rfl ?_
      refine g_VWv (As := [.long ((FX3_siteNow g b tb1 n z c (nI k_2) 6).toInt64)]) (rest := []) E hK hP hS (fun q h => h) (c_X3_mix l D cI cB ad g t1 ((FX3_mix g t1 ((FX3_mix g t1 ((FX3_mix g t1 ((FX3_mix g t1 ((FX3_mix g t1 ((FX3_mix g t1 gl1 b tb1 n z c ((FX3_siteNow g b tb1 n z c (nI k_2) 0).toInt64)).2.2.1) b tb1 n z c ((FX3_siteNow g b tb1 n z c (nI k_2) 1).toInt64)).2.2.1) b tb1 n z c ((FX3_siteNow g b tb1 n z c (nI k_2) 2).toInt64)).2.2.1) b tb1 n z c ((FX3_siteNow g b tb1 n z c (nI k_2) 3).toInt64)).2.2.1) b tb1 n z c ((FX3_siteNow g b tb1 n z c (nI k_2) 4).toInt64)).2.2.1) b tb1 n z c ((FX3_siteNow g b tb1 n z c (nI k_2) 5).toInt64)).2.2.1) b tb1 n z c hM hI ((FX3_siteNow g b tb1 n z c (nI k_2) 6).toInt64)) (cwV 1 E.2.2.2.2 gX3_digest_X3_mix rfl rfl rfl (by decide +kernel) ⟨Nat.le_of_ble_eq_true rfl, Nat.le_of_ble_eq_true rfl⟩) (rm0x hK hP) rfl hl.1 rfl (Nat.le_of_ble_eq_true rfl) dX3_digest_33 ⟨Nat.zero_le _, Nat.zero_le _⟩ (fun u_86 H1 locs hp_88 hP1 hq_89 hS => ?_)
      obtain rfl : u_86 = FX3_mix g t1 ((FX3_mix g t1 ((FX3_mix g t1 ((FX3_mix g t1 ((FX3_mix g t1 ((FX3_mix g t1 ((FX3_mix g t1 gl1 b tb1 n z c ((FX3_siteNow g b tb1 n z c (nI k_2) 0).toInt64)).2.2.1) b tb1 n z c ((FX3_siteNow g b tb1 n z c (nI k_2) 1).toInt64)).2.2.1) b tb1 n z c ((FX3_siteNow g b tb1 n z c (nI k_2) 2).toInt64)).2.2.1) b tb1 n z c ((FX3_siteNow g b tb1 n z c (nI k_2) 3).toInt64)).2.2.1) b tb1 n z c ((FX3_siteNow g b tb1 n z c (nI k_2) 4).toInt64)).2.2.1) b tb1 n z c ((FX3_siteNow g b tb1 n z c (nI k_2) 5).toInt64)).2.2.1) b tb1 n z c ((FX3_siteNow g b tb1 n z c (nI k_2) 6).toInt64) := hp_88
      have hP : va_P D vwCl (wM cI cB ad ((FX3_mix g t1 ((FX3_mix g t1 ((FX3_mix g t1 ((FX3_mix g t1 ((FX3_mix g t1 ((FX3_mix g t1 ((FX3_mix g t1 gl1 b tb1 n z c ((FX3_siteNow g b tb1 n z c (nI k_2) 0).toInt64)).2.2.1) b tb1 n z c ((FX3_siteNow g b tb1 n z c (nI k_2) 1).toInt64)).2.2.1) b tb1 n z c ((FX3_siteNow g b tb1 n z c (nI k_2) 2).toInt64)).2.2.1) b tb1 n z c ((FX3_siteNow g b tb1 n z c (nI k_2) 3).toInt64)).2.2.1) b tb1 n z c ((FX3_siteNow g b tb1 n z c (nI k_2) 4).toInt64)).2.2.1) b tb1 n z c ((FX3_siteNow g b tb1 n z c (nI k_2) 5).toInt64)).2.2.1) b tb1 n z c ((FX3_siteNow g b tb1 n z c (nI k_2) 6).toInt64)).1) ((FX3_mix g t1 ((FX3_mix g t1 ((FX3_mix g t1 ((FX3_mix g t1 ((FX3_mix g t1 ((FX3_mix g t1 ((FX3_mix g t1 gl1 b tb1 n z c ((FX3_siteNow g b tb1 n z c (nI k_2) 0).toInt64)).2.2.1) b tb1 n z c ((FX3_siteNow g b tb1 n z c (nI k_2) 1).toInt64)).2.2.1) b tb1 n z c ((FX3_siteNow g b tb1 n z c (nI k_2) 2).toInt64)).2.2.1) b tb1 n z c ((FX3_siteNow g b tb1 n z c (nI k_2) 3).toInt64)).2.2.1) b tb1 n z c ((FX3_siteNow g b tb1 n z c (nI k_2) 4).toInt64)).2.2.1) b tb1 n z c ((FX3_siteNow g b tb1 n z c (nI k_2) 5).toInt64)).2.2.1) b tb1 n z c ((FX3_siteNow g b tb1 n z c (nI k_2) 6).toInt64)).2.1) ((FX3_mix g t1 ((FX3_mix g t1 ((FX3_mix g t1 ((FX3_mix g t1 ((FX3_mix g t1 ((FX3_mix g t1 ((FX3_mix g t1 gl1 b tb1 n z c ((FX3_siteNow g b tb1 n z c (nI k_2) 0).toInt64)).2.2.1) b tb1 n z c ((FX3_siteNow g b tb1 n z c (nI k_2) 1).toInt64)).2.2.1) b tb1 n z c ((FX3_siteNow g b tb1 n z c (nI k_2) 2).toInt64)).2.2.1) b tb1 n z c ((FX3_siteNow g b tb1 n z c (nI k_2) 3).toInt64)).2.2.1) b tb1 n z c ((FX3_siteNow g b tb1 n z c (nI k_2) 4).toInt64)).2.2.1) b tb1 n z c ((FX3_siteNow g b tb1 n z c (nI k_2) 5).toInt64)).2.2.1) b tb1 n z c ((FX3_siteNow g b tb1 n z c (nI k_2) 6).toInt64)).2.2.1) ((FX3_mix g t1 ((FX3_mix g t1 ((FX3_mix g t1 ((FX3_mix g t1 ((FX3_mix g t1 ((FX3_mix g t1 ((FX3_mix g t1 gl1 b tb1 n z c ((FX3_siteNow g b tb1 n z c (nI k_2) 0).toInt64)).2.2.1) b tb1 n z c ((FX3_siteNow g b tb1 n z c (nI k_2) 1).toInt64)).2.2.1) b tb1 n z c ((FX3_siteNow g b tb1 n z c (nI k_2) 2).toInt64)).2.2.1) b tb1 n z c ((FX3_siteNow g b tb1 n z c (nI k_2) 3).toInt64)).2.2.1) b tb1 n z c ((FX3_siteNow g b tb1 n z c (nI k_2) 4).toInt64)).2.2.1) b tb1 n z c ((FX3_siteNow g b tb1 n z c (nI k_2) 5).toInt64)).2.2.1) b tb1 n z c ((FX3_siteNow g b tb1 n z c (nI k_2) 6).toInt64)).2.2.2.1) ((FX3_mix g t1 ((FX3_mix g t1 ((FX3_mix g t1 ((FX3_mix g t1 ((FX3_mix g t1 ((FX3_mix g t1 ((FX3_mix g t1 gl1 b tb1 n z c ((FX3_siteNow g b tb1 n z c (nI k_2) 0).toInt64)).2.2.1) b tb1 n z c ((FX3_siteNow g b tb1 n z c (nI k_2) 1).toInt64)).2.2.1) b tb1 n z c ((FX3_siteNow g b tb1 n z c (nI k_2) 2).toInt64)).2.2.1) b tb1 n z c ((FX3_siteNow g b tb1 n z c (nI k_2) 3).toInt64)).2.2.1) b tb1 n z c ((FX3_siteNow g b tb1 n z c (nI k_2) 4).toInt64)).2.2.1) b tb1 n z c ((FX3_siteNow g b tb1 n z c (nI k_2) 5).toInt64)).2.2.1) b tb1 n z c ((FX3_siteNow g b tb1 n z c (nI k_2) 6).toInt64)).2.2.2.2)) H1 := hP1
      clear hP1
      generalize H1 = H at hP hS ⊢
      rw [show (FX3_mix g t1 ((FX3_mix g t1 ((FX3_mix g t1 ((FX3_mix g t1 ((FX3_mix g t1 ((FX3_mix g t1 ((FX3_mix g t1 gl1 b tb1 n z c ((FX3_siteNow g b tb1 n z c (nI k_2) 0).toInt64)).2.2.1) b tb1 n z c ((FX3_siteNow g b tb1 n z c (nI k_2) 1).toInt64)).2.2.1) b tb1 n z c ((FX3_siteNow g b tb1 n z c (nI k_2) 2).toInt64)).2.2.1) b tb1 n z c ((FX3_siteNow g b tb1 n z c (nI k_2) 3).toInt64)).2.2.1) b tb1 n z c ((FX3_siteNow g b tb1 n z c (nI k_2) 4).toInt64)).2.2.1) b tb1 n z c ((FX3_siteNow g b tb1 n z c (nI k_2) 5).toInt64)).2.2.1) b tb1 n z c ((FX3_siteNow g b tb1 n z c (nI k_2) 6).toInt64)).1 = g from kp_mix_g ..] at hP
      rw [show (FX3_mix g t1 ((FX3_mix g t1 ((FX3_mix g t1 ((FX3_mix g t1 ((FX3_mix g t1 ((FX3_mix g t1 ((FX3_mix g t1 gl1 b tb1 n z c ((FX3_siteNow g b tb1 n z c (nI k_2) 0).toInt64)).2.2.1) b tb1 n z c ((FX3_siteNow g b tb1 n z c (nI k_2) 1).toInt64)).2.2.1) b tb1 n z c ((FX3_siteNow g b tb1 n z c (nI k_2) 2).toInt64)).2.2.1) b tb1 n z c ((FX3_siteNow g b tb1 n z c (nI k_2) 3).toInt64)).2.2.1) b tb1 n z c ((FX3_siteNow g b tb1 n z c (nI k_2) 4).toInt64)).2.2.1) b tb1 n z c ((FX3_siteNow g b tb1 n z c (nI k_2) 5).toInt64)).2.2.1) b tb1 n z c ((FX3_siteNow g b tb1 n z c (nI k_2) 6).toInt64)).2.1 = t1 from kp_mix_t ..] at hP
      rw [show (FX3_mix g t1 ((FX3_mix g t1 ((FX3_mix g t1 ((FX3_mix g t1 ((FX3_mix g t1 ((FX3_mix g t1 ((FX3_mix g t1 gl1 b tb1 n z c ((FX3_siteNow g b tb1 n z c (nI k_2) 0).toInt64)).2.2.1) b tb1 n z c ((FX3_siteNow g b tb1 n z c (nI k_2) 1).toInt64)).2.2.1) b tb1 n z c ((FX3_siteNow g b tb1 n z c (nI k_2) 2).toInt64)).2.2.1) b tb1 n z c ((FX3_siteNow g b tb1 n z c (nI k_2) 3).toInt64)).2.2.1) b tb1 n z c ((FX3_siteNow g b tb1 n z c (nI k_2) 4).toInt64)).2.2.1) b tb1 n z c ((FX3_siteNow g b tb1 n z c (nI k_2) 5).toInt64)).2.2.1) b tb1 n z c ((FX3_siteNow g b tb1 n z c (nI k_2) 6).toInt64)).2.2.2.1 = b from kp_mix_b ..] at hP
      rw [show (FX3_mix g t1 ((FX3_mix g t1 ((FX3_mix g t1 ((FX3_mix g t1 ((FX3_mix g t1 ((FX3_mix g t1 ((FX3_mix g t1 gl1 b tb1 n z c ((FX3_siteNow g b tb1 n z c (nI k_2) 0).toInt64)).2.2.1) b tb1 n z c ((FX3_siteNow g b tb1 n z c (nI k_2) 1).toInt64)).2.2.1) b tb1 n z c ((FX3_siteNow g b tb1 n z c (nI k_2) 2).toInt64)).2.2.1) b tb1 n z c ((FX3_siteNow g b tb1 n z c (nI k_2) 3).toInt64)).2.2.1) b tb1 n z c ((FX3_siteNow g b tb1 n z c (nI k_2) 4).toInt64)).2.2.1) b tb1 n z c ((FX3_siteNow g b tb1 n z c (nI k_2) 5).toInt64)).2.2.1) b tb1 n z c ((FX3_siteNow g b tb1 n z c (nI k_2) 6).toInt64)).2.2.2.2 = tb1 from kp_mix_tb ..] at hP
      have hP : va_P D vwCl (wM cI cB ad g t1 ((FX3_mix g t1 ((FX3_mix g t1 ((FX3_mix g t1 ((FX3_mix g t1 ((FX3_mix g t1 ((FX3_mix g t1 ((FX3_mix g t1 gl1 b tb1 n z c ((FX3_siteNow g b tb1 n z c (nI k_2) 0).toInt64)).2.2.1) b tb1 n z c ((FX3_siteNow g b tb1 n z c (nI k_2) 1).toInt64)).2.2.1) b tb1 n z c ((FX3_siteNow g b tb1 n z c (nI k_2) 2).toInt64)).2.2.1) b tb1 n z c ((FX3_siteNow g b tb1 n z c (nI k_2) 3).toInt64)).2.2.1) b tb1 n z c ((FX3_siteNow g b tb1 n z c (nI k_2) 4).toInt64)).2.2.1) b tb1 n z c ((FX3_siteNow g b tb1 n z c (nI k_2) 5).toInt64)).2.2.1) b tb1 n z c ((FX3_siteNow g b tb1 n z c (nI k_2) 6).toInt64)).2.2.1) b tb1) H := hP
      refine lv_iinc (v := 7) (k := 0) (lv' := [(2, .int 7), (1, .int (nI k_2)), (0, .ref (ad 0))]) E.1 E.2.1 dX3_digest_36 hl rfl (by decide) (by decide) rfl (fun ls hl => ?_)
      refine lv_goto (tgt := 19) E.1 E.2.1 dX3_digest_39 (by decide) ?_
      refine lv_iload_n E.1 E.2.1 dX3_digest_19 rfl (lv_at hl 0 rfl) ?_
      refine lv_bipush (v := 7) E.1 E.2.1 dX3_digest_20 (by decide) ?_
      refine lv_icmp_ge (x := 7) (y := 7) (tgt := 42) E.1 E.2.1 dX3_digest_22 (by decide) (fun _ => ?_) (fun h9 => absurd (by decide) h9)
      refine lv_aload_n E.1 E.2.1 dX3_digest_42 rfl (lv_at hl 2 rfl) ?_
      refine lv_aload_n E.1 E.2.1 dX3_digest_43 rfl (lv_at hl 2 rfl) ?_
      refine lv_iload_n E.1 E.2.1 dX3_digest_44 rfl (lv_at hl 1 rfl) ?_
      refine lv_iconst (v := 0) E.1 E.2.1 dX3_digest_45 (by decide) ?_
      refine g_VR (As := [.int (nI k_2), .int 0]) (rest := [.ref (ad 0)]) E hK hP (c_X3_needOf l D cI cB ad g t1 ((FX3_mix g t1 ((FX3_mix g t1 ((FX3_mix g t1 ((FX3_mix g t1 ((FX3_mix g t1 ((FX3_mix g t1 ((FX3_mix g t1 gl1 b tb1 n z c ((FX3_siteNow g b tb1 n z c (nI k_2) 0).toInt64)).2.2.1) b tb1 n z c ((FX3_siteNow g b tb1 n z c (nI k_2) 1).toInt64)).2.2.1) b tb1 n z c ((FX3_siteNow g b tb1 n z c (nI k_2) 2).toInt64)).2.2.1) b tb1 n z c ((FX3_siteNow g b tb1 n z c (nI k_2) 3).toInt64)).2.2.1) b tb1 n z c ((FX3_siteNow g b tb1 n z c (nI k_2) 4).toInt64)).2.2.1) b tb1 n z c ((FX3_siteNow g b tb1 n z c (nI k_2) 5).toInt64)).2.2.1) b tb1 n z c ((FX3_siteNow g b tb1 n z c (nI k_2) 6).toInt64)).2.2.1) b tb1 n z c hM (nI k_2) 0 (vp_in_nI (by omega) (by omega)) (by omega)) (cwV 2 E.2.2.2.2 gX3_digest_X3_needOf rfl rfl rfl (by decide +kernel) ⟨Nat.le_of_ble_eq_true rfl, Nat.le_of_ble_eq_true rfl⟩) (rm0x hK hP) rfl hl.1 rfl (Nat.le_of_ble_eq_true rfl) dX3_digest_46 ⟨Nat.zero_le _, Nat.zero_le _⟩ ?_
      refine lv_i2l E.1 E.2.1 dX3_digest_49 rfl ?_
      refine g_VWv (As := [.long ((FX3_needOf g b tb1 n z c (nI k_2) 0).toInt64)]) (rest := []) E hK hP hS (fun q h => h) (c_X3_mix l D cI cB ad g t1 ((FX3_mix g t1 ((FX3_mix g t1 ((FX3_mix g t1 ((FX3_mix g t1 ((FX3_mix g t1 ((FX3_mix g t1 ((FX3_mix g t1 gl1 b tb1 n z c ((FX3_siteNow g b tb1 n z c (nI k_2) 0).toInt64)).2.2.1) b tb1 n z c ((FX3_siteNow g b tb1 n z c (nI k_2) 1).toInt64)).2.2.1) b tb1 n z c ((FX3_siteNow g b tb1 n z c (nI k_2) 2).toInt64)).2.2.1) b tb1 n z c ((FX3_siteNow g b tb1 n z c (nI k_2) 3).toInt64)).2.2.1) b tb1 n z c ((FX3_siteNow g b tb1 n z c (nI k_2) 4).toInt64)).2.2.1) b tb1 n z c ((FX3_siteNow g b tb1 n z c (nI k_2) 5).toInt64)).2.2.1) b tb1 n z c ((FX3_siteNow g b tb1 n z c (nI k_2) 6).toInt64)).2.2.1) b tb1 n z c hM hI ((FX3_needOf g b tb1 n z c (nI k_2) 0).toInt64)) (cwV 1 E.2.2.2.2 gX3_digest_X3_mix rfl rfl rfl (by decide +kernel) ⟨Nat.le_of_ble_eq_true rfl, Nat.le_of_ble_eq_true rfl⟩) (rm0x hK hP) rfl hl.1 rfl (Nat.le_of_ble_eq_true rfl) dX3_digest_50 ⟨Nat.zero_le _, Nat.zero_le _⟩ (fun u_90 H1 locs hp_92 hP1 hq_93 hS => ?_)
      obtain rfl : u_90 = FX3_mix g t1 ((FX3_mix g t1 ((FX3_mix g t1 ((FX3_mix g t1 ((FX3_mix g t1 ((FX3_mix g t1 ((FX3_mix g t1 ((FX3_mix g t1 gl1 b tb1 n z c ((FX3_siteNow g b tb1 n z c (nI k_2) 0).toInt64)).2.2.1) b tb1 n z c ((FX3_siteNow g b tb1 n z c (nI k_2) 1).toInt64)).2.2.1) b tb1 n z c ((FX3_siteNow g b tb1 n z c (nI k_2) 2).toInt64)).2.2.1) b tb1 n z c ((FX3_siteNow g b tb1 n z c (nI k_2) 3).toInt64)).2.2.1) b tb1 n z c ((FX3_siteNow g b tb1 n z c (nI k_2) 4).toInt64)).2.2.1) b tb1 n z c ((FX3_siteNow g b tb1 n z c (nI k_2) 5).toInt64)).2.2.1) b tb1 n z c ((FX3_siteNow g b tb1 n z c (nI k_2) 6).toInt64)).2.2.1) b tb1 n z c ((FX3_needOf g b tb1 n z c (nI k_2) 0).toInt64) := hp_92
      have hP : va_P D vwCl (wM cI cB ad ((FX3_mix g t1 ((FX3_mix g t1 ((FX3_mix g t1 ((FX3_mix g t1 ((FX3_mix g t1 ((FX3_mix g t1 ((FX3_mix g t1 ((FX3_mix g t1 gl1 b tb1 n z c ((FX3_siteNow g b tb1 n z c (nI k_2) 0).toInt64)).2.2.1) b tb1 n z c ((FX3_siteNow g b tb1 n z c (nI k_2) 1).toInt64)).2.2.1) b tb1 n z c ((FX3_siteNow g b tb1 n z c (nI k_2) 2).toInt64)).2.2.1) b tb1 n z c ((FX3_siteNow g b tb1 n z c (nI k_2) 3).toInt64)).2.2.1) b tb1 n z c ((FX3_siteNow g b tb1 n z c (nI k_2) 4).toInt64)).2.2.1) b tb1 n z c ((FX3_siteNow g b tb1 n z c (nI k_2) 5).toInt64)).2.2.1) b tb1 n z c ((FX3_siteNow g b tb1 n z c (nI k_2) 6).toInt64)).2.2.1) b tb1 n z c ((FX3_needOf g b tb1 n z c (nI k_2) 0).toInt64)).1) ((FX3_mix g t1 ((FX3_mix g t1 ((FX3_mix g t1 ((FX3_mix g t1 ((FX3_mix g t1 ((FX3_mix g t1 ((FX3_mix g t1 ((FX3_mix g t1 gl1 b tb1 n z c ((FX3_siteNow g b tb1 n z c (nI k_2) 0).toInt64)).2.2.1) b tb1 n z c ((FX3_siteNow g b tb1 n z c (nI k_2) 1).toInt64)).2.2.1) b tb1 n z c ((FX3_siteNow g b tb1 n z c (nI k_2) 2).toInt64)).2.2.1) b tb1 n z c ((FX3_siteNow g b tb1 n z c (nI k_2) 3).toInt64)).2.2.1) b tb1 n z c ((FX3_siteNow g b tb1 n z c (nI k_2) 4).toInt64)).2.2.1) b tb1 n z c ((FX3_siteNow g b tb1 n z c (nI k_2) 5).toInt64)).2.2.1) b tb1 n z c ((FX3_siteNow g b tb1 n z c (nI k_2) 6).toInt64)).2.2.1) b tb1 n z c ((FX3_needOf g b tb1 n z c (nI k_2) 0).toInt64)).2.1) ((FX3_mix g t1 ((FX3_mix g t1 ((FX3_mix g t1 ((FX3_mix g t1 ((FX3_mix g t1 ((FX3_mix g t1 ((FX3_mix g t1 ((FX3_mix g t1 gl1 b tb1 n z c ((FX3_siteNow g b tb1 n z c (nI k_2) 0).toInt64)).2.2.1) b tb1 n z c ((FX3_siteNow g b tb1 n z c (nI k_2) 1).toInt64)).2.2.1) b tb1 n z c ((FX3_siteNow g b tb1 n z c (nI k_2) 2).toInt64)).2.2.1) b tb1 n z c ((FX3_siteNow g b tb1 n z c (nI k_2) 3).toInt64)).2.2.1) b tb1 n z c ((FX3_siteNow g b tb1 n z c (nI k_2) 4).toInt64)).2.2.1) b tb1 n z c ((FX3_siteNow g b tb1 n z c (nI k_2) 5).toInt64)).2.2.1) b tb1 n z c ((FX3_siteNow g b tb1 n z c (nI k_2) 6).toInt64)).2.2.1) b tb1 n z c ((FX3_needOf g b tb1 n z c (nI k_2) 0).toInt64)).2.2.1) ((FX3_mix g t1 ((FX3_mix g t1 ((FX3_mix g t1 ((FX3_mix g t1 ((FX3_mix g t1 ((FX3_mix g t1 ((FX3_mix g t1 ((FX3_mix g t1 gl1 b tb1 n z c ((FX3_siteNow g b tb1 n z c (nI k_2) 0).toInt64)).2.2.1) b tb1 n z c ((FX3_siteNow g b tb1 n z c (nI k_2) 1).toInt64)).2.2.1) b tb1 n z c ((FX3_siteNow g b tb1 n z c (nI k_2) 2).toInt64)).2.2.1) b tb1 n z c ((FX3_siteNow g b tb1 n z c (nI k_2) 3).toInt64)).2.2.1) b tb1 n z c ((FX3_siteNow g b tb1 n z c (nI k_2) 4).toInt64)).2.2.1) b tb1 n z c ((FX3_siteNow g b tb1 n z c (nI k_2) 5).toInt64)).2.2.1) b tb1 n z c ((FX3_siteNow g b tb1 n z c (nI k_2) 6).toInt64)).2.2.1) b tb1 n z c ((FX3_needOf g b tb1 n z c (nI k_2) 0).toInt64)).2.2.2.1) ((FX3_mix g t1 ((FX3_mix g t1 ((FX3_mix g t1 ((FX3_mix g t1 ((FX3_mix g t1 ((FX3_mix g t1 ((FX3_mix g t1 ((FX3_mix g t1 gl1 b tb1 n z c ((FX3_siteNow g b tb1 n z c (nI k_2) 0).toInt64)).2.2.1) b tb1 n z c ((FX3_siteNow g b tb1 n z c (nI k_2) 1).toInt64)).2.2.1) b tb1 n z c ((FX3_siteNow g b tb1 n z c (nI k_2) 2).toInt64)).2.2.1) b tb1 n z c ((FX3_siteNow g b tb1 n z c (nI k_2) 3).toInt64)).2.2.1) b tb1 n z c ((FX3_siteNow g b tb1 n z c (nI k_2) 4).toInt64)).2.2.1) b tb1 n z c ((FX3_siteNow g b tb1 n z c (nI k_2) 5).toInt64)).2.2.1) b tb1 n z c ((FX3_siteNow g b tb1 n z c (nI k_2) 6).toInt64)).2.2.1) b tb1 n z c ((FX3_needOf g b tb1 n z c (nI k_2) 0).toInt64)).2.2.2.2)) H1 := hP1
      clear hP1
      generalize H1 = H at hP hS ⊢
      rw [show (FX3_mix g t1 ((FX3_mix g t1 ((FX3_mix g t1 ((FX3_mix g t1 ((FX3_mix g t1 ((FX3_mix g t1 ((FX3_mix g t1 ((FX3_mix g t1 gl1 b tb1 n z c ((FX3_siteNow g b tb1 n z c (nI k_2) 0).toInt64)).2.2.1) b tb1 n z c ((FX3_siteNow g b tb1 n z c (nI k_2) 1).toInt64)).2.2.1) b tb1 n z c ((FX3_siteNow g b tb1 n z c (nI k_2) 2).toInt64)).2.2.1) b tb1 n z c ((FX3_siteNow g b tb1 n z c (nI k_2) 3).toInt64)).2.2.1) b tb1 n z c ((FX3_siteNow g b tb1 n z c (nI k_2) 4).toInt64)).2.2.1) b tb1 n z c ((FX3_siteNow g b tb1 n z c (nI k_2) 5).toInt64)).2.2.1) b tb1 n z c ((FX3_siteNow g b tb1 n z c (nI k_2) 6).toInt64)).2.2.1) b tb1 n z c ((FX3_needOf g b tb1 n z c (nI k_2) 0).toInt64)).1 = g from kp_mix_g ..] at hP
      rw [show (FX3_mix g t1 ((FX3_mix g t1 ((FX3_mix g t1 ((FX3_mix g t1 ((FX3_mix g t1 ((FX3_mix g t1 ((FX3_mix g t1 ((FX3_mix g t1 gl1 b tb1 n z c ((FX3_siteNow g b tb1 n z c (nI k_2) 0).toInt64)).2.2.1) b tb1 n z c ((FX3_siteNow g b tb1 n z c (nI k_2) 1).toInt64)).2.2.1) b tb1 n z c ((FX3_siteNow g b tb1 n z c (nI k_2) 2).toInt64)).2.2.1) b tb1 n z c ((FX3_siteNow g b tb1 n z c (nI k_2) 3).toInt64)).2.2.1) b tb1 n z c ((FX3_siteNow g b tb1 n z c (nI k_2) 4).toInt64)).2.2.1) b tb1 n z c ((FX3_siteNow g b tb1 n z c (nI k_2) 5).toInt64)).2.2.1) b tb1 n z c ((FX3_siteNow g b tb1 n z c (nI k_2) 6).toInt64)).2.2.1) b tb1 n z c ((FX3_needOf g b tb1 n z c (nI k_2) 0).toInt64)).2.1 = t1 from kp_mix_t ..] at hP
      rw [show (FX3_mix g t1 ((FX3_mix g t1 ((FX3_mix g t1 ((FX3_mix g t1 ((FX3_mix g t1 ((FX3_mix g t1 ((FX3_mix g t1 ((FX3_mix g t1 gl1 b tb1 n z c ((FX3_siteNow g b tb1 n z c (nI k_2) 0).toInt64)).2.2.1) b tb1 n z c ((FX3_siteNow g b tb1 n z c (nI k_2) 1).toInt64)).2.2.1) b tb1 n z c ((FX3_siteNow g b tb1 n z c (nI k_2) 2).toInt64)).2.2.1) b tb1 n z c ((FX3_siteNow g b tb1 n z c (nI k_2) 3).toInt64)).2.2.1) b tb1 n z c ((FX3_siteNow g b tb1 n z c (nI k_2) 4).toInt64)).2.2.1) b tb1 n z c ((FX3_siteNow g b tb1 n z c (nI k_2) 5).toInt64)).2.2.1) b tb1 n z c ((FX3_siteNow g b tb1 n z c (nI k_2) 6).toInt64)).2.2.1) b tb1 n z c ((FX3_needOf g b tb1 n z c (nI k_2) 0).toInt64)).2.2.2.1 = b from kp_mix_b ..] at hP
      rw [show (FX3_mix g t1 ((FX3_mix g t1 ((FX3_mix g t1 ((FX3_mix g t1 ((FX3_mix g t1 ((FX3_mix g t1 ((FX3_mix g t1 ((FX3_mix g t1 gl1 b tb1 n z c ((FX3_siteNow g b tb1 n z c (nI k_2) 0).toInt64)).2.2.1) b tb1 n z c ((FX3_siteNow g b tb1 n z c (nI k_2) 1).toInt64)).2.2.1) b tb1 n z c ((FX3_siteNow g b tb1 n z c (nI k_2) 2).toInt64)).2.2.1) b tb1 n z c ((FX3_siteNow g b tb1 n z c (nI k_2) 3).toInt64)).2.2.1) b tb1 n z c ((FX3_siteNow g b tb1 n z c (nI k_2) 4).toInt64)).2.2.1) b tb1 n z c ((FX3_siteNow g b tb1 n z c (nI k_2) 5).toInt64)).2.2.1) b tb1 n z c ((FX3_siteNow g b tb1 n z c (nI k_2) 6).toInt64)).2.2.1) b tb1 n z c ((FX3_needOf g b tb1 n z c (nI k_2) 0).toInt64)).2.2.2.2 = tb1 from kp_mix_tb ..] at hP
      have hP : va_P D vwCl (wM cI cB ad g t1 ((FX3_mix g t1 ((FX3_mix g t1 ((FX3_mix g t1 ((FX3_mix g t1 ((FX3_mix g t1 ((FX3_mix g t1 ((FX3_mix g t1 ((FX3_mix g t1 gl1 b tb1 n z c ((FX3_siteNow g b tb1 n z c (nI k_2) 0).toInt64)).2.2.1) b tb1 n z c ((FX3_siteNow g b tb1 n z c (nI k_2) 1).toInt64)).2.2.1) b tb1 n z c ((FX3_siteNow g b tb1 n z c (nI k_2) 2).toInt64)).2.2.1) b tb1 n z c ((FX3_siteNow g b tb1 n z c (nI k_2) 3).toInt64)).2.2.1) b tb1 n z c ((FX3_siteNow g b tb1 n z c (nI k_2) 4).toInt64)).2.2.1) b tb1 n z c ((FX3_siteNow g b tb1 n z c (nI k_2) 5).toInt64)).2.2.1) b tb1 n z c ((FX3_siteNow g b tb1 n z c (nI k_2) 6).toInt64)).2.2.1) b tb1 n z c ((FX3_needOf g b tb1 n z c (nI k_2) 0).toInt64)).2.2.1) b tb1) H := hP
      refine lv_aload_n E.1 E.2.1 dX3_digest_53 rfl (lv_at hl 2 rfl) ?_
      refine lv_aload_n E.1 E.2.1 dX3_digest_54 rfl (lv_at hl 2 rfl) ?_
      refine lv_iload_n E.1 E.2.1 dX3_digest_55 rfl (lv_at hl 1 rfl) ?_
      refine lv_iconst (v := 1) E.1 E.2.1 dX3_digest_56 (by decide) ?_
      refine g_VR (As := [.int (nI k_2), .int 1]) (rest := [.ref (ad 0)]) E hK hP (c_X3_needOf l D cI cB ad g t1 ((FX3_mix g t1 ((FX3_mix g t1 ((FX3_mix g t1 ((FX3_mix g t1 ((FX3_mix g t1 ((FX3_mix g t1 ((FX3_mix g t1 ((FX3_mix g t1 gl1 b tb1 n z c ((FX3_siteNow g b tb1 n z c (nI k_2) 0).toInt64)).2.2.1) b tb1 n z c ((FX3_siteNow g b tb1 n z c (nI k_2) 1).toInt64)).2.2.1) b tb1 n z c ((FX3_siteNow g b tb1 n z c (nI k_2) 2).toInt64)).2.2.1) b tb1 n z c ((FX3_siteNow g b tb1 n z c (nI k_2) 3).toInt64)).2.2.1) b tb1 n z c ((FX3_siteNow g b tb1 n z c (nI k_2) 4).toInt64)).2.2.1) b tb1 n z c ((FX3_siteNow g b tb1 n z c (nI k_2) 5).toInt64)).2.2.1) b tb1 n z c ((FX3_siteNow g b tb1 n z c (nI k_2) 6).toInt64)).2.2.1) b tb1 n z c ((FX3_needOf g b tb1 n z c (nI k_2) 0).toInt64)).2.2.1) b tb1 n z c hM (nI k_2) 1 (vp_in_nI (by omega) (by omega)) (by omega)) (cwV 2 E.2.2.2.2 gX3_digest_X3_needOf rfl rfl rfl (by decide +kernel) ⟨Nat.le_of_ble_eq_true rfl, Nat.le_of_ble_eq_true rfl⟩) (rm0x hK hP) rfl hl.1 rfl (Nat.le_of_ble_eq_true rfl) dX3_digest_57 ⟨Nat.zero_le _, Nat.zero_le _⟩ ?_
      refine lv_i2l E.1 E.2.1 dX3_digest_60 rfl ?_
      refine g_VWv (As := [.long ((FX3_needOf g b tb1 n z c (nI k_2) 1).toInt64)]) (rest := []) E hK hP hS (fun q h => h) (c_X3_mix l D cI cB ad g t1 ((FX3_mix g t1 ((FX3_mix g t1 ((FX3_mix g t1 ((FX3_mix g t1 ((FX3_mix g t1 ((FX3_mix g t1 ((FX3_mix g t1 ((FX3_mix g t1 gl1 b tb1 n z c ((FX3_siteNow g b tb1 n z c (nI k_2) 0).toInt64)).2.2.1) b tb1 n z c ((FX3_siteNow g b tb1 n z c (nI k_2) 1).toInt64)).2.2.1) b tb1 n z c ((FX3_siteNow g b tb1 n z c (nI k_2) 2).toInt64)).2.2.1) b tb1 n z c ((FX3_siteNow g b tb1 n z c (nI k_2) 3).toInt64)).2.2.1) b tb1 n z c ((FX3_siteNow g b tb1 n z c (nI k_2) 4).toInt64)).2.2.1) b tb1 n z c ((FX3_siteNow g b tb1 n z c (nI k_2) 5).toInt64)).2.2.1) b tb1 n z c ((FX3_siteNow g b tb1 n z c (nI k_2) 6).toInt64)).2.2.1) b tb1 n z c ((FX3_needOf g b tb1 n z c (nI k_2) 0).toInt64)).2.2.1) b tb1 n z c hM hI ((FX3_needOf g b tb1 n z c (nI k_2) 1).toInt64)) (cwV 1 E.2.2.2.2 gX3_digest_X3_mix rfl rfl rfl (by decide +kernel) ⟨Nat.le_of_ble_eq_true rfl, Nat.le_of_ble_eq_true rfl⟩) (rm0x hK hP) rfl hl.1 rfl (Nat.le_of_ble_eq_true rfl) dX3_digest_61 ⟨Nat.zero_le _, Nat.zero_le _⟩ (fun u_94 H1 locs hp_96 hP1 hq_97 hS => ?_)
      obtain rfl : u_94 = FX3_mix g t1 ((FX3_mix g t1 ((FX3_mix g t1 ((FX3_mix g t1 ((FX3_mix g t1 ((FX3_mix g t1 ((FX3_mix g t1 ((FX3_mix g t1 ((FX3_mix g t1 gl1 b tb1 n z c ((FX3_siteNow g b tb1 n z c (nI k_2) 0).toInt64)).2.2.1) b tb1 n z c ((FX3_siteNow g b tb1 n z c (nI k_2) 1).toInt64)).2.2.1) b tb1 n z c ((FX3_siteNow g b tb1 n z c (nI k_2) 2).toInt64)).2.2.1) b tb1 n z c ((FX3_siteNow g b tb1 n z c (nI k_2) 3).toInt64)).2.2.1) b tb1 n z c ((FX3_siteNow g b tb1 n z c (nI k_2) 4).toInt64)).2.2.1) b tb1 n z c ((FX3_siteNow g b tb1 n z c (nI k_2) 5).toInt64)).2.2.1) b tb1 n z c ((FX3_siteNow g b tb1 n z c (nI k_2) 6).toInt64)).2.2.1) b tb1 n z c ((FX3_needOf g b tb1 n z c (nI k_2) 0).toInt64)).2.2.1) b tb1 n z c ((FX3_needOf g b tb1 n z c (nI k_2) 1).toInt64) := hp_96
      have hP : va_P D vwCl (wM cI cB ad ((FX3_mix g t1 ((FX3_mix g t1 ((FX3_mix g t1 ((FX3_mix g t1 ((FX3_mix g t1 ((FX3_mix g t1 ((FX3_mix g t1 ((FX3_mix g t1 ((FX3_mix g t1 gl1 b tb1 n z c ((FX3_siteNow g b tb1 n z c (nI k_2) 0).toInt64)).2.2.1) b tb1 n z c ((FX3_siteNow g b tb1 n z c (nI k_2) 1).toInt64)).2.2.1) b tb1 n z c ((FX3_siteNow g b tb1 n z c (nI k_2) 2).toInt64)).2.2.1) b tb1 n z c ((FX3_siteNow g b tb1 n z c (nI k_2) 3).toInt64)).2.2.1) b tb1 n z c ((FX3_siteNow g b tb1 n z c (nI k_2) 4).toInt64)).2.2.1) b tb1 n z c ((FX3_siteNow g b tb1 n z c (nI k_2) 5).toInt64)).2.2.1) b tb1 n z c ((FX3_siteNow g b tb1 n z c (nI k_2) 6).toInt64)).2.2.1) b tb1 n z c ((FX3_needOf g b tb1 n z c (nI k_2) 0).toInt64)).2.2.1) b tb1 n z c ((FX3_needOf g b tb1 n z c (nI k_2) 1).toInt64)).1) ((FX3_mix g t1 ((FX3_mix g t1 ((FX3_mix g t1 ((FX3_mix g t1 ((FX3_mix g t1 ((FX3_mix g t1 ((FX3_mix g t1 ((FX3_mix g t1 ((FX3_mix g t1 gl1 b tb1 n z c ((FX3_siteNow g b tb1 n z c (nI k_2) 0).toInt64)).2.2.1) b tb1 n z c ((FX3_siteNow g b tb1 n z c (nI k_2) 1).toInt64)).2.2.1) b tb1 n z c ((FX3_siteNow g b tb1 n z c (nI k_2) 2).toInt64)).2.2.1) b tb1 n z c ((FX3_siteNow g b tb1 n z c (nI k_2) 3).toInt64)).2.2.1) b tb1 n z c ((FX3_siteNow g b tb1 n z c (nI k_2) 4).toInt64)).2.2.1) b tb1 n z c ((FX3_siteNow g b tb1 n z c (nI k_2) 5).toInt64)).2.2.1) b tb1 n z c ((FX3_siteNow g b tb1 n z c (nI k_2) 6).toInt64)).2.2.1) b tb1 n z c ((FX3_needOf g b tb1 n z c (nI k_2) 0).toInt64)).2.2.1) b tb1 n z c ((FX3_needOf g b tb1 n z c (nI k_2) 1).toInt64)).2.1) ((FX3_mix g t1 ((FX3_mix g t1 ((FX3_mix g t1 ((FX3_mix g t1 ((FX3_mix g t1 ((FX3_mix g t1 ((FX3_mix g t1 ((FX3_mix g t1 ((FX3_mix g t1 gl1 b tb1 n z c ((FX3_siteNow g b tb1 n z c (nI k_2) 0).toInt64)).2.2.1) b tb1 n z c ((FX3_siteNow g b tb1 n z c (nI k_2) 1).toInt64)).2.2.1) b tb1 n z c ((FX3_siteNow g b tb1 n z c (nI k_2) 2).toInt64)).2.2.1) b tb1 n z c ((FX3_siteNow g b tb1 n z c (nI k_2) 3).toInt64)).2.2.1) b tb1 n z c ((FX3_siteNow g b tb1 n z c (nI k_2) 4).toInt64)).2.2.1) b tb1 n z c ((FX3_siteNow g b tb1 n z c (nI k_2) 5).toInt64)).2.2.1) b tb1 n z c ((FX3_siteNow g b tb1 n z c (nI k_2) 6).toInt64)).2.2.1) b tb1 n z c ((FX3_needOf g b tb1 n z c (nI k_2) 0).toInt64)).2.2.1) b tb1 n z c ((FX3_needOf g b tb1 n z c (nI k_2) 1).toInt64)).2.2.1) ((FX3_mix g t1 ((FX3_mix g t1 ((FX3_mix g t1 ((FX3_mix g t1 ((FX3_mix g t1 ((FX3_mix g t1 ((FX3_mix g t1 ((FX3_mix g t1 ((FX3_mix g t1 gl1 b tb1 n z c ((FX3_siteNow g b tb1 n z c (nI k_2) 0).toInt64)).2.2.1) b tb1 n z c ((FX3_siteNow g b tb1 n z c (nI k_2) 1).toInt64)).2.2.1) b tb1 n z c ((FX3_siteNow g b tb1 n z c (nI k_2) 2).toInt64)).2.2.1) b tb1 n z c ((FX3_siteNow g b tb1 n z c (nI k_2) 3).toInt64)).2.2.1) b tb1 n z c ((FX3_siteNow g b tb1 n z c (nI k_2) 4).toInt64)).2.2.1) b tb1 n z c ((FX3_siteNow g b tb1 n z c (nI k_2) 5).toInt64)).2.2.1) b tb1 n z c ((FX3_siteNow g b tb1 n z c (nI k_2) 6).toInt64)).2.2.1) b tb1 n z c ((FX3_needOf g b tb1 n z c (nI k_2) 0).toInt64)).2.2.1) b tb1 n z c ((FX3_needOf g b tb1 n z c (nI k_2) 1).toInt64)).2.2.2.1) ((FX3_mix g t1 ((FX3_mix g t1 ((FX3_mix g t1 ((FX3_mix g t1 ((FX3_mix g t1 ((FX3_mix g t1 ((FX3_mix g t1 ((FX3_mix g t1 ((FX3_mix g t1 gl1 b tb1 n z c ((FX3_siteNow g b tb1 n z c (nI k_2) 0).toInt64)).2.2.1) b tb1 n z c ((FX3_siteNow g b tb1 n z c (nI k_2) 1).toInt64)).2.2.1) b tb1 n z c ((FX3_siteNow g b tb1 n z c (nI k_2) 2).toInt64)).2.2.1) b tb1 n z c ((FX3_siteNow g b tb1 n z c (nI k_2) 3).toInt64)).2.2.1) b tb1 n z c ((FX3_siteNow g b tb1 n z c (nI k_2) 4).toInt64)).2.2.1) b tb1 n z c ((FX3_siteNow g b tb1 n z c (nI k_2) 5).toInt64)).2.2.1) b tb1 n z c ((FX3_siteNow g b tb1 n z c (nI k_2) 6).toInt64)).2.2.1) b tb1 n z c ((FX3_needOf g b tb1 n z c (nI k_2) 0).toInt64)).2.2.1) b tb1 n z c ((FX3_needOf g b tb1 n z c (nI k_2) 1).toInt64)).2.2.2.2)) H1 := hP1
      clear hP1
      generalize H1 = H at hP hS ⊢
      rw [show (FX3_mix g t1 ((FX3_mix g t1 ((FX3_mix g t1 ((FX3_mix g t1 ((FX3_mix g t1 ((FX3_mix g t1 ((FX3_mix g t1 ((FX3_mix g t1 ((FX3_mix g t1 gl1 b tb1 n z c ((FX3_siteNow g b tb1 n z c (nI k_2) 0).toInt64)).2.2.1) b tb1 n z c ((FX3_siteNow g b tb1 n z c (nI k_2) 1).toInt64)).2.2.1) b tb1 n z c ((FX3_siteNow g b tb1 n z c (nI k_2) 2).toInt64)).2.2.1) b tb1 n z c ((FX3_siteNow g b tb1 n z c (nI k_2) 3).toInt64)).2.2.1) b tb1 n z c ((FX3_siteNow g b tb1 n z c (nI k_2) 4).toInt64)).2.2.1) b tb1 n z c ((FX3_siteNow g b tb1 n z c (nI k_2) 5).toInt64)).2.2.1) b tb1 n z c ((FX3_siteNow g b tb1 n z c (nI k_2) 6).toInt64)).2.2.1) b tb1 n z c ((FX3_needOf g b tb1 n z c (nI k_2) 0).toInt64)).2.2.1) b tb1 n z c ((FX3_needOf g b tb1 n z c (nI k_2) 1).toInt64)).1 = g from kp_mix_g ..] at hP
      rw [show (FX3_mix g t1 ((FX3_mix g t1 ((FX3_mix g t1 ((FX3_mix g t1 ((FX3_mix g t1 ((FX3_mix g t1 ((FX3_mix g t1 ((FX3_mix g t1 ((FX3_mix g t1 gl1 b tb1 n z c ((FX3_siteNow g b tb1 n z c (nI k_2) 0).toInt64)).2.2.1) b tb1 n z c ((FX3_siteNow g b tb1 n z c (nI k_2) 1).toInt64)).2.2.1) b tb1 n z c ((FX3_siteNow g b tb1 n z c (nI k_2) 2).toInt64)).2.2.1) b tb1 n z c ((FX3_siteNow g b tb1 n z c (nI k_2) 3).toInt64)).2.2.1) b tb1 n z c ((FX3_siteNow g b tb1 n z c (nI k_2) 4).toInt64)).2.2.1) b tb1 n z c ((FX3_siteNow g b tb1 n z c (nI k_2) 5).toInt64)).2.2.1) b tb1 n z c ((FX3_siteNow g b tb1 n z c (nI k_2) 6).toInt64)).2.2.1) b tb1 n z c ((FX3_needOf g b tb1 n z c (nI k_2) 0).toInt64)).2.2.1) b tb1 n z c ((FX3_needOf g b tb1 n z c (nI k_2) 1).toInt64)).2.1 = t1 from kp_mix_t ..] at hP
      rw [show (FX3_mix g t1 ((FX3_mix g t1 ((FX3_mix g t1 ((FX3_mix g t1 ((FX3_mix g t1 ((FX3_mix g t1 ((FX3_mix g t1 ((FX3_mix g t1 ((FX3_mix g t1 gl1 b tb1 n z c ((FX3_siteNow g b tb1 n z c (nI k_2) 0).toInt64)).2.2.1) b tb1 n z c ((FX3_siteNow g b tb1 n z c (nI k_2) 1).toInt64)).2.2.1) b tb1 n z c ((FX3_siteNow g b tb1 n z c (nI k_2) 2).toInt64)).2.2.1) b tb1 n z c ((FX3_siteNow g b tb1 n z c (nI k_2) 3).toInt64)).2.2.1) b tb1 n z c ((FX3_siteNow g b tb1 n z c (nI k_2) 4).toInt64)).2.2.1) b tb1 n z c ((FX3_siteNow g b tb1 n z c (nI k_2) 5).toInt64)).2.2.1) b tb1 n z c ((FX3_siteNow g b tb1 n z c (nI k_2) 6).toInt64)).2.2.1) b tb1 n z c ((FX3_needOf g b tb1 n z c (nI k_2) 0).toInt64)).2.2.1) b tb1 n z c ((FX3_needOf g b tb1 n z c (nI k_2) 1).toInt64)).2.2.2.1 = b from kp_mix_b ..] at hP
      rw [show (FX3_mix g t1 ((FX3_mix g t1 ((FX3_mix g t1 ((FX3_mix g t1 ((FX3_mix g t1 ((FX3_mix g t1 ((FX3_mix g t1 ((FX3_mix g t1 ((FX3_mix g t1 gl1 b tb1 n z c ((FX3_siteNow g b tb1 n z c (nI k_2) 0).toInt64)).2.2.1) b tb1 n z c ((FX3_siteNow g b tb1 n z c (nI k_2) 1).toInt64)).2.2.1) b tb1 n z c ((FX3_siteNow g b tb1 n z c (nI k_2) 2).toInt64)).2.2.1) b tb1 n z c ((FX3_siteNow g b tb1 n z c (nI k_2) 3).toInt64)).2.2.1) b tb1 n z c ((FX3_siteNow g b tb1 n z c (nI k_2) 4).toInt64)).2.2.1) b tb1 n z c ((FX3_siteNow g b tb1 n z c (nI k_2) 5).toInt64)).2.2.1) b tb1 n z c ((FX3_siteNow g b tb1 n z c (nI k_2) 6).toInt64)).2.2.1) b tb1 n z c ((FX3_needOf g b tb1 n z c (nI k_2) 0).toInt64)).2.2.1) b tb1 n z c ((FX3_needOf g b tb1 n z c (nI k_2) 1).toInt64)).2.2.2.2 = tb1 from kp_mix_tb ..] at hP
      have hP : va_P D vwCl (wM cI cB ad g t1 ((FX3_mix g t1 ((FX3_mix g t1 ((FX3_mix g t1 ((FX3_mix g t1 ((FX3_mix g t1 ((FX3_mix g t1 ((FX3_mix g t1 ((FX3_mix g t1 ((FX3_mix g t1 gl1 b tb1 n z c ((FX3_siteNow g b tb1 n z c (nI k_2) 0).toInt64)).2.2.1) b tb1 n z c ((FX3_siteNow g b tb1 n z c (nI k_2) 1).toInt64)).2.2.1) b tb1 n z c ((FX3_siteNow g b tb1 n z c (nI k_2) 2).toInt64)).2.2.1) b tb1 n z c ((FX3_siteNow g b tb1 n z c (nI k_2) 3).toInt64)).2.2.1) b tb1 n z c ((FX3_siteNow g b tb1 n z c (nI k_2) 4).toInt64)).2.2.1) b tb1 n z c ((FX3_siteNow g b tb1 n z c (nI k_2) 5).toInt64)).2.2.1) b tb1 n z c ((FX3_siteNow g b tb1 n z c (nI k_2) 6).toInt64)).2.2.1) b tb1 n z c ((FX3_needOf g b tb1 n z c (nI k_2) 0).toInt64)).2.2.1) b tb1 n z c ((FX3_needOf g b tb1 n z c (nI k_2) 1).toInt64)).2.2.1) b tb1) H := hP
      refine lv_aload_n E.1 E.2.1 dX3_digest_64 rfl (lv_at hl 2 rfl) ?_
      refine lv_aload_n E.1 E.2.1 dX3_digest_65 rfl (lv_at hl 2 rfl) ?_
      refine lv_iload_n E.1 E.2.1 dX3_digest_66 rfl (lv_at hl 1 rfl) ?_
      refine lv_iconst (v := 5) E.1 E.2.1 dX3_digest_67 (by decide) ?_
      refine g_VR (As := [.int (nI k_2), .int 5]) (rest := [.ref (ad 0)]) E hK hP (c_X3_needOf l D cI cB ad g t1 ((FX3_mix g t1 ((FX3_mix g t1 ((FX3_mix g t1 ((FX3_mix g t1 ((FX3_mix g t1 ((FX3_mix g t1 ((FX3_mix g t1 ((FX3_mix g t1 ((FX3_mix g t1 gl1 b tb1 n z c ((FX3_siteNow g b tb1 n z c (nI k_2) 0).toInt64)).2.2.1) b tb1 n z c ((FX3_siteNow g b tb1 n z c (nI k_2) 1).toInt64)).2.2.1) b tb1 n z c ((FX3_siteNow g b tb1 n z c (nI k_2) 2).toInt64)).2.2.1) b tb1 n z c ((FX3_siteNow g b tb1 n z c (nI k_2) 3).toInt64)).2.2.1) b tb1 n z c ((FX3_siteNow g b tb1 n z c (nI k_2) 4).toInt64)).2.2.1) b tb1 n z c ((FX3_siteNow g b tb1 n z c (nI k_2) 5).toInt64)).2.2.1) b tb1 n z c ((FX3_siteNow g b tb1 n z c (nI k_2) 6).toInt64)).2.2.1) b tb1 n z c ((FX3_needOf g b tb1 n z c (nI k_2) 0).toInt64)).2.2.1) b tb1 n z c ((FX3_needOf g b tb1 n z c (nI k_2) 1).toInt64)).2.2.1) b tb1 n z c hM (nI k_2) 5 (vp_in_nI (by omega) (by omega)) (by omega)) (cwV 2 E.2.2.2.2 gX3_digest_X3_needOf rfl rfl rfl (by decide +kernel) ⟨Nat.le_of_ble_eq_true rfl, Nat.le_of_ble_eq_true rfl⟩) (rm0x hK hP) rfl hl.1 rfl (Nat.le_of_ble_eq_true rfl) dX3_digest_68 ⟨Nat.zero_le _, Nat.zero_le _⟩ ?_
      refine lv_i2l E.1 E.2.1 dX3_digest_71 rfl ?_
      refine g_VWv (As := [.long ((FX3_needOf g b tb1 n z c (nI k_2) 5).toInt64)]) (rest := []) E hK hP hS (fun q h => h) (c_X3_mix l D cI cB ad g t1 ((FX3_mix g t1 ((FX3_mix g t1 ((FX3_mix g t1 ((FX3_mix g t1 ((FX3_mix g t1 ((FX3_mix g t1 ((FX3_mix g t1 ((FX3_mix g t1 ((FX3_mix g t1 gl1 b tb1 n z c ((FX3_siteNow g b tb1 n z c (nI k_2) 0).toInt64)).2.2.1) b tb1 n z c ((FX3_siteNow g b tb1 n z c (nI k_2) 1).toInt64)).2.2.1) b tb1 n z c ((FX3_siteNow g b tb1 n z c (nI k_2) 2).toInt64)).2.2.1) b tb1 n z c ((FX3_siteNow g b tb1 n z c (nI k_2) 3).toInt64)).2.2.1) b tb1 n z c ((FX3_siteNow g b tb1 n z c (nI k_2) 4).toInt64)).2.2.1) b tb1 n z c ((FX3_siteNow g b tb1 n z c (nI k_2) 5).toInt64)).2.2.1) b tb1 n z c ((FX3_siteNow g b tb1 n z c (nI k_2) 6).toInt64)).2.2.1) b tb1 n z c ((FX3_needOf g b tb1 n z c (nI k_2) 0).toInt64)).2.2.1) b tb1 n z c ((FX3_needOf g b tb1 n z c (nI k_2) 1).toInt64)).2.2.1) b tb1 n z c hM hI ((FX3_needOf g b tb1 n z c (nI k_2) 5).toInt64)) (cwV 1 E.2.2.2.2 gX3_digest_X3_mix rfl rfl rfl (by decide +kernel) ⟨Nat.le_of_ble_eq_true rfl, Nat.le_of_ble_eq_true rfl⟩) (rm0x hK hP) rfl hl.1 rfl (Nat.le_of_ble_eq_true rfl) dX3_digest_72 ⟨Nat.zero_le _, Nat.zero_le _⟩ (fun u_98 H1 locs hp_100 hP1 hq_101 hS => ?_)
      obtain rfl : u_98 = FX3_mix g t1 ((FX3_mix g t1 ((FX3_mix g t1 ((FX3_mix g t1 ((FX3_mix g t1 ((FX3_mix g t1 ((FX3_mix g t1 ((FX3_mix g t1 ((FX3_mix g t1 ((FX3_mix g t1 gl1 b tb1 n z c ((FX3_siteNow g b tb1 n z c (nI k_2) 0).toInt64)).2.2.1) b tb1 n z c ((FX3_siteNow g b tb1 n z c (nI k_2) 1).toInt64)).2.2.1) b tb1 n z c ((FX3_siteNow g b tb1 n z c (nI k_2) 2).toInt64)).2.2.1) b tb1 n z c ((FX3_siteNow g b tb1 n z c (nI k_2) 3).toInt64)).2.2.1) b tb1 n z c ((FX3_siteNow g b tb1 n z c (nI k_2) 4).toInt64)).2.2.1) b tb1 n z c ((FX3_siteNow g b tb1 n z c (nI k_2) 5).toInt64)).2.2.1) b tb1 n z c ((FX3_siteNow g b tb1 n z c (nI k_2) 6).toInt64)).2.2.1) b tb1 n z c ((FX3_needOf g b tb1 n z c (nI k_2) 0).toInt64)).2.2.1) b tb1 n z c ((FX3_needOf g b tb1 n z c (nI k_2) 1).toInt64)).2.2.1) b tb1 n z c ((FX3_needOf g b tb1 n z c (nI k_2) 5).toInt64) := hp_100
      have hP : va_P D vwCl (wM cI cB ad ((FX3_mix g t1 ((FX3_mix g t1 ((FX3_mix g t1 ((FX3_mix g t1 ((FX3_mix g t1 ((FX3_mix g t1 ((FX3_mix g t1 ((FX3_mix g t1 ((FX3_mix g t1 ((FX3_mix g t1 gl1 b tb1 n z c ((FX3_siteNow g b tb1 n z c (nI k_2) 0).toInt64)).2.2.1) b tb1 n z c ((FX3_siteNow g b tb1 n z c (nI k_2) 1).toInt64)).2.2.1) b tb1 n z c ((FX3_siteNow g b tb1 n z c (nI k_2) 2).toInt64)).2.2.1) b tb1 n z c ((FX3_siteNow g b tb1 n z c (nI k_2) 3).toInt64)).2.2.1) b tb1 n z c ((FX3_siteNow g b tb1 n z c (nI k_2) 4).toInt64)).2.2.1) b tb1 n z c ((FX3_siteNow g b tb1 n z c (nI k_2) 5).toInt64)).2.2.1) b tb1 n z c ((FX3_siteNow g b tb1 n z c (nI k_2) 6).toInt64)).2.2.1) b tb1 n z c ((FX3_needOf g b tb1 n z c (nI k_2) 0).toInt64)).2.2.1) b tb1 n z c ((FX3_needOf g b tb1 n z c (nI k_2) 1).toInt64)).2.2.1) b tb1 n z c ((FX3_needOf g b tb1 n z c (nI k_2) 5).toInt64)).1) ((FX3_mix g t1 ((FX3_mix g t1 ((FX3_mix g t1 ((FX3_mix g t1 ((FX3_mix g t1 ((FX3_mix g t1 ((FX3_mix g t1 ((FX3_mix g t1 ((FX3_mix g t1 ((FX3_mix g t1 gl1 b tb1 n z c ((FX3_siteNow g b tb1 n z c (nI k_2) 0).toInt64)).2.2.1) b tb1 n z c ((FX3_siteNow g b tb1 n z c (nI k_2) 1).toInt64)).2.2.1) b tb1 n z c ((FX3_siteNow g b tb1 n z c (nI k_2) 2).toInt64)).2.2.1) b tb1 n z c ((FX3_siteNow g b tb1 n z c (nI k_2) 3).toInt64)).2.2.1) b tb1 n z c ((FX3_siteNow g b tb1 n z c (nI k_2) 4).toInt64)).2.2.1) b tb1 n z c ((FX3_siteNow g b tb1 n z c (nI k_2) 5).toInt64)).2.2.1) b tb1 n z c ((FX3_siteNow g b tb1 n z c (nI k_2) 6).toInt64)).2.2.1) b tb1 n z c ((FX3_needOf g b tb1 n z c (nI k_2) 0).toInt64)).2.2.1) b tb1 n z c ((FX3_needOf g b tb1 n z c (nI k_2) 1).toInt64)).2.2.1) b tb1 n z c ((FX3_needOf g b tb1 n z c (nI k_2) 5).toInt64)).2.1) ((FX3_mix g t1 ((FX3_mix g t1 ((FX3_mix g t1 ((FX3_mix g t1 ((FX3_mix g t1 ((FX3_mix g t1 ((FX3_mix g t1 ((FX3_mix g t1 ((FX3_mix g t1 ((FX3_mix g t1 gl1 b tb1 n z c ((FX3_siteNow g b tb1 n z c (nI k_2) 0).toInt64)).2.2.1) b tb1 n z c ((FX3_siteNow g b tb1 n z c (nI k_2) 1).toInt64)).2.2.1) b tb1 n z c ((FX3_siteNow g b tb1 n z c (nI k_2) 2).toInt64)).2.2.1) b tb1 n z c ((FX3_siteNow g b tb1 n z c (nI k_2) 3).toInt64)).2.2.1) b tb1 n z c ((FX3_siteNow g b tb1 n z c (nI k_2) 4).toInt64)).2.2.1) b tb1 n z c ((FX3_siteNow g b tb1 n z c (nI k_2) 5).toInt64)).2.2.1) b tb1 n z c ((FX3_siteNow g b tb1 n z c (nI k_2) 6).toInt64)).2.2.1) b tb1 n z c ((FX3_needOf g b tb1 n z c (nI k_2) 0).toInt64)).2.2.1) b tb1 n z c ((FX3_needOf g b tb1 n z c (nI k_2) 1).toInt64)).2.2.1) b tb1 n z c ((FX3_needOf g b tb1 n z c (nI k_2) 5).toInt64)).2.2.1) ((FX3_mix g t1 ((FX3_mix g t1 ((FX3_mix g t1 ((FX3_mix g t1 ((FX3_mix g t1 ((FX3_mix g t1 ((FX3_mix g t1 ((FX3_mix g t1 ((FX3_mix g t1 ((FX3_mix g t1 gl1 b tb1 n z c ((FX3_siteNow g b tb1 n z c (nI k_2) 0).toInt64)).2.2.1) b tb1 n z c ((FX3_siteNow g b tb1 n z c (nI k_2) 1).toInt64)).2.2.1) b tb1 n z c ((FX3_siteNow g b tb1 n z c (nI k_2) 2).toInt64)).2.2.1) b tb1 n z c ((FX3_siteNow g b tb1 n z c (nI k_2) 3).toInt64)).2.2.1) b tb1 n z c ((FX3_siteNow g b tb1 n z c (nI k_2) 4).toInt64)).2.2.1) b tb1 n z c ((FX3_siteNow g b tb1 n z c (nI k_2) 5).toInt64)).2.2.1) b tb1 n z c ((FX3_siteNow g b tb1 n z c (nI k_2) 6).toInt64)).2.2.1) b tb1 n z c ((FX3_needOf g b tb1 n z c (nI k_2) 0).toInt64)).2.2.1) b tb1 n z c ((FX3_needOf g b tb1 n z c (nI k_2) 1).toInt64)).2.2.1) b tb1 n z c ((FX3_needOf g b tb1 n z c (nI k_2) 5).toInt64)).2.2.2.1) ((FX3_mix g t1 ((FX3_mix g t1 ((FX3_mix g t1 ((FX3_mix g t1 ((FX3_mix g t1 ((FX3_mix g t1 ((FX3_mix g t1 ((FX3_mix g t1 ((FX3_mix g t1 ((FX3_mix g t1 gl1 b tb1 n z c ((FX3_siteNow g b tb1 n z c (nI k_2) 0).toInt64)).2.2.1) b tb1 n z c ((FX3_siteNow g b tb1 n z c (nI k_2) 1).toInt64)).2.2.1) b tb1 n z c ((FX3_siteNow g b tb1 n z c (nI k_2) 2).toInt64)).2.2.1) b tb1 n z c ((FX3_siteNow g b tb1 n z c (nI k_2) 3).toInt64)).2.2.1) b tb1 n z c ((FX3_siteNow g b tb1 n z c (nI k_2) 4).toInt64)).2.2.1) b tb1 n z c ((FX3_siteNow g b tb1 n z c (nI k_2) 5).toInt64)).2.2.1) b tb1 n z c ((FX3_siteNow g b tb1 n z c (nI k_2) 6).toInt64)).2.2.1) b tb1 n z c ((FX3_needOf g b tb1 n z c (nI k_2) 0).toInt64)).2.2.1) b tb1 n z c ((FX3_needOf g b tb1 n z c (nI k_2) 1).toInt64)).2.2.1) b tb1 n z c ((FX3_needOf g b tb1 n z c (nI k_2) 5).toInt64)).2.2.2.2)) H1 := hP1
      clear hP1
      generalize H1 = H at hP hS ⊢
      rw [show (FX3_mix g t1 ((FX3_mix g t1 ((FX3_mix g t1 ((FX3_mix g t1 ((FX3_mix g t1 ((FX3_mix g t1 ((FX3_mix g t1 ((FX3_mix g t1 ((FX3_mix g t1 ((FX3_mix g t1 gl1 b tb1 n z c ((FX3_siteNow g b tb1 n z c (nI k_2) 0).toInt64)).2.2.1) b tb1 n z c ((FX3_siteNow g b tb1 n z c (nI k_2) 1).toInt64)).2.2.1) b tb1 n z c ((FX3_siteNow g b tb1 n z c (nI k_2) 2).toInt64)).2.2.1) b tb1 n z c ((FX3_siteNow g b tb1 n z c (nI k_2) 3).toInt64)).2.2.1) b tb1 n z c ((FX3_siteNow g b tb1 n z c (nI k_2) 4).toInt64)).2.2.1) b tb1 n z c ((FX3_siteNow g b tb1 n z c (nI k_2) 5).toInt64)).2.2.1) b tb1 n z c ((FX3_siteNow g b tb1 n z c (nI k_2) 6).toInt64)).2.2.1) b tb1 n z c ((FX3_needOf g b tb1 n z c (nI k_2) 0).toInt64)).2.2.1) b tb1 n z c ((FX3_needOf g b tb1 n z c (nI k_2) 1).toInt64)).2.2.1) b tb1 n z c ((FX3_needOf g b tb1 n z c (nI k_2) 5).toInt64)).1 = g from kp_mix_g ..] at hP
      rw [show (FX3_mix g t1 ((FX3_mix g t1 ((FX3_mix g t1 ((FX3_mix g t1 ((FX3_mix g t1 ((FX3_mix g t1 ((FX3_mix g t1 ((FX3_mix g t1 ((FX3_mix g t1 ((FX3_mix g t1 gl1 b tb1 n z c ((FX3_siteNow g b tb1 n z c (nI k_2) 0).toInt64)).2.2.1) b tb1 n z c ((FX3_siteNow g b tb1 n z c (nI k_2) 1).toInt64)).2.2.1) b tb1 n z c ((FX3_siteNow g b tb1 n z c (nI k_2) 2).toInt64)).2.2.1) b tb1 n z c ((FX3_siteNow g b tb1 n z c (nI k_2) 3).toInt64)).2.2.1) b tb1 n z c ((FX3_siteNow g b tb1 n z c (nI k_2) 4).toInt64)).2.2.1) b tb1 n z c ((FX3_siteNow g b tb1 n z c (nI k_2) 5).toInt64)).2.2.1) b tb1 n z c ((FX3_siteNow g b tb1 n z c (nI k_2) 6).toInt64)).2.2.1) b tb1 n z c ((FX3_needOf g b tb1 n z c (nI k_2) 0).toInt64)).2.2.1) b tb1 n z c ((FX3_needOf g b tb1 n z c (nI k_2) 1).toInt64)).2.2.1) b tb1 n z c ((FX3_needOf g b tb1 n z c (nI k_2) 5).toInt64)).2.1 = t1 from kp_mix_t ..] at hP
      rw [show (FX3_mix g t1 ((FX3_mix g t1 ((FX3_mix g t1 ((FX3_mix g t1 ((FX3_mix g t1 ((FX3_mix g t1 ((FX3_mix g t1 ((FX3_mix g t1 ((FX3_mix g t1 ((FX3_mix g t1 gl1 b tb1 n z c ((FX3_siteNow g b tb1 n z c (nI k_2) 0).toInt64)).2.2.1) b tb1 n z c ((FX3_siteNow g b tb1 n z c (nI k_2) 1).toInt64)).2.2.1) b tb1 n z c ((FX3_siteNow g b tb1 n z c (nI k_2) 2).toInt64)).2.2.1) b tb1 n z c ((FX3_siteNow g b tb1 n z c (nI k_2) 3).toInt64)).2.2.1) b tb1 n z c ((FX3_siteNow g b tb1 n z c (nI k_2) 4).toInt64)).2.2.1) b tb1 n z c ((FX3_siteNow g b tb1 n z c (nI k_2) 5).toInt64)).2.2.1) b tb1 n z c ((FX3_siteNow g b tb1 n z c (nI k_2) 6).toInt64)).2.2.1) b tb1 n z c ((FX3_needOf g b tb1 n z c (nI k_2) 0).toInt64)).2.2.1) b tb1 n z c ((FX3_needOf g b tb1 n z c (nI k_2) 1).toInt64)).2.2.1) b tb1 n z c ((FX3_needOf g b tb1 n z c (nI k_2) 5).toInt64)).2.2.2.1 = b from kp_mix_b ..] at hP
      rw [show (FX3_mix g t1 ((FX3_mix g t1 ((FX3_mix g t1 ((FX3_mix g t1 ((FX3_mix g t1 ((FX3_mix g t1 ((FX3_mix g t1 ((FX3_mix g t1 ((FX3_mix g t1 ((FX3_mix g t1 gl1 b tb1 n z c ((FX3_siteNow g b tb1 n z c (nI k_2) 0).toInt64)).2.2.1) b tb1 n z c ((FX3_siteNow g b tb1 n z c (nI k_2) 1).toInt64)).2.2.1) b tb1 n z c ((FX3_siteNow g b tb1 n z c (nI k_2) 2).toInt64)).2.2.1) b tb1 n z c ((FX3_siteNow g b tb1 n z c (nI k_2) 3).toInt64)).2.2.1) b tb1 n z c ((FX3_siteNow g b tb1 n z c (nI k_2) 4).toInt64)).2.2.1) b tb1 n z c ((FX3_siteNow g b tb1 n z c (nI k_2) 5).toInt64)).2.2.1) b tb1 n z c ((FX3_siteNow g b tb1 n z c (nI k_2) 6).toInt64)).2.2.1) b tb1 n z c ((FX3_needOf g b tb1 n z c (nI k_2) 0).toInt64)).2.2.1) b tb1 n z c ((FX3_needOf g b tb1 n z c (nI k_2) 1).toInt64)).2.2.1) b tb1 n z c ((FX3_needOf g b tb1 n z c (nI k_2) 5).toInt64)).2.2.2.2 = tb1 from kp_mix_tb ..] at hP
      have hP : va_P D vwCl (wM cI cB ad g t1 ((FX3_mix g t1 ((FX3_mix g t1 ((FX3_mix g t1 ((FX3_mix g t1 ((FX3_mix g t1 ((FX3_mix g t1 ((FX3_mix g t1 ((FX3_mix g t1 ((FX3_mix g t1 ((FX3_mix g t1 gl1 b tb1 n z c ((FX3_siteNow g b tb1 n z c (nI k_2) 0).toInt64)).2.2.1) b tb1 n z c ((FX3_siteNow g b tb1 n z c (nI k_2) 1).toInt64)).2.2.1) b tb1 n z c ((FX3_siteNow g b tb1 n z c (nI k_2) 2).toInt64)).2.2.1) b tb1 n z c ((FX3_siteNow g b tb1 n z c (nI k_2) 3).toInt64)).2.2.1) b tb1 n z c ((FX3_siteNow g b tb1 n z c (nI k_2) 4).toInt64)).2.2.1) b tb1 n z c ((FX3_siteNow g b tb1 n z c (nI k_2) 5).toInt64)).2.2.1) b tb1 n z c ((FX3_siteNow g b tb1 n z c (nI k_2) 6).toInt64)).2.2.1) b tb1 n z c ((FX3_needOf g b tb1 n z c (nI k_2) 0).toInt64)).2.2.1) b tb1 n z c ((FX3_needOf g b tb1 n z c (nI k_2) 1).toInt64)).2.2.1) b tb1 n z c ((FX3_needOf g b tb1 n z c (nI k_2) 5).toInt64)).2.2.1) b tb1) H := hP
      refine lv_iinc (v := nI (k_2 + 1)) (k := 1) (lv' := [(1, .int (nI (k_2 + 1))), (2, .int 7), (0, .ref (ad 0))]) E.1 E.2.1 dX3_digest_75 hl rfl (nI_1 k_2) (by decide) rfl (fun ls hl => ?_)
      refine lv_goto (tgt := 9) E.1 E.2.1 dX3_digest_78 (by decide) ?_
      rw [show FX3_digest_L9 g b n z c (d_1 + 1) k_2 t1 gl1 tb1 = FX3_digest_L9 g b n z c d_1 (k_2 + 1) t1 ((FX3_mix g t1 ((FX3_mix g t1 ((FX3_mix g t1 ((FX3_mix g t1 ((FX3_mix g t1 ((FX3_mix g t1 ((FX3_mix g t1 ((FX3_mix g t1 ((FX3_mix g t1 ((FX3_mix g t1 gl1 b tb1 n z c ((FX3_siteNow g b tb1 n z c (nI k_2) 0).toInt64)).2.2.1) b tb1 n z c ((FX3_siteNow g b tb1 n z c (nI k_2) 1).toInt64)).2.2.1) b tb1 n z c ((FX3_siteNow g b tb1 n z c (nI k_2) 2).toInt64)).2.2.1) b tb1 n z c ((FX3_siteNow g b tb1 n z c (nI k_2) 3).toInt64)).2.2.1) b tb1 n z c ((FX3_siteNow g b tb1 n z c (nI k_2) 4).toInt64)).2.2.1) b tb1 n z c ((FX3_siteNow g b tb1 n z c (nI k_2) 5).toInt64)).2.2.1) b tb1 n z c ((FX3_siteNow g b tb1 n z c (nI k_2) 6).toInt64)).2.2.1) b tb1 n z c ((FX3_needOf g b tb1 n z c (nI k_2) 0).toInt64)).2.2.1) b tb1 n z c ((FX3_needOf g b tb1 n z c (nI k_2) 1).toInt64)).2.2.1) b tb1 n z c ((FX3_needOf g b tb1 n z c (nI k_2) 5).toInt64)).2.2.1) tb1 from by rw [FX3_digest_L9]]
      exact ih1 (k_2 + 1) t1 ((FX3_mix g t1 ((FX3_mix g t1 ((FX3_mix g t1 ((FX3_mix g t1 ((FX3_mix g t1 ((FX3_mix g t1 ((FX3_mix g t1 ((FX3_mix g t1 ((FX3_mix g t1 ((FX3_mix g t1 gl1 b tb1 n z c ((FX3_siteNow g b tb1 n z c (nI k_2) 0).toInt64)).2.2.1) b tb1 n z c ((FX3_siteNow g b tb1 n z c (nI k_2) 1).toInt64)).2.2.1) b tb1 n z c ((FX3_siteNow g b tb1 n z c (nI k_2) 2).toInt64)).2.2.1) b tb1 n z c ((FX3_siteNow g b tb1 n z c (nI k_2) 3).toInt64)).2.2.1) b tb1 n z c ((FX3_siteNow g b tb1 n z c (nI k_2) 4).toInt64)).2.2.1) b tb1 n z c ((FX3_siteNow g b tb1 n z c (nI k_2) 5).toInt64)).2.2.1) b tb1 n z c ((FX3_siteNow g b tb1 n z c (nI k_2) 6).toInt64)).2.2.1) b tb1 n z c ((FX3_needOf g b tb1 n z c (nI k_2) 0).toInt64)).2.2.1) b tb1 n z c ((FX3_needOf g b tb1 n z c (nI k_2) 1).toInt64)).2.2.1) b tb1 n z c ((FX3_needOf g b tb1 n z c (nI k_2) 5).toInt64)).2.2.1) tb1 _ _ ls (by omega) hP hS (lv_sub hl [0, 2] rfl)
  rw [show FX3_digest g t gl b tb n z c = FX3_digest_L9 g b n z c n 0 t (uL gl 39 1061) tb from by rw [FX3_digest]]
  have hl : lv_has ls 3 [(1, .int (nI 0)), (0, .ref (ad 0))] := lv_sub hl [0, 1] rfl
  exact loop1 _ _ t (uL gl 39 1061) tb _ _ ls (by omega) hP hS (lv_sub hl [0, 1] rfl)
