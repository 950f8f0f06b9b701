theorem IX_c {n z c c2 : Nat} {f : Nat → Int32} (h : IX n z c f) (h2 : c2 ≤ 6) : IX n z c2 (upd f 8 (nI c2)) := by
  obtain ⟨h1, h2', h3, h4, h5, h6⟩ := h
  exact ⟨by rw [pk_un (by omega)]; exact h1, h2', by rw [pk_un (by omega)]; exact h3, h4, pk_us, h2⟩
theorem IX_n {n z c m : Nat} {f : Nat → Int32} (h : IX n z c f) (h2 : m ≤ 6) : IX m z c (upd f 0 (nI m)) := by
  obtain ⟨h1, h2', h3, h4, h5, h6⟩ := h
  exact ⟨pk_us, h2, by rw [pk_un (by omega)]; exact h3, h4, by rw [pk_un (by omega)]; exact h5, h6⟩
theorem whole_z {f : Nat → Int32} {a ta : Nat → Nat → Int32} {n z c : Nat} (hz : z ≤ 21) (h : ¬ FX0_isWhole f a ta n z c = 0) : 2 ≤ z := by
  rw [FX0_isWhole] at h
  rcases Nat.lt_or_ge z 2 with q | q
  · exfalso
    have h1 : nI z < 2 := nI_lt (a := z) (b := 2) q (by omega)
    rw [if_pos h1] at h
    exact h rfl
  · exact q
theorem siteCount_n {f : Nat → Int32} {a ta : Nat → Nat → Int32} {n z c : Nat} (h2 : 2 ≤ z) (hz : z ≤ 21) : FX0_siteCount f a ta n z c = nI ((z - 1) / 3) := by
  rw [FX0_siteCount]
  rw [show (nI z - 1 : Int32) = nI (z - 1) from pk_sub (a := z) (b := 1) (by omega)]
  exact pk_div (a := z - 1) (d := 3) (by omega) (by omega) (by omega)
def FX1_copy_at5_4 (f : Nat → Int32) (a : Nat → Nat → Int32) (ta : Nat → Nat → Int32) (n : Nat) (z : Nat) (c : Nat) : SX := (upd (upd (upd (upd (upd f 9 (f 4)) 10 (f 5)) 11 (f 6)) 12 (f 7)) 13 (nI c), uA (uA (uA (uA (uA (uA (uA (uA a 17 (va_cpy (a 9) (a 17) 0 0 6)) 18 (va_cpy (a 10) (a 18) 0 0 6)) 19 (va_cpy (a 11) (a 19) 0 0 6)) 20 (va_cpy (a 12) (a 20) 0 0 6)) 21 (va_cpy (a 13) (a 21) 0 0 6)) 22 (va_cpy (a 14) (a 22) 0 0 6)) 23 (va_cpy (a 15) (a 23) 0 0 6)) 24 (va_cpy (a 16) (a 24) 0 0 6), ta)
set_option maxHeartbeats 4000000 in
set_option maxRecDepth 100000 in
/-- an image is made -/
theorem c_X1_copy_at5_4 (l : Launch) (D : va_G) (cI cB : ClassId) (ad : Nat → Nat) (f : Nat → Int32) (a ta : Nat → Nat → Int32) (n z c : Nat) (hX : IX n z c f) (hI : wI 25 ad)  : Met l yX1_copy wsX1_copy ({ frames := 2, cells := 0, slots := 0, locals := 85 }) (GPc D cI cB (wX cI ad f a ta) [.ref (ad 5), .ref (ad 4)]) (va_Qv (fun u : SX => u = FX1_copy_at5_4 f a ta n z c) (fun u t => va_P D vwCl (wX cI ad u.1 u.2.1 u.2.2) t.heap) (wA 25 ad)) 0 0 (wA 25 ad) := by
  refine Met.ofW (cc := cX1_copy) (maxL := 2) (ret := none) (by decide) rfl ?_
  intro p e s m args below meth cd s₁ B hml hv
  obtain ⟨rfl, hP, hK⟩ := hv
  have hts := atoms_spec (ws := wsX1_copy) B.pre
  have E : CallFix p m cd cX1_copy 2 s _ wsX1_copy RX1 := ⟨B.exec, B.bytes, hml, findClass_of_methodNamed B.named, hts⟩
  have hr := B.returns
  have hlocks := B.notSynchronized
  have h2n := pow6 (n := n) (by have := hX.2.1; omega)
  obtain ⟨hn, hn6, hz, hz21, hc, hc6⟩ := id hX
  have hS : va_S (wA 25 ad) s.heap s.heap [] := va_S.rf
  have in_1 : ∀ w ∈ wsX10, w ∈ wsX1_copy := fun _ h => List.mem_cons_of_mem _ (List.mem_append_right _ h)
  have w_0 : (Cond.fieldLink RX1 36 "SnowTerm$Term" "day" "I").before _ s = true := hts _ (by decide +kernel)
  have w_1 : (Cond.fieldLink RX1 40 "SnowTerm$Term" "sun" "I").before _ s = true := hts _ (by decide +kernel)
  have w_2 : (Cond.fieldLink RX1 43 "SnowTerm$Term" "cost" "I").before _ s = true := hts _ (by decide +kernel)
  have w_3 : (Cond.fieldLink RX1 46 "SnowTerm$Term" "praise" "I").before _ s = true := hts _ (by decide +kernel)
  have w_4 : (Cond.fieldLink RX1 49 "SnowTerm$Term" "foundCount" "I").before _ s = true := hts _ (by decide +kernel)
  have w_5 : (Cond.fieldLink RX1 9 "SnowTerm$Term" "snow" "[I").before _ s = true := hts _ (by decide +kernel)
  have w_6 : (Cond.fieldLink RX1 15 "SnowTerm$Term" "snowAtDusk" "[I").before _ s = true := hts _ (by decide +kernel)
  have w_7 : (Cond.fieldLink RX1 18 "SnowTerm$Term" "feet" "[I").before _ s = true := hts _ (by decide +kernel)
  have w_8 : (Cond.fieldLink RX1 21 "SnowTerm$Term" "brought" "[I").before _ s = true := hts _ (by decide +kernel)
  have w_9 : (Cond.fieldLink RX1 24 "SnowTerm$Term" "foundKind" "[I").before _ s = true := hts _ (by decide +kernel)
  have w_10 : (Cond.fieldLink RX1 27 "SnowTerm$Term" "foundFeet" "[I").before _ s = true := hts _ (by decide +kernel)
  have w_11 : (Cond.fieldLink RX1 30 "SnowTerm$Term" "foundDeep" "[I").before _ s = true := hts _ (by decide +kernel)
  have w_12 : (Cond.fieldLink RX1 33 "SnowTerm$Term" "foundLeft" "[I").before _ s = true := hts _ (by decide +kernel)
  have hl := lv_entry ([.ref (ad 5), .ref (ad 4)]) (n := 2) (Nat.le_of_ble_eq_true rfl)
  rw [lg_entry_eq]
  generalize (lg_sl ([.ref (ad 5), .ref (ad 4)]) ++ List.replicate (2 - (lg_sl ([.ref (ad 5), .ref (ad 4)])).length) Slot.unset).toArray = ls at hl ⊢
  have hl : lv_has ls 2 [(0, .ref (ad 5)), (1, .ref (ad 4))] := hl
  refine lv_aload_n E.1 E.2.1 dX1_copy_0 rfl (lv_at hl 0 rfl) ?_
  refine lv_aload_n E.1 E.2.1 dX1_copy_1 rfl (lv_at hl 1 rfl) ?_
  refine xg_4_0 E hK hP in_1 w_0 dX1_copy_2 ?_
  refine xp_5_0 (v := f 4) E hK hP in_1 w_0 hI hS dX1_copy_5 (fun H locs hP hS => ?_)
  refine lv_aload_n E.1 E.2.1 dX1_copy_8 rfl (lv_at hl 0 rfl) ?_
  refine lv_aload_n E.1 E.2.1 dX1_copy_9 rfl (lv_at hl 1 rfl) ?_
  refine xg_4_1 E hK hP in_1 w_1 dX1_copy_10 ?_
  refine lv_topi (fun y_1 ey_1 => ?_)
  obtain rfl : y_1 = f 5 := ey_1.trans (rfl)
  refine xp_5_1 (v := f 5) E hK hP in_1 w_1 hI hS dX1_copy_13 (fun H locs hP hS => ?_)
  refine lv_aload_n E.1 E.2.1 dX1_copy_16 rfl (lv_at hl 0 rfl) ?_
  refine lv_aload_n E.1 E.2.1 dX1_copy_17 rfl (lv_at hl 1 rfl) ?_
  refine xg_4_2 E hK hP in_1 w_2 dX1_copy_18 ?_
  refine lv_topi (fun y_2 ey_2 => ?_)
  obtain rfl : y_2 = f 6 := ey_2.trans (rfl)
  refine xp_5_2 (v := f 6) E hK hP in_1 w_2 hI hS dX1_copy_21 (fun H locs hP hS => ?_)
  refine lv_aload_n E.1 E.2.1 dX1_copy_24 rfl (lv_at hl 0 rfl) ?_
  refine lv_aload_n E.1 E.2.1 dX1_copy_25 rfl (lv_at hl 1 rfl) ?_
  refine xg_4_3 E hK hP in_1 w_3 dX1_copy_26 ?_
  refine lv_topi (fun y_3 ey_3 => ?_)
  obtain rfl : y_3 = f 7 := ey_3.trans (rfl)
  refine xp_5_3 (v := f 7) E hK hP in_1 w_3 hI hS dX1_copy_29 (fun H locs hP hS => ?_)
  refine lv_aload_n E.1 E.2.1 dX1_copy_32 rfl (lv_at hl 0 rfl) ?_
  refine lv_aload_n E.1 E.2.1 dX1_copy_33 rfl (lv_at hl 1 rfl) ?_
  refine xg_4_12 E hK hP in_1 w_4 dX1_copy_34 ?_
  refine lv_topi (fun y_4 ey_4 => ?_)
  obtain rfl : y_4 = nI c := ey_4.trans (hc)
  refine xp_5_12 (v := nI c) E hK hP in_1 w_4 hI hS dX1_copy_37 (fun H locs hP hS => ?_)
  refine lv_aload_n E.1 E.2.1 dX1_copy_40 rfl (lv_at hl 1 rfl) ?_
  refine xg_4_4 E hK hP in_1 w_5 dX1_copy_41 ?_
  refine lv_aload_n E.1 E.2.1 dX1_copy_44 rfl (lv_at hl 0 rfl) ?_
  refine xg_5_4 E hK hP in_1 w_5 dX1_copy_45 ?_
  refine g_SWv (As := [.ref (ad 9), .ref (ad 17)]) (rest := []) E hK hP hS (fun q h => h) (c_X1_copyRow_at9_17 l D cI cB ad (upd (upd (upd (upd (upd f 9 (f 4)) 10 (f 5)) 11 (f 6)) 12 (f 7)) 13 (nI c)) a ta n z c (IX_u (IX_u (IX_u (IX_u (IX_u hX (by decide)) (by decide)) (by decide)) (by decide)) (by decide)) hI) (va_cwS 2 E.2.2.2.2 gX1_copy_X1_copyRow rfl rfl rfl (by decide +kernel) ⟨Nat.le_of_ble_eq_true rfl, Nat.le_of_ble_eq_true rfl⟩) rfl hl.1 rfl (Nat.le_of_ble_eq_true rfl) dX1_copy_48 ⟨Nat.zero_le _, Nat.zero_le _⟩ (fun u_5 H1 locs hp_6 hP1 hq_7 hS => ?_)
  obtain rfl : u_5 = FX1_copyRow_at9_17 (upd (upd (upd (upd (upd f 9 (f 4)) 10 (f 5)) 11 (f 6)) 12 (f 7)) 13 (nI c)) a ta n z c := hp_6
  have hP : va_P D vwCl (wX cI ad ((FX1_copyRow_at9_17 (upd (upd (upd (upd (upd f 9 (f 4)) 10 (f 5)) 11 (f 6)) 12 (f 7)) 13 (nI c)) a ta n z c).1) ((FX1_copyRow_at9_17 (upd (upd (upd (upd (upd f 9 (f 4)) 10 (f 5)) 11 (f 6)) 12 (f 7)) 13 (nI c)) a ta n z c).2.1) ((FX1_copyRow_at9_17 (upd (upd (upd (upd (upd f 9 (f 4)) 10 (f 5)) 11 (f 6)) 12 (f 7)) 13 (nI c)) a ta n z c).2.2)) H1 := hP1
  clear hP1
  generalize H1 = H at hP hS ⊢
  have hP : va_P D vwCl (wX cI ad (upd (upd (upd (upd (upd f 9 (f 4)) 10 (f 5)) 11 (f 6)) 12 (f 7)) 13 (nI c)) (uA a 17 (va_cpy (a 9) (a 17) 0 0 6)) ta) H := hP
  refine lv_aload_n E.1 E.2.1 dX1_copy_51 rfl (lv_at hl 1 rfl) ?_
  refine xg_4_5 E hK hP in_1 w_6 dX1_copy_52 ?_
  refine lv_aload_n E.1 E.2.1 dX1_copy_55 rfl (lv_at hl 0 rfl) ?_
  refine xg_5_5 E hK hP in_1 w_6 dX1_copy_56 ?_
  refine g_SWv (As := [.ref (ad 10), .ref (ad 18)]) (rest := []) E hK hP hS (fun q h => h) (c_X1_copyRow_at10_18 l D cI cB ad (upd (upd (upd (upd (upd f 9 (f 4)) 10 (f 5)) 11 (f 6)) 12 (f 7)) 13 (nI c)) (uA a 17 (va_cpy (a 9) (a 17) 0 0 6)) ta n z c (IX_u (IX_u (IX_u (IX_u (IX_u hX (by decide)) (by decide)) (by decide)) (by decide)) (by decide)) hI) (va_cwS 2 E.2.2.2.2 gX1_copy_X1_copyRow rfl rfl rfl (by decide +kernel) ⟨Nat.le_of_ble_eq_true rfl, Nat.le_of_ble_eq_true rfl⟩) rfl hl.1 rfl (Nat.le_of_ble_eq_true rfl) dX1_copy_59 ⟨Nat.zero_le _, Nat.zero_le _⟩ (fun u_8 H1 locs hp_9 hP1 hq_10 hS => ?_)
  obtain rfl : u_8 = FX1_copyRow_at10_18 (upd (upd (upd (upd (upd f 9 (f 4)) 10 (f 5)) 11 (f 6)) 12 (f 7)) 13 (nI c)) (uA a 17 (va_cpy (a 9) (a 17) 0 0 6)) ta n z c := hp_9
  have hP : va_P D vwCl (wX cI ad ((FX1_copyRow_at10_18 (upd (upd (upd (upd (upd f 9 (f 4)) 10 (f 5)) 11 (f 6)) 12 (f 7)) 13 (nI c)) (uA a 17 (va_cpy (a 9) (a 17) 0 0 6)) ta n z c).1) ((FX1_copyRow_at10_18 (upd (upd (upd (upd (upd f 9 (f 4)) 10 (f 5)) 11 (f 6)) 12 (f 7)) 13 (nI c)) (uA a 17 (va_cpy (a 9) (a 17) 0 0 6)) ta n z c).2.1) ((FX1_copyRow_at10_18 (upd (upd (upd (upd (upd f 9 (f 4)) 10 (f 5)) 11 (f 6)) 12 (f 7)) 13 (nI c)) (uA a 17 (va_cpy (a 9) (a 17) 0 0 6)) ta n z c).2.2)) H1 := hP1
  clear hP1
  generalize H1 = H at hP hS ⊢
  have hP : va_P D vwCl (wX cI ad (upd (upd (upd (upd (upd f 9 (f 4)) 10 (f 5)) 11 (f 6)) 12 (f 7)) 13 (nI c)) (uA (uA a 17 (va_cpy (a 9) (a 17) 0 0 6)) 18 (va_cpy (a 10) (a 18) 0 0 6)) ta) H := hP
  refine lv_aload_n E.1 E.2.1 dX1_copy_62 rfl (lv_at hl 1 rfl) ?_
  refine xg_4_6 E hK hP in_1 w_7 dX1_copy_63 ?_
  refine lv_aload_n E.1 E.2.1 dX1_copy_66 rfl (lv_at hl 0 rfl) ?_
  refine xg_5_6 E hK hP in_1 w_7 dX1_copy_67 ?_
  refine g_SWv (As := [.ref (ad 11), .ref (ad 19)]) (rest := []) E hK hP hS (fun q h => h) (c_X1_copyRow_at11_19 l D cI cB ad (upd (upd (upd (upd (upd f 9 (f 4)) 10 (f 5)) 11 (f 6)) 12 (f 7)) 13 (nI c)) (uA (uA a 17 (va_cpy (a 9) (a 17) 0 0 6)) 18 (va_cpy (a 10) (a 18) 0 0 6)) ta n z c (IX_u (IX_u (IX_u (IX_u (IX_u hX (by decide)) (by decide)) (by decide)) (by decide)) (by decide)) hI) (va_cwS 2 E.2.2.2.2 gX1_copy_X1_copyRow rfl rfl rfl (by decide +kernel) ⟨Nat.le_of_ble_eq_true rfl, Nat.le_of_ble_eq_true rfl⟩) rfl hl.1 rfl (Nat.le_of_ble_eq_true rfl) dX1_copy_70 ⟨Nat.zero_le _, Nat.zero_le _⟩ (fun u_11 H1 locs hp_12 hP1 hq_13 hS => ?_)
  obtain rfl : u_11 = FX1_copyRow_at11_19 (upd (upd (upd (upd (upd f 9 (f 4)) 10 (f 5)) 11 (f 6)) 12 (f 7)) 13 (nI c)) (uA (uA a 17 (va_cpy (a 9) (a 17) 0 0 6)) 18 (va_cpy (a 10) (a 18) 0 0 6)) ta n z c := hp_12
  have hP : va_P D vwCl (wX cI ad ((FX1_copyRow_at11_19 (upd (upd (upd (upd (upd f 9 (f 4)) 10 (f 5)) 11 (f 6)) 12 (f 7)) 13 (nI c)) (uA (uA a 17 (va_cpy (a 9) (a 17) 0 0 6)) 18 (va_cpy (a 10) (a 18) 0 0 6)) ta n z c).1) ((FX1_copyRow_at11_19 (upd (upd (upd (upd (upd f 9 (f 4)) 10 (f 5)) 11 (f 6)) 12 (f 7)) 13 (nI c)) (uA (uA a 17 (va_cpy (a 9) (a 17) 0 0 6)) 18 (va_cpy (a 10) (a 18) 0 0 6)) ta n z c).2.1) ((FX1_copyRow_at11_19 (upd (upd (upd (upd (upd f 9 (f 4)) 10 (f 5)) 11 (f 6)) 12 (f 7)) 13 (nI c)) (uA (uA a 17 (va_cpy (a 9) (a 17) 0 0 6)) 18 (va_cpy (a 10) (a 18) 0 0 6)) ta n z c).2.2)) H1 := hP1
  clear hP1
  generalize H1 = H at hP hS ⊢
  have hP : va_P D vwCl (wX cI ad (upd (upd (upd (upd (upd f 9 (f 4)) 10 (f 5)) 11 (f 6)) 12 (f 7)) 13 (nI c)) (uA (uA (uA a 17 (va_cpy (a 9) (a 17) 0 0 6)) 18 (va_cpy (a 10) (a 18) 0 0 6)) 19 (va_cpy (a 11) (a 19) 0 0 6)) ta) H := hP
  refine lv_aload_n E.1 E.2.1 dX1_copy_73 rfl (lv_at hl 1 rfl) ?_
  refine xg_4_7 E hK hP in_1 w_8 dX1_copy_74 ?_
  refine lv_aload_n E.1 E.2.1 dX1_copy_77 rfl (lv_at hl 0 rfl) ?_
  refine xg_5_7 E hK hP in_1 w_8 dX1_copy_78 ?_
  refine g_SWv (As := [.ref (ad 12), .ref (ad 20)]) (rest := []) E hK hP hS (fun q h => h) (c_X1_copyRow_at12_20 l D cI cB ad (upd (upd (upd (upd (upd f 9 (f 4)) 10 (f 5)) 11 (f 6)) 12 (f 7)) 13 (nI c)) (uA (uA (uA a 17 (va_cpy (a 9) (a 17) 0 0 6)) 18 (va_cpy (a 10) (a 18) 0 0 6)) 19 (va_cpy (a 11) (a 19) 0 0 6)) ta n z c (IX_u (IX_u (IX_u (IX_u (IX_u hX (by decide)) (by decide)) (by decide)) (by decide)) (by decide)) hI) (va_cwS 2 E.2.2.2.2 gX1_copy_X1_copyRow rfl rfl rfl (by decide +kernel) ⟨Nat.le_of_ble_eq_true rfl, Nat.le_of_ble_eq_true rfl⟩) rfl hl.1 rfl (Nat.le_of_ble_eq_true rfl) dX1_copy_81 ⟨Nat.zero_le _, Nat.zero_le _⟩ (fun u_14 H1 locs hp_15 hP1 hq_16 hS => ?_)
  obtain rfl : u_14 = FX1_copyRow_at12_20 (upd (upd (upd (upd (upd f 9 (f 4)) 10 (f 5)) 11 (f 6)) 12 (f 7)) 13 (nI c)) (uA (uA (uA a 17 (va_cpy (a 9) (a 17) 0 0 6)) 18 (va_cpy (a 10) (a 18) 0 0 6)) 19 (va_cpy (a 11) (a 19) 0 0 6)) ta n z c := hp_15
  have hP : va_P D vwCl (wX cI ad ((FX1_copyRow_at12_20 (upd (upd (upd (upd (upd f 9 (f 4)) 10 (f 5)) 11 (f 6)) 12 (f 7)) 13 (nI c)) (uA (uA (uA a 17 (va_cpy (a 9) (a 17) 0 0 6)) 18 (va_cpy (a 10) (a 18) 0 0 6)) 19 (va_cpy (a 11) (a 19) 0 0 6)) ta n z c).1) ((FX1_copyRow_at12_20 (upd (upd (upd (upd (upd f 9 (f 4)) 10 (f 5)) 11 (f 6)) 12 (f 7)) 13 (nI c)) (uA (uA (uA a 17 (va_cpy (a 9) (a 17) 0 0 6)) 18 (va_cpy (a 10) (a 18) 0 0 6)) 19 (va_cpy (a 11) (a 19) 0 0 6)) ta n z c).2.1) ((FX1_copyRow_at12_20 (upd (upd (upd (upd (upd f 9 (f 4)) 10 (f 5)) 11 (f 6)) 12 (f 7)) 13 (nI c)) (uA (uA (uA a 17 (va_cpy (a 9) (a 17) 0 0 6)) 18 (va_cpy (a 10) (a 18) 0 0 6)) 19 (va_cpy (a 11) (a 19) 0 0 6)) ta n z c).2.2)) H1 := hP1
  clear hP1
  generalize H1 = H at hP hS ⊢
  have hP : va_P D vwCl (wX cI ad (upd (upd (upd (upd (upd f 9 (f 4)) 10 (f 5)) 11 (f 6)) 12 (f 7)) 13 (nI c)) (uA (uA (uA (uA a 17 (va_cpy (a 9) (a 17) 0 0 6)) 18 (va_cpy (a 10) (a 18) 0 0 6)) 19 (va_cpy (a 11) (a 19) 0 0 6)) 20 (va_cpy (a 12) (a 20) 0 0 6)) ta) H := hP
  refine lv_aload_n E.1 E.2.1 dX1_copy_84 rfl (lv_at hl 1 rfl) ?_
  refine xg_4_8 E hK hP in_1 w_9 dX1_copy_85 ?_
  refine lv_aload_n E.1 E.2.1 dX1_copy_88 rfl (lv_at hl 0 rfl) ?_
  refine xg_5_8 E hK hP in_1 w_9 dX1_copy_89 ?_
  refine g_SWv (As := [.ref (ad 13), .ref (ad 21)]) (rest := []) E hK hP hS (fun q h => h) (c_X1_copyRow_at13_21 l D cI cB ad (upd (upd (upd (upd (upd f 9 (f 4)) 10 (f 5)) 11 (f 6)) 12 (f 7)) 13 (nI c)) (uA (uA (uA (uA a 17 (va_cpy (a 9) (a 17) 0 0 6)) 18 (va_cpy (a 10) (a 18) 0 0 6)) 19 (va_cpy (a 11) (a 19) 0 0 6)) 20 (va_cpy (a 12) (a 20) 0 0 6)) ta n z c (IX_u (IX_u (IX_u (IX_u (IX_u hX (by decide)) (by decide)) (by decide)) (by decide)) (by decide)) hI) (va_cwS 2 E.2.2.2.2 gX1_copy_X1_copyRow rfl rfl rfl (by decide +kernel) ⟨Nat.le_of_ble_eq_true rfl, Nat.le_of_ble_eq_true rfl⟩) rfl hl.1 rfl (Nat.le_of_ble_eq_true rfl) dX1_copy_92 ⟨Nat.zero_le _, Nat.zero_le _⟩ (fun u_17 H1 locs hp_18 hP1 hq_19 hS => ?_)
  obtain rfl : u_17 = FX1_copyRow_at13_21 (upd (upd (upd (upd (upd f 9 (f 4)) 10 (f 5)) 11 (f 6)) 12 (f 7)) 13 (nI c)) (uA (uA (uA (uA a 17 (va_cpy (a 9) (a 17) 0 0 6)) 18 (va_cpy (a 10) (a 18) 0 0 6)) 19 (va_cpy (a 11) (a 19) 0 0 6)) 20 (va_cpy (a 12) (a 20) 0 0 6)) ta n z c := hp_18
  have hP : va_P D vwCl (wX cI ad ((FX1_copyRow_at13_21 (upd (upd (upd (upd (upd f 9 (f 4)) 10 (f 5)) 11 (f 6)) 12 (f 7)) 13 (nI c)) (uA (uA (uA (uA a 17 (va_cpy (a 9) (a 17) 0 0 6)) 18 (va_cpy (a 10) (a 18) 0 0 6)) 19 (va_cpy (a 11) (a 19) 0 0 6)) 20 (va_cpy (a 12) (a 20) 0 0 6)) ta n z c).1) ((FX1_copyRow_at13_21 (upd (upd (upd (upd (upd f 9 (f 4)) 10 (f 5)) 11 (f 6)) 12 (f 7)) 13 (nI c)) (uA (uA (uA (uA a 17 (va_cpy (a 9) (a 17) 0 0 6)) 18 (va_cpy (a 10) (a 18) 0 0 6)) 19 (va_cpy (a 11) (a 19) 0 0 6)) 20 (va_cpy (a 12) (a 20) 0 0 6)) ta n z c).2.1) ((FX1_copyRow_at13_21 (upd (upd (upd (upd (upd f 9 (f 4)) 10 (f 5)) 11 (f 6)) 12 (f 7)) 13 (nI c)) (uA (uA (uA (uA a 17 (va_cpy (a 9) (a 17) 0 0 6)) 18 (va_cpy (a 10) (a 18) 0 0 6)) 19 (va_cpy (a 11) (a 19) 0 0 6)) 20 (va_cpy (a 12) (a 20) 0 0 6)) ta n z c).2.2)) H1 := hP1
  clear hP1
  generalize H1 = H at hP hS ⊢
  have hP : va_P D vwCl (wX cI ad (upd (upd (upd (upd (upd f 9 (f 4)) 10 (f 5)) 11 (f 6)) 12 (f 7)) 13 (nI c)) (uA (uA (uA (uA (uA a 17 (va_cpy (a 9) (a 17) 0 0 6)) 18 (va_cpy (a 10) (a 18) 0 0 6)) 19 (va_cpy (a 11) (a 19) 0 0 6)) 20 (va_cpy (a 12) (a 20) 0 0 6)) 21 (va_cpy (a 13) (a 21) 0 0 6)) ta) H := hP
  refine lv_aload_n E.1 E.2.1 dX1_copy_95 rfl (lv_at hl 1 rfl) ?_
  refine xg_4_9 E hK hP in_1 w_10 dX1_copy_96 ?_
  refine lv_aload_n E.1 E.2.1 dX1_copy_99 rfl (lv_at hl 0 rfl) ?_
  refine xg_5_9 E hK hP in_1 w_10 dX1_copy_100 ?_
  refine g_SWv (As := [.ref (ad 14), .ref (ad 22)]) (rest := []) E hK hP hS (fun q h => h) (c_X1_copyRow_at14_22 l D cI cB ad (upd (upd (upd (upd (upd f 9 (f 4)) 10 (f 5)) 11 (f 6)) 12 (f 7)) 13 (nI c)) (uA (uA (uA (uA (uA a 17 (va_cpy (a 9) (a 17) 0 0 6)) 18 (va_cpy (a 10) (a 18) 0 0 6)) 19 (va_cpy (a 11) (a 19) 0 0 6)) 20 (va_cpy (a 12) (a 20) 0 0 6)) 21 (va_cpy (a 13) (a 21) 0 0 6)) ta n z c (IX_u (IX_u (IX_u (IX_u (IX_u hX (by decide)) (by decide)) (by decide)) (by decide)) (by decide)) hI) (va_cwS 2 E.2.2.2.2 gX1_copy_X1_copyRow rfl rfl rfl (by decide +kernel) ⟨Nat.le_of_ble_eq_true rfl, Nat.le_of_ble_eq_true rfl⟩) rfl hl.1 rfl (Nat.le_of_ble_eq_true rfl) dX1_copy_103 ⟨Nat.zero_le _, Nat.zero_le _⟩ (fun u_20 H1 locs hp_21 hP1 hq_22 hS => ?_)
  obtain rfl : u_20 = FX1_copyRow_at14_22 (upd (upd (upd (upd (upd f 9 (f 4)) 10 (f 5)) 11 (f 6)) 12 (f 7)) 13 (nI c)) (uA (uA (uA (uA (uA a 17 (va_cpy (a 9) (a 17) 0 0 6)) 18 (va_cpy (a 10) (a 18) 0 0 6)) 19 (va_cpy (a 11) (a 19) 0 0 6)) 20 (va_cpy (a 12) (a 20) 0 0 6)) 21 (va_cpy (a 13) (a 21) 0 0 6)) ta n z c := hp_21
  have hP : va_P D vwCl (wX cI ad ((FX1_copyRow_at14_22 (upd (upd (upd (upd (upd f 9 (f 4)) 10 (f 5)) 11 (f 6)) 12 (f 7)) 13 (nI c)) (uA (uA (uA (uA (uA a 17 (va_cpy (a 9) (a 17) 0 0 6)) 18 (va_cpy (a 10) (a 18) 0 0 6)) 19 (va_cpy (a 11) (a 19) 0 0 6)) 20 (va_cpy (a 12) (a 20) 0 0 6)) 21 (va_cpy (a 13) (a 21) 0 0 6)) ta n z c).1) ((FX1_copyRow_at14_22 (upd (upd (upd (upd (upd f 9 (f 4)) 10 (f 5)) 11 (f 6)) 12 (f 7)) 13 (nI c)) (uA (uA (uA (uA (uA a 17 (va_cpy (a 9) (a 17) 0 0 6)) 18 (va_cpy (a 10) (a 18) 0 0 6)) 19 (va_cpy (a 11) (a 19) 0 0 6)) 20 (va_cpy (a 12) (a 20) 0 0 6)) 21 (va_cpy (a 13) (a 21) 0 0 6)) ta n z c).2.1) ((FX1_copyRow_at14_22 (upd (upd (upd (upd (upd f 9 (f 4)) 10 (f 5)) 11 (f 6)) 12 (f 7)) 13 (nI c)) (uA (uA (uA (uA (uA a 17 (va_cpy (a 9) (a 17) 0 0 6)) 18 (va_cpy (a 10) (a 18) 0 0 6)) 19 (va_cpy (a 11) (a 19) 0 0 6)) 20 (va_cpy (a 12) (a 20) 0 0 6)) 21 (va_cpy (a 13) (a 21) 0 0 6)) ta n z c).2.2)) H1 := hP1
  clear hP1
  generalize H1 = H at hP hS ⊢
  have hP : va_P D vwCl (wX cI ad (upd (upd (upd (upd (upd f 9 (f 4)) 10 (f 5)) 11 (f 6)) 12 (f 7)) 13 (nI c)) (uA (uA (uA (uA (uA (uA a 17 (va_cpy (a 9) (a 17) 0 0 6)) 18 (va_cpy (a 10) (a 18) 0 0 6)) 19 (va_cpy (a 11) (a 19) 0 0 6)) 20 (va_cpy (a 12) (a 20) 0 0 6)) 21 (va_cpy (a 13) (a 21) 0 0 6)) 22 (va_cpy (a 14) (a 22) 0 0 6)) ta) H := hP
  refine lv_aload_n E.1 E.2.1 dX1_copy_106 rfl (lv_at hl 1 rfl) ?_
  refine xg_4_10 E hK hP in_1 w_11 dX1_copy_107 ?_
  refine lv_aload_n E.1 E.2.1 dX1_copy_110 rfl (lv_at hl 0 rfl) ?_
  refine xg_5_10 E hK hP in_1 w_11 dX1_copy_111 ?_
  refine g_SWv (As := [.ref (ad 15), .ref (ad 23)]) (rest := []) E hK hP hS (fun q h => h) (c_X1_copyRow_at15_23 l D cI cB ad (upd (upd (upd (upd (upd f 9 (f 4)) 10 (f 5)) 11 (f 6)) 12 (f 7)) 13 (nI c)) (uA (uA (uA (uA (uA (uA a 17 (va_cpy (a 9) (a 17) 0 0 6)) 18 (va_cpy (a 10) (a 18) 0 0 6)) 19 (va_cpy (a 11) (a 19) 0 0 6)) 20 (va_cpy (a 12) (a 20) 0 0 6)) 21 (va_cpy (a 13) (a 21) 0 0 6)) 22 (va_cpy (a 14) (a 22) 0 0 6)) ta n z c (IX_u (IX_u (IX_u (IX_u (IX_u hX (by decide)) (by decide)) (by decide)) (by decide)) (by decide)) hI) (va_cwS 2 E.2.2.2.2 gX1_copy_X1_copyRow rfl rfl rfl (by decide +kernel) ⟨Nat.le_of_ble_eq_true rfl, Nat.le_of_ble_eq_true rfl⟩) rfl hl.1 rfl (Nat.le_of_ble_eq_true rfl) dX1_copy_114 ⟨Nat.zero_le _, Nat.zero_le _⟩ (fun u_23 H1 locs hp_24 hP1 hq_25 hS => ?_)
  obtain rfl : u_23 = FX1_copyRow_at15_23 (upd (upd (upd (upd (upd f 9 (f 4)) 10 (f 5)) 11 (f 6)) 12 (f 7)) 13 (nI c)) (uA (uA (uA (uA (uA (uA a 17 (va_cpy (a 9) (a 17) 0 0 6)) 18 (va_cpy (a 10) (a 18) 0 0 6)) 19 (va_cpy (a 11) (a 19) 0 0 6)) 20 (va_cpy (a 12) (a 20) 0 0 6)) 21 (va_cpy (a 13) (a 21) 0 0 6)) 22 (va_cpy (a 14) (a 22) 0 0 6)) ta n z c := hp_24
  have hP : va_P D vwCl (wX cI ad ((FX1_copyRow_at15_23 (upd (upd (upd (upd (upd f 9 (f 4)) 10 (f 5)) 11 (f 6)) 12 (f 7)) 13 (nI c)) (uA (uA (uA (uA (uA (uA a 17 (va_cpy (a 9) (a 17) 0 0 6)) 18 (va_cpy (a 10) (a 18) 0 0 6)) 19 (va_cpy (a 11) (a 19) 0 0 6)) 20 (va_cpy (a 12) (a 20) 0 0 6)) 21 (va_cpy (a 13) (a 21) 0 0 6)) 22 (va_cpy (a 14) (a 22) 0 0 6)) ta n z c).1) ((FX1_copyRow_at15_23 (upd (upd (upd (upd (upd f 9 (f 4)) 10 (f 5)) 11 (f 6)) 12 (f 7)) 13 (nI c)) (uA (uA (uA (uA (uA (uA a 17 (va_cpy (a 9) (a 17) 0 0 6)) 18 (va_cpy (a 10) (a 18) 0 0 6)) 19 (va_cpy (a 11) (a 19) 0 0 6)) 20 (va_cpy (a 12) (a 20) 0 0 6)) 21 (va_cpy (a 13) (a 21) 0 0 6)) 22 (va_cpy (a 14) (a 22) 0 0 6)) ta n z c).2.1) ((FX1_copyRow_at15_23 (upd (upd (upd (upd (upd f 9 (f 4)) 10 (f 5)) 11 (f 6)) 12 (f 7)) 13 (nI c)) (uA (uA (uA (uA (uA (uA a 17 (va_cpy (a 9) (a 17) 0 0 6)) 18 (va_cpy (a 10) (a 18) 0 0 6)) 19 (va_cpy (a 11) (a 19) 0 0 6)) 20 (va_cpy (a 12) (a 20) 0 0 6)) 21 (va_cpy (a 13) (a 21) 0 0 6)) 22 (va_cpy (a 14) (a 22) 0 0 6)) ta n z c).2.2)) H1 := hP1
  clear hP1
  generalize H1 = H at hP hS ⊢
  have hP : va_P D vwCl (wX cI ad (upd (upd (upd (upd (upd f 9 (f 4)) 10 (f 5)) 11 (f 6)) 12 (f 7)) 13 (nI c)) (uA (uA (uA (uA (uA (uA (uA a 17 (va_cpy (a 9) (a 17) 0 0 6)) 18 (va_cpy (a 10) (a 18) 0 0 6)) 19 (va_cpy (a 11) (a 19) 0 0 6)) 20 (va_cpy (a 12) (a 20) 0 0 6)) 21 (va_cpy (a 13) (a 21) 0 0 6)) 22 (va_cpy (a 14) (a 22) 0 0 6)) 23 (va_cpy (a 15) (a 23) 0 0 6)) ta) H := hP
  refine lv_aload_n E.1 E.2.1 dX1_copy_117 rfl (lv_at hl 1 rfl) ?_
  refine xg_4_11 E hK hP in_1 w_12 dX1_copy_118 ?_
  refine lv_aload_n E.1 E.2.1 dX1_copy_121 rfl (lv_at hl 0 rfl) ?_
  refine xg_5_11 E hK hP in_1 w_12 dX1_copy_122 ?_
  refine g_SWv (As := [.ref (ad 16), .ref (ad 24)]) (rest := []) E hK hP hS (fun q h => h) (c_X1_copyRow_at16_24 l D cI cB ad (upd (upd (upd (upd (upd f 9 (f 4)) 10 (f 5)) 11 (f 6)) 12 (f 7)) 13 (nI c)) (uA (uA (uA (uA (uA (uA (uA a 17 (va_cpy (a 9) (a 17) 0 0 6)) 18 (va_cpy (a 10) (a 18) 0 0 6)) 19 (va_cpy (a 11) (a 19) 0 0 6)) 20 (va_cpy (a 12) (a 20) 0 0 6)) 21 (va_cpy (a 13) (a 21) 0 0 6)) 22 (va_cpy (a 14) (a 22) 0 0 6)) 23 (va_cpy (a 15) (a 23) 0 0 6)) ta n z c (IX_u (IX_u (IX_u (IX_u (IX_u hX (by decide)) (by decide)) (by decide)) (by decide)) (by decide)) hI) (va_cwS 2 E.2.2.2.2 gX1_copy_X1_copyRow rfl rfl rfl (by decide +kernel) ⟨Nat.le_of_ble_eq_true rfl, Nat.le_of_ble_eq_true rfl⟩) rfl hl.1 rfl (Nat.le_of_ble_eq_true rfl) dX1_copy_125 ⟨Nat.zero_le _, Nat.zero_le _⟩ (fun u_26 H1 locs hp_27 hP1 hq_28 hS => ?_)
  obtain rfl : u_26 = FX1_copyRow_at16_24 (upd (upd (upd (upd (upd f 9 (f 4)) 10 (f 5)) 11 (f 6)) 12 (f 7)) 13 (nI c)) (uA (uA (uA (uA (uA (uA (uA a 17 (va_cpy (a 9) (a 17) 0 0 6)) 18 (va_cpy (a 10) (a 18) 0 0 6)) 19 (va_cpy (a 11) (a 19) 0 0 6)) 20 (va_cpy (a 12) (a 20) 0 0 6)) 21 (va_cpy (a 13) (a 21) 0 0 6)) 22 (va_cpy (a 14) (a 22) 0 0 6)) 23 (va_cpy (a 15) (a 23) 0 0 6)) ta n z c := hp_27
  have hP : va_P D vwCl (wX cI ad ((FX1_copyRow_at16_24 (upd (upd (upd (upd (upd f 9 (f 4)) 10 (f 5)) 11 (f 6)) 12 (f 7)) 13 (nI c)) (uA (uA (uA (uA (uA (uA (uA a 17 (va_cpy (a 9) (a 17) 0 0 6)) 18 (va_cpy (a 10) (a 18) 0 0 6)) 19 (va_cpy (a 11) (a 19) 0 0 6)) 20 (va_cpy (a 12) (a 20) 0 0 6)) 21 (va_cpy (a 13) (a 21) 0 0 6)) 22 (va_cpy (a 14) (a 22) 0 0 6)) 23 (va_cpy (a 15) (a 23) 0 0 6)) ta n z c).1) ((FX1_copyRow_at16_24 (upd (upd (upd (upd (upd f 9 (f 4)) 10 (f 5)) 11 (f 6)) 12 (f 7)) 13 (nI c)) (uA (uA (uA (uA (uA (uA (uA a 17 (va_cpy (a 9) (a 17) 0 0 6)) 18 (va_cpy (a 10) (a 18) 0 0 6)) 19 (va_cpy (a 11) (a 19) 0 0 6)) 20 (va_cpy (a 12) (a 20) 0 0 6)) 21 (va_cpy (a 13) (a 21) 0 0 6)) 22 (va_cpy (a 14) (a 22) 0 0 6)) 23 (va_cpy (a 15) (a 23) 0 0 6)) ta n z c).2.1) ((FX1_copyRow_at16_24 (upd (upd (upd (upd (upd f 9 (f 4)) 10 (f 5)) 11 (f 6)) 12 (f 7)) 13 (nI c)) (uA (uA (uA (uA (uA (uA (uA a 17 (va_cpy (a 9) (a 17) 0 0 6)) 18 (va_cpy (a 10) (a 18) 0 0 6)) 19 (va_cpy (a 11) (a 19) 0 0 6)) 20 (va_cpy (a 12) (a 20) 0 0 6)) 21 (va_cpy (a 13) (a 21) 0 0 6)) 22 (va_cpy (a 14) (a 22) 0 0 6)) 23 (va_cpy (a 15) (a 23) 0 0 6)) ta n z c).2.2)) H1 := hP1
  clear hP1
  generalize H1 = H at hP hS ⊢
  have hP : va_P D vwCl (wX cI ad (upd (upd (upd (upd (upd f 9 (f 4)) 10 (f 5)) 11 (f 6)) 12 (f 7)) 13 (nI c)) (uA (uA (uA (uA (uA (uA (uA (uA a 17 (va_cpy (a 9) (a 17) 0 0 6)) 18 (va_cpy (a 10) (a 18) 0 0 6)) 19 (va_cpy (a 11) (a 19) 0 0 6)) 20 (va_cpy (a 12) (a 20) 0 0 6)) 21 (va_cpy (a 13) (a 21) 0 0 6)) 22 (va_cpy (a 14) (a 22) 0 0 6)) 23 (va_cpy (a 15) (a 23) 0 0 6)) 24 (va_cpy (a 16) (a 24) 0 0 6)) ta) H := hP
  exact W.vret E.1 E.2.1 hr (fun t ht _ => ⟨⟨(upd (upd (upd (upd (upd f 9 (f 4)) 10 (f 5)) 11 (f 6)) 12 (f 7)) 13 (nI c), uA (uA (uA (uA (uA (uA (uA (uA a 17 (va_cpy (a 9) (a 17) 0 0 6)) 18 (va_cpy (a 10) (a 18) 0 0 6)) 19 (va_cpy (a 11) (a 19) 0 0 6)) 20 (va_cpy (a 12) (a 20) 0 0 6)) 21 (va_cpy (a 13) (a 21) 0 0 6)) 22 (va_cpy (a 14) (a 22) 0 0 6)) 23 (va_cpy (a 15) (a 23) 0 0 6)) 24 (va_cpy (a 16) (a 24) 0 0 6), ta), rfl, (by rw [FX1_copy_at5_4]), (show va_P D vwCl (wX cI ad (upd (upd (upd (upd (upd f 9 (f 4)) 10 (f 5)) 11 (f 6)) 12 (f 7)) 13 (nI c)) (uA (uA (uA (uA (uA (uA (uA (uA a 17 (va_cpy (a 9) (a 17) 0 0 6)) 18 (va_cpy (a 10) (a 18) 0 0 6)) 19 (va_cpy (a 11) (a 19) 0 0 6)) 20 (va_cpy (a 12) (a 20) 0 0 6)) 21 (va_cpy (a 13) (a 21) 0 0 6)) 22 (va_cpy (a 14) (a 22) 0 0 6)) 23 (va_cpy (a 15) (a 23) 0 0 6)) 24 (va_cpy (a 16) (a 24) 0 0 6)) ta) t.heap from by rw [ht]; exact hP)⟩, hS.F ht⟩) hS.2.2 dX1_copy_128
def FX1_copy_at4_5 (f : Nat → Int32) (a : Nat → Nat → Int32) (ta : Nat → Nat → Int32) (n : Nat) (z : Nat) (c : Nat) (c2 : Nat) : SX := (upd (upd (upd (upd (upd f 4 (f 9)) 5 (f 10)) 6 (f 11)) 7 (f 12)) 8 (nI c2), uA (uA (uA (uA (uA (uA (uA (uA a 9 (va_cpy (a 17) (a 9) 0 0 6)) 10 (va_cpy (a 18) (a 10) 0 0 6)) 11 (va_cpy (a 19) (a 11) 0 0 6)) 12 (va_cpy (a 20) (a 12) 0 0 6)) 13 (va_cpy (a 21) (a 13) 0 0 6)) 14 (va_cpy (a 22) (a 14) 0 0 6)) 15 (va_cpy (a 23) (a 15) 0 0 6)) 16 (va_cpy (a 24) (a 16) 0 0 6), ta)
set_option maxHeartbeats 4000000 in
set_option maxRecDepth 100000 in
/-- an image is restored -/
theorem c_X1_copy_at4_5 (l : Launch) (D : va_G) (cI cB : ClassId) (ad : Nat → Nat) (f : Nat → Int32) (a ta : Nat → Nat → Int32) (n z c : Nat) (hX : IX n z c f) (hI : wI 25 ad) (c2 : Nat) (hc2 : f 13 = nI c2) (hc26 : c2 ≤ 6) : Met l yX1_copy wsX1_copy ({ frames := 2, cells := 0, slots := 0, locals := 85 }) (GPc D cI cB (wX cI ad f a ta) [.ref (ad 4), .ref (ad 5)]) (va_Qv (fun u : SX => u = FX1_copy_at4_5 f a ta n z c c2) (fun u t => va_P D vwCl (wX cI ad u.1 u.2.1 u.2.2) t.heap) (wA 25 ad)) 0 0 (wA 25 ad) := by
  refine Met.ofW (cc := cX1_copy) (maxL := 2) (ret := none) (by decide) rfl ?_
  intro p e s m args below meth cd s₁ B hml hv
  obtain ⟨rfl, hP, hK⟩ := hv
  have hts := atoms_spec (ws := wsX1_copy) B.pre
  have E : CallFix p m cd cX1_copy 2 s _ wsX1_copy RX1 := ⟨B.exec, B.bytes, hml, findClass_of_methodNamed B.named, hts⟩
  have hr := B.returns
  have hlocks := B.notSynchronized
  have h2n := pow6 (n := n) (by have := hX.2.1; omega)
  obtain ⟨hn, hn6, hz, hz21, hc, hc6⟩ := id hX
  have hS : va_S (wA 25 ad) s.heap s.heap [] := va_S.rf
  have in_1 : ∀ w ∈ wsX10, w ∈ wsX1_copy := fun _ h => List.mem_cons_of_mem _ (List.mem_append_right _ h)
  have w_0 : (Cond.fieldLink RX1 36 "SnowTerm$Term" "day" "I").before _ s = true := hts _ (by decide +kernel)
  have w_1 : (Cond.fieldLink RX1 40 "SnowTerm$Term" "sun" "I").before _ s = true := hts _ (by decide +kernel)
  have w_2 : (Cond.fieldLink RX1 43 "SnowTerm$Term" "cost" "I").before _ s = true := hts _ (by decide +kernel)
  have w_3 : (Cond.fieldLink RX1 46 "SnowTerm$Term" "praise" "I").before _ s = true := hts _ (by decide +kernel)
  have w_4 : (Cond.fieldLink RX1 49 "SnowTerm$Term" "foundCount" "I").before _ s = true := hts _ (by decide +kernel)
  have w_5 : (Cond.fieldLink RX1 9 "SnowTerm$Term" "snow" "[I").before _ s = true := hts _ (by decide +kernel)
  have w_6 : (Cond.fieldLink RX1 15 "SnowTerm$Term" "snowAtDusk" "[I").before _ s = true := hts _ (by decide +kernel)
  have w_7 : (Cond.fieldLink RX1 18 "SnowTerm$Term" "feet" "[I").before _ s = true := hts _ (by decide +kernel)
  have w_8 : (Cond.fieldLink RX1 21 "SnowTerm$Term" "brought" "[I").before _ s = true := hts _ (by decide +kernel)
  have w_9 : (Cond.fieldLink RX1 24 "SnowTerm$Term" "foundKind" "[I").before _ s = true := hts _ (by decide +kernel)
  have w_10 : (Cond.fieldLink RX1 27 "SnowTerm$Term" "foundFeet" "[I").before _ s = true := hts _ (by decide +kernel)
  have w_11 : (Cond.fieldLink RX1 30 "SnowTerm$Term" "foundDeep" "[I").before _ s = true := hts _ (by decide +kernel)
  have w_12 : (Cond.fieldLink RX1 33 "SnowTerm$Term" "foundLeft" "[I").before _ s = true := hts _ (by decide +kernel)
  have hl := lv_entry ([.ref (ad 4), .ref (ad 5)]) (n := 2) (Nat.le_of_ble_eq_true rfl)
  rw [lg_entry_eq]
  generalize (lg_sl ([.ref (ad 4), .ref (ad 5)]) ++ List.replicate (2 - (lg_sl ([.ref (ad 4), .ref (ad 5)])).length) Slot.unset).toArray = ls at hl ⊢
  have hl : lv_has ls 2 [(0, .ref (ad 4)), (1, .ref (ad 5))] := hl
  refine lv_aload_n E.1 E.2.1 dX1_copy_0 rfl (lv_at hl 0 rfl) ?_
  refine lv_aload_n E.1 E.2.1 dX1_copy_1 rfl (lv_at hl 1 rfl) ?_
  refine xg_5_0 E hK hP in_1 w_0 dX1_copy_2 ?_
  refine xp_4_0 (v := f 9) E hK hP in_1 w_0 hI hS dX1_copy_5 (fun H locs hP hS => ?_)
  refine lv_aload_n E.1 E.2.1 dX1_copy_8 rfl (lv_at hl 0 rfl) ?_
  refine lv_aload_n E.1 E.2.1 dX1_copy_9 rfl (lv_at hl 1 rfl) ?_
  refine xg_5_1 E hK hP in_1 w_1 dX1_copy_10 ?_
  refine lv_topi (fun y_1 ey_1 => ?_)
  obtain rfl : y_1 = f 10 := ey_1.trans (rfl)
  refine xp_4_1 (v := f 10) E hK hP in_1 w_1 hI hS dX1_copy_13 (fun H locs hP hS => ?_)
  refine lv_aload_n E.1 E.2.1 dX1_copy_16 rfl (lv_at hl 0 rfl) ?_
  refine lv_aload_n E.1 E.2.1 dX1_copy_17 rfl (lv_at hl 1 rfl) ?_
  refine xg_5_2 E hK hP in_1 w_2 dX1_copy_18 ?_
  refine lv_topi (fun y_2 ey_2 => ?_)
  obtain rfl : y_2 = f 11 := ey_2.trans (rfl)
  refine xp_4_2 (v := f 11) E hK hP in_1 w_2 hI hS dX1_copy_21 (fun H locs hP hS => ?_)
  refine lv_aload_n E.1 E.2.1 dX1_copy_24 rfl (lv_at hl 0 rfl) ?_
  refine lv_aload_n E.1 E.2.1 dX1_copy_25 rfl (lv_at hl 1 rfl) ?_
  refine xg_5_3 E hK hP in_1 w_3 dX1_copy_26 ?_
  refine lv_topi (fun y_3 ey_3 => ?_)
  obtain rfl : y_3 = f 12 := ey_3.trans (rfl)
  refine xp_4_3 (v := f 12) E hK hP in_1 w_3 hI hS dX1_copy_29 (fun H locs hP hS => ?_)
  refine lv_aload_n E.1 E.2.1 dX1_copy_32 rfl (lv_at hl 0 rfl) ?_
  refine lv_aload_n E.1 E.2.1 dX1_copy_33 rfl (lv_at hl 1 rfl) ?_
  refine xg_5_12 E hK hP in_1 w_4 dX1_copy_34 ?_
  refine lv_topi (fun y_4 ey_4 => ?_)
  obtain rfl : y_4 = nI c2 := ey_4.trans (hc2)
  refine xp_4_12 (v := nI c2) E hK hP in_1 w_4 hI hS dX1_copy_37 (fun H locs hP hS => ?_)
  refine lv_aload_n E.1 E.2.1 dX1_copy_40 rfl (lv_at hl 1 rfl) ?_
  refine xg_5_4 E hK hP in_1 w_5 dX1_copy_41 ?_
  refine lv_aload_n E.1 E.2.1 dX1_copy_44 rfl (lv_at hl 0 rfl) ?_
  refine xg_4_4 E hK hP in_1 w_5 dX1_copy_45 ?_
  refine g_SWv (As := [.ref (ad 17), .ref (ad 9)]) (rest := []) E hK hP hS (fun q h => h) (c_X1_copyRow_at17_9 l D cI cB ad (upd (upd (upd (upd (upd f 4 (f 9)) 5 (f 10)) 6 (f 11)) 7 (f 12)) 8 (nI c2)) a ta n z c2 (IX_c (IX_u (IX_u (IX_u (IX_u hX (by decide)) (by decide)) (by decide)) (by decide)) hc26) hI) (va_cwS 2 E.2.2.2.2 gX1_copy_X1_copyRow rfl rfl rfl (by decide +kernel) ⟨Nat.le_of_ble_eq_true rfl, Nat.le_of_ble_eq_true rfl⟩) rfl hl.1 rfl (Nat.le_of_ble_eq_true rfl) dX1_copy_48 ⟨Nat.zero_le _, Nat.zero_le _⟩ (fun u_5 H1 locs hp_6 hP1 hq_7 hS => ?_)
  obtain rfl : u_5 = FX1_copyRow_at17_9 (upd (upd (upd (upd (upd f 4 (f 9)) 5 (f 10)) 6 (f 11)) 7 (f 12)) 8 (nI c2)) a ta n z c2 := hp_6
  have hP : va_P D vwCl (wX cI ad ((FX1_copyRow_at17_9 (upd (upd (upd (upd (upd f 4 (f 9)) 5 (f 10)) 6 (f 11)) 7 (f 12)) 8 (nI c2)) a ta n z c2).1) ((FX1_copyRow_at17_9 (upd (upd (upd (upd (upd f 4 (f 9)) 5 (f 10)) 6 (f 11)) 7 (f 12)) 8 (nI c2)) a ta n z c2).2.1) ((FX1_copyRow_at17_9 (upd (upd (upd (upd (upd f 4 (f 9)) 5 (f 10)) 6 (f 11)) 7 (f 12)) 8 (nI c2)) a ta n z c2).2.2)) H1 := hP1
  clear hP1
  generalize H1 = H at hP hS ⊢
  have hP : va_P D vwCl (wX cI ad (upd (upd (upd (upd (upd f 4 (f 9)) 5 (f 10)) 6 (f 11)) 7 (f 12)) 8 (nI c2)) (uA a 9 (va_cpy (a 17) (a 9) 0 0 6)) ta) H := hP
  refine lv_aload_n E.1 E.2.1 dX1_copy_51 rfl (lv_at hl 1 rfl) ?_
  refine xg_5_5 E hK hP in_1 w_6 dX1_copy_52 ?_
  refine lv_aload_n E.1 E.2.1 dX1_copy_55 rfl (lv_at hl 0 rfl) ?_
  refine xg_4_5 E hK hP in_1 w_6 dX1_copy_56 ?_
  refine g_SWv (As := [.ref (ad 18), .ref (ad 10)]) (rest := []) E hK hP hS (fun q h => h) (c_X1_copyRow_at18_10 l D cI cB ad (upd (upd (upd (upd (upd f 4 (f 9)) 5 (f 10)) 6 (f 11)) 7 (f 12)) 8 (nI c2)) (uA a 9 (va_cpy (a 17) (a 9) 0 0 6)) ta n z c2 (IX_c (IX_u (IX_u (IX_u (IX_u hX (by decide)) (by decide)) (by decide)) (by decide)) hc26) hI) (va_cwS 2 E.2.2.2.2 gX1_copy_X1_copyRow rfl rfl rfl (by decide +kernel) ⟨Nat.le_of_ble_eq_true rfl, Nat.le_of_ble_eq_true rfl⟩) rfl hl.1 rfl (Nat.le_of_ble_eq_true rfl) dX1_copy_59 ⟨Nat.zero_le _, Nat.zero_le _⟩ (fun u_8 H1 locs hp_9 hP1 hq_10 hS => ?_)
  obtain rfl : u_8 = FX1_copyRow_at18_10 (upd (upd (upd (upd (upd f 4 (f 9)) 5 (f 10)) 6 (f 11)) 7 (f 12)) 8 (nI c2)) (uA a 9 (va_cpy (a 17) (a 9) 0 0 6)) ta n z c2 := hp_9
  have hP : va_P D vwCl (wX cI ad ((FX1_copyRow_at18_10 (upd (upd (upd (upd (upd f 4 (f 9)) 5 (f 10)) 6 (f 11)) 7 (f 12)) 8 (nI c2)) (uA a 9 (va_cpy (a 17) (a 9) 0 0 6)) ta n z c2).1) ((FX1_copyRow_at18_10 (upd (upd (upd (upd (upd f 4 (f 9)) 5 (f 10)) 6 (f 11)) 7 (f 12)) 8 (nI c2)) (uA a 9 (va_cpy (a 17) (a 9) 0 0 6)) ta n z c2).2.1) ((FX1_copyRow_at18_10 (upd (upd (upd (upd (upd f 4 (f 9)) 5 (f 10)) 6 (f 11)) 7 (f 12)) 8 (nI c2)) (uA a 9 (va_cpy (a 17) (a 9) 0 0 6)) ta n z c2).2.2)) H1 := hP1
  clear hP1
  generalize H1 = H at hP hS ⊢
  have hP : va_P D vwCl (wX cI ad (upd (upd (upd (upd (upd f 4 (f 9)) 5 (f 10)) 6 (f 11)) 7 (f 12)) 8 (nI c2)) (uA (uA a 9 (va_cpy (a 17) (a 9) 0 0 6)) 10 (va_cpy (a 18) (a 10) 0 0 6)) ta) H := hP
  refine lv_aload_n E.1 E.2.1 dX1_copy_62 rfl (lv_at hl 1 rfl) ?_
  refine xg_5_6 E hK hP in_1 w_7 dX1_copy_63 ?_
  refine lv_aload_n E.1 E.2.1 dX1_copy_66 rfl (lv_at hl 0 rfl) ?_
  refine xg_4_6 E hK hP in_1 w_7 dX1_copy_67 ?_
  refine g_SWv (As := [.ref (ad 19), .ref (ad 11)]) (rest := []) E hK hP hS (fun q h => h) (c_X1_copyRow_at19_11 l D cI cB ad (upd (upd (upd (upd (upd f 4 (f 9)) 5 (f 10)) 6 (f 11)) 7 (f 12)) 8 (nI c2)) (uA (uA a 9 (va_cpy (a 17) (a 9) 0 0 6)) 10 (va_cpy (a 18) (a 10) 0 0 6)) ta n z c2 (IX_c (IX_u (IX_u (IX_u (IX_u hX (by decide)) (by decide)) (by decide)) (by decide)) hc26) hI) (va_cwS 2 E.2.2.2.2 gX1_copy_X1_copyRow rfl rfl rfl (by decide +kernel) ⟨Nat.le_of_ble_eq_true rfl, Nat.le_of_ble_eq_true rfl⟩) rfl hl.1 rfl (Nat.le_of_ble_eq_true rfl) dX1_copy_70 ⟨Nat.zero_le _, Nat.zero_le _⟩ (fun u_11 H1 locs hp_12 hP1 hq_13 hS => ?_)
  obtain rfl : u_11 = FX1_copyRow_at19_11 (upd (upd (upd (upd (upd f 4 (f 9)) 5 (f 10)) 6 (f 11)) 7 (f 12)) 8 (nI c2)) (uA (uA a 9 (va_cpy (a 17) (a 9) 0 0 6)) 10 (va_cpy (a 18) (a 10) 0 0 6)) ta n z c2 := hp_12
  have hP : va_P D vwCl (wX cI ad ((FX1_copyRow_at19_11 (upd (upd (upd (upd (upd f 4 (f 9)) 5 (f 10)) 6 (f 11)) 7 (f 12)) 8 (nI c2)) (uA (uA a 9 (va_cpy (a 17) (a 9) 0 0 6)) 10 (va_cpy (a 18) (a 10) 0 0 6)) ta n z c2).1) ((FX1_copyRow_at19_11 (upd (upd (upd (upd (upd f 4 (f 9)) 5 (f 10)) 6 (f 11)) 7 (f 12)) 8 (nI c2)) (uA (uA a 9 (va_cpy (a 17) (a 9) 0 0 6)) 10 (va_cpy (a 18) (a 10) 0 0 6)) ta n z c2).2.1) ((FX1_copyRow_at19_11 (upd (upd (upd (upd (upd f 4 (f 9)) 5 (f 10)) 6 (f 11)) 7 (f 12)) 8 (nI c2)) (uA (uA a 9 (va_cpy (a 17) (a 9) 0 0 6)) 10 (va_cpy (a 18) (a 10) 0 0 6)) ta n z c2).2.2)) H1 := hP1
  clear hP1
  generalize H1 = H at hP hS ⊢
  have hP : va_P D vwCl (wX cI ad (upd (upd (upd (upd (upd f 4 (f 9)) 5 (f 10)) 6 (f 11)) 7 (f 12)) 8 (nI c2)) (uA (uA (uA a 9 (va_cpy (a 17) (a 9) 0 0 6)) 10 (va_cpy (a 18) (a 10) 0 0 6)) 11 (va_cpy (a 19) (a 11) 0 0 6)) ta) H := hP
  refine lv_aload_n E.1 E.2.1 dX1_copy_73 rfl (lv_at hl 1 rfl) ?_
  refine xg_5_7 E hK hP in_1 w_8 dX1_copy_74 ?_
  refine lv_aload_n E.1 E.2.1 dX1_copy_77 rfl (lv_at hl 0 rfl) ?_
  refine xg_4_7 E hK hP in_1 w_8 dX1_copy_78 ?_
  refine g_SWv (As := [.ref (ad 20), .ref (ad 12)]) (rest := []) E hK hP hS (fun q h => h) (c_X1_copyRow_at20_12 l D cI cB ad (upd (upd (upd (upd (upd f 4 (f 9)) 5 (f 10)) 6 (f 11)) 7 (f 12)) 8 (nI c2)) (uA (uA (uA a 9 (va_cpy (a 17) (a 9) 0 0 6)) 10 (va_cpy (a 18) (a 10) 0 0 6)) 11 (va_cpy (a 19) (a 11) 0 0 6)) ta n z c2 (IX_c (IX_u (IX_u (IX_u (IX_u hX (by decide)) (by decide)) (by decide)) (by decide)) hc26) hI) (va_cwS 2 E.2.2.2.2 gX1_copy_X1_copyRow rfl rfl rfl (by decide +kernel) ⟨Nat.le_of_ble_eq_true rfl, Nat.le_of_ble_eq_true rfl⟩) rfl hl.1 rfl (Nat.le_of_ble_eq_true rfl) dX1_copy_81 ⟨Nat.zero_le _, Nat.zero_le _⟩ (fun u_14 H1 locs hp_15 hP1 hq_16 hS => ?_)
  obtain rfl : u_14 = FX1_copyRow_at20_12 (upd (upd (upd (upd (upd f 4 (f 9)) 5 (f 10)) 6 (f 11)) 7 (f 12)) 8 (nI c2)) (uA (uA (uA a 9 (va_cpy (a 17) (a 9) 0 0 6)) 10 (va_cpy (a 18) (a 10) 0 0 6)) 11 (va_cpy (a 19) (a 11) 0 0 6)) ta n z c2 := hp_15
  have hP : va_P D vwCl (wX cI ad ((FX1_copyRow_at20_12 (upd (upd (upd (upd (upd f 4 (f 9)) 5 (f 10)) 6 (f 11)) 7 (f 12)) 8 (nI c2)) (uA (uA (uA a 9 (va_cpy (a 17) (a 9) 0 0 6)) 10 (va_cpy (a 18) (a 10) 0 0 6)) 11 (va_cpy (a 19) (a 11) 0 0 6)) ta n z c2).1) ((FX1_copyRow_at20_12 (upd (upd (upd (upd (upd f 4 (f 9)) 5 (f 10)) 6 (f 11)) 7 (f 12)) 8 (nI c2)) (uA (uA (uA a 9 (va_cpy (a 17) (a 9) 0 0 6)) 10 (va_cpy (a 18) (a 10) 0 0 6)) 11 (va_cpy (a 19) (a 11) 0 0 6)) ta n z c2).2.1) ((FX1_copyRow_at20_12 (upd (upd (upd (upd (upd f 4 (f 9)) 5 (f 10)) 6 (f 11)) 7 (f 12)) 8 (nI c2)) (uA (uA (uA a 9 (va_cpy (a 17) (a 9) 0 0 6)) 10 (va_cpy (a 18) (a 10) 0 0 6)) 11 (va_cpy (a 19) (a 11) 0 0 6)) ta n z c2).2.2)) H1 := hP1
  clear hP1
  generalize H1 = H at hP hS ⊢
  have hP : va_P D vwCl (wX cI ad (upd (upd (upd (upd (upd f 4 (f 9)) 5 (f 10)) 6 (f 11)) 7 (f 12)) 8 (nI c2)) (uA (uA (uA (uA a 9 (va_cpy (a 17) (a 9) 0 0 6)) 10 (va_cpy (a 18) (a 10) 0 0 6)) 11 (va_cpy (a 19) (a 11) 0 0 6)) 12 (va_cpy (a 20) (a 12) 0 0 6)) ta) H := hP
  refine lv_aload_n E.1 E.2.1 dX1_copy_84 rfl (lv_at hl 1 rfl) ?_
  refine xg_5_8 E hK hP in_1 w_9 dX1_copy_85 ?_
  refine lv_aload_n E.1 E.2.1 dX1_copy_88 rfl (lv_at hl 0 rfl) ?_
  refine xg_4_8 E hK hP in_1 w_9 dX1_copy_89 ?_
  refine g_SWv (As := [.ref (ad 21), .ref (ad 13)]) (rest := []) E hK hP hS (fun q h => h) (c_X1_copyRow_at21_13 l D cI cB ad (upd (upd (upd (upd (upd f 4 (f 9)) 5 (f 10)) 6 (f 11)) 7 (f 12)) 8 (nI c2)) (uA (uA (uA (uA a 9 (va_cpy (a 17) (a 9) 0 0 6)) 10 (va_cpy (a 18) (a 10) 0 0 6)) 11 (va_cpy (a 19) (a 11) 0 0 6)) 12 (va_cpy (a 20) (a 12) 0 0 6)) ta n z c2 (IX_c (IX_u (IX_u (IX_u (IX_u hX (by decide)) (by decide)) (by decide)) (by decide)) hc26) hI) (va_cwS 2 E.2.2.2.2 gX1_copy_X1_copyRow rfl rfl rfl (by decide +kernel) ⟨Nat.le_of_ble_eq_true rfl, Nat.le_of_ble_eq_true rfl⟩) rfl hl.1 rfl (Nat.le_of_ble_eq_true rfl) dX1_copy_92 ⟨Nat.zero_le _, Nat.zero_le _⟩ (fun u_17 H1 locs hp_18 hP1 hq_19 hS => ?_)
  obtain rfl : u_17 = FX1_copyRow_at21_13 (upd (upd (upd (upd (upd f 4 (f 9)) 5 (f 10)) 6 (f 11)) 7 (f 12)) 8 (nI c2)) (uA (uA (uA (uA a 9 (va_cpy (a 17) (a 9) 0 0 6)) 10 (va_cpy (a 18) (a 10) 0 0 6)) 11 (va_cpy (a 19) (a 11) 0 0 6)) 12 (va_cpy (a 20) (a 12) 0 0 6)) ta n z c2 := hp_18
  have hP : va_P D vwCl (wX cI ad ((FX1_copyRow_at21_13 (upd (upd (upd (upd (upd f 4 (f 9)) 5 (f 10)) 6 (f 11)) 7 (f 12)) 8 (nI c2)) (uA (uA (uA (uA a 9 (va_cpy (a 17) (a 9) 0 0 6)) 10 (va_cpy (a 18) (a 10) 0 0 6)) 11 (va_cpy (a 19) (a 11) 0 0 6)) 12 (va_cpy (a 20) (a 12) 0 0 6)) ta n z c2).1) ((FX1_copyRow_at21_13 (upd (upd (upd (upd (upd f 4 (f 9)) 5 (f 10)) 6 (f 11)) 7 (f 12)) 8 (nI c2)) (uA (uA (uA (uA a 9 (va_cpy (a 17) (a 9) 0 0 6)) 10 (va_cpy (a 18) (a 10) 0 0 6)) 11 (va_cpy (a 19) (a 11) 0 0 6)) 12 (va_cpy (a 20) (a 12) 0 0 6)) ta n z c2).2.1) ((FX1_copyRow_at21_13 (upd (upd (upd (upd (upd f 4 (f 9)) 5 (f 10)) 6 (f 11)) 7 (f 12)) 8 (nI c2)) (uA (uA (uA (uA a 9 (va_cpy (a 17) (a 9) 0 0 6)) 10 (va_cpy (a 18) (a 10) 0 0 6)) 11 (va_cpy (a 19) (a 11) 0 0 6)) 12 (va_cpy (a 20) (a 12) 0 0 6)) ta n z c2).2.2)) H1 := hP1
  clear hP1
  generalize H1 = H at hP hS ⊢
  have hP : va_P D vwCl (wX cI ad (upd (upd (upd (upd (upd f 4 (f 9)) 5 (f 10)) 6 (f 11)) 7 (f 12)) 8 (nI c2)) (uA (uA (uA (uA (uA a 9 (va_cpy (a 17) (a 9) 0 0 6)) 10 (va_cpy (a 18) (a 10) 0 0 6)) 11 (va_cpy (a 19) (a 11) 0 0 6)) 12 (va_cpy (a 20) (a 12) 0 0 6)) 13 (va_cpy (a 21) (a 13) 0 0 6)) ta) H := hP
  refine lv_aload_n E.1 E.2.1 dX1_copy_95 rfl (lv_at hl 1 rfl) ?_
  refine xg_5_9 E hK hP in_1 w_10 dX1_copy_96 ?_
  refine lv_aload_n E.1 E.2.1 dX1_copy_99 rfl (lv_at hl 0 rfl) ?_
  refine xg_4_9 E hK hP in_1 w_10 dX1_copy_100 ?_
  refine g_SWv (As := [.ref (ad 22), .ref (ad 14)]) (rest := []) E hK hP hS (fun q h => h) (c_X1_copyRow_at22_14 l D cI cB ad (upd (upd (upd (upd (upd f 4 (f 9)) 5 (f 10)) 6 (f 11)) 7 (f 12)) 8 (nI c2)) (uA (uA (uA (uA (uA a 9 (va_cpy (a 17) (a 9) 0 0 6)) 10 (va_cpy (a 18) (a 10) 0 0 6)) 11 (va_cpy (a 19) (a 11) 0 0 6)) 12 (va_cpy (a 20) (a 12) 0 0 6)) 13 (va_cpy (a 21) (a 13) 0 0 6)) ta n z c2 (IX_c (IX_u (IX_u (IX_u (IX_u hX (by decide)) (by decide)) (by decide)) (by decide)) hc26) hI) (va_cwS 2 E.2.2.2.2 gX1_copy_X1_copyRow rfl rfl rfl (by decide +kernel) ⟨Nat.le_of_ble_eq_true rfl, Nat.le_of_ble_eq_true rfl⟩) rfl hl.1 rfl (Nat.le_of_ble_eq_true rfl) dX1_copy_103 ⟨Nat.zero_le _, Nat.zero_le _⟩ (fun u_20 H1 locs hp_21 hP1 hq_22 hS => ?_)
  obtain rfl : u_20 = FX1_copyRow_at22_14 (upd (upd (upd (upd (upd f 4 (f 9)) 5 (f 10)) 6 (f 11)) 7 (f 12)) 8 (nI c2)) (uA (uA (uA (uA (uA a 9 (va_cpy (a 17) (a 9) 0 0 6)) 10 (va_cpy (a 18) (a 10) 0 0 6)) 11 (va_cpy (a 19) (a 11) 0 0 6)) 12 (va_cpy (a 20) (a 12) 0 0 6)) 13 (va_cpy (a 21) (a 13) 0 0 6)) ta n z c2 := hp_21
  have hP : va_P D vwCl (wX cI ad ((FX1_copyRow_at22_14 (upd (upd (upd (upd (upd f 4 (f 9)) 5 (f 10)) 6 (f 11)) 7 (f 12)) 8 (nI c2)) (uA (uA (uA (uA (uA a 9 (va_cpy (a 17) (a 9) 0 0 6)) 10 (va_cpy (a 18) (a 10) 0 0 6)) 11 (va_cpy (a 19) (a 11) 0 0 6)) 12 (va_cpy (a 20) (a 12) 0 0 6)) 13 (va_cpy (a 21) (a 13) 0 0 6)) ta n z c2).1) ((FX1_copyRow_at22_14 (upd (upd (upd (upd (upd f 4 (f 9)) 5 (f 10)) 6 (f 11)) 7 (f 12)) 8 (nI c2)) (uA (uA (uA (uA (uA a 9 (va_cpy (a 17) (a 9) 0 0 6)) 10 (va_cpy (a 18) (a 10) 0 0 6)) 11 (va_cpy (a 19) (a 11) 0 0 6)) 12 (va_cpy (a 20) (a 12) 0 0 6)) 13 (va_cpy (a 21) (a 13) 0 0 6)) ta n z c2).2.1) ((FX1_copyRow_at22_14 (upd (upd (upd (upd (upd f 4 (f 9)) 5 (f 10)) 6 (f 11)) 7 (f 12)) 8 (nI c2)) (uA (uA (uA (uA (uA a 9 (va_cpy (a 17) (a 9) 0 0 6)) 10 (va_cpy (a 18) (a 10) 0 0 6)) 11 (va_cpy (a 19) (a 11) 0 0 6)) 12 (va_cpy (a 20) (a 12) 0 0 6)) 13 (va_cpy (a 21) (a 13) 0 0 6)) ta n z c2).2.2)) H1 := hP1
  clear hP1
  generalize H1 = H at hP hS ⊢
  have hP : va_P D vwCl (wX cI ad (upd (upd (upd (upd (upd f 4 (f 9)) 5 (f 10)) 6 (f 11)) 7 (f 12)) 8 (nI c2)) (uA (uA (uA (uA (uA (uA a 9 (va_cpy (a 17) (a 9) 0 0 6)) 10 (va_cpy (a 18) (a 10) 0 0 6)) 11 (va_cpy (a 19) (a 11) 0 0 6)) 12 (va_cpy (a 20) (a 12) 0 0 6)) 13 (va_cpy (a 21) (a 13) 0 0 6)) 14 (va_cpy (a 22) (a 14) 0 0 6)) ta) H := hP
  refine lv_aload_n E.1 E.2.1 dX1_copy_106 rfl (lv_at hl 1 rfl) ?_
  refine xg_5_10 E hK hP in_1 w_11 dX1_copy_107 ?_
  refine lv_aload_n E.1 E.2.1 dX1_copy_110 rfl (lv_at hl 0 rfl) ?_
  refine xg_4_10 E hK hP in_1 w_11 dX1_copy_111 ?_
  refine g_SWv (As := [.ref (ad 23), .ref (ad 15)]) (rest := []) E hK hP hS (fun q h => h) (c_X1_copyRow_at23_15 l D cI cB ad (upd (upd (upd (upd (upd f 4 (f 9)) 5 (f 10)) 6 (f 11)) 7 (f 12)) 8 (nI c2)) (uA (uA (uA (uA (uA (uA a 9 (va_cpy (a 17) (a 9) 0 0 6)) 10 (va_cpy (a 18) (a 10) 0 0 6)) 11 (va_cpy (a 19) (a 11) 0 0 6)) 12 (va_cpy (a 20) (a 12) 0 0 6)) 13 (va_cpy (a 21) (a 13) 0 0 6)) 14 (va_cpy (a 22) (a 14) 0 0 6)) ta n z c2 (IX_c (IX_u (IX_u (IX_u (IX_u hX (by decide)) (by decide)) (by decide)) (by decide)) hc26) hI) (va_cwS 2 E.2.2.2.2 gX1_copy_X1_copyRow rfl rfl rfl (by decide +kernel) ⟨Nat.le_of_ble_eq_true rfl, Nat.le_of_ble_eq_true rfl⟩) rfl hl.1 rfl (Nat.le_of_ble_eq_true rfl) dX1_copy_114 ⟨Nat.zero_le _, Nat.zero_le _⟩ (fun u_23 H1 locs hp_24 hP1 hq_25 hS => ?_)
  obtain rfl : u_23 = FX1_copyRow_at23_15 (upd (upd (upd (upd (upd f 4 (f 9)) 5 (f 10)) 6 (f 11)) 7 (f 12)) 8 (nI c2)) (uA (uA (uA (uA (uA (uA a 9 (va_cpy (a 17) (a 9) 0 0 6)) 10 (va_cpy (a 18) (a 10) 0 0 6)) 11 (va_cpy (a 19) (a 11) 0 0 6)) 12 (va_cpy (a 20) (a 12) 0 0 6)) 13 (va_cpy (a 21) (a 13) 0 0 6)) 14 (va_cpy (a 22) (a 14) 0 0 6)) ta n z c2 := hp_24
  have hP : va_P D vwCl (wX cI ad ((FX1_copyRow_at23_15 (upd (upd (upd (upd (upd f 4 (f 9)) 5 (f 10)) 6 (f 11)) 7 (f 12)) 8 (nI c2)) (uA (uA (uA (uA (uA (uA a 9 (va_cpy (a 17) (a 9) 0 0 6)) 10 (va_cpy (a 18) (a 10) 0 0 6)) 11 (va_cpy (a 19) (a 11) 0 0 6)) 12 (va_cpy (a 20) (a 12) 0 0 6)) 13 (va_cpy (a 21) (a 13) 0 0 6)) 14 (va_cpy (a 22) (a 14) 0 0 6)) ta n z c2).1) ((FX1_copyRow_at23_15 (upd (upd (upd (upd (upd f 4 (f 9)) 5 (f 10)) 6 (f 11)) 7 (f 12)) 8 (nI c2)) (uA (uA (uA (uA (uA (uA a 9 (va_cpy (a 17) (a 9) 0 0 6)) 10 (va_cpy (a 18) (a 10) 0 0 6)) 11 (va_cpy (a 19) (a 11) 0 0 6)) 12 (va_cpy (a 20) (a 12) 0 0 6)) 13 (va_cpy (a 21) (a 13) 0 0 6)) 14 (va_cpy (a 22) (a 14) 0 0 6)) ta n z c2).2.1) ((FX1_copyRow_at23_15 (upd (upd (upd (upd (upd f 4 (f 9)) 5 (f 10)) 6 (f 11)) 7 (f 12)) 8 (nI c2)) (uA (uA (uA (uA (uA (uA a 9 (va_cpy (a 17) (a 9) 0 0 6)) 10 (va_cpy (a 18) (a 10) 0 0 6)) 11 (va_cpy (a 19) (a 11) 0 0 6)) 12 (va_cpy (a 20) (a 12) 0 0 6)) 13 (va_cpy (a 21) (a 13) 0 0 6)) 14 (va_cpy (a 22) (a 14) 0 0 6)) ta n z c2).2.2)) H1 := hP1
  clear hP1
  generalize H1 = H at hP hS ⊢
  have hP : va_P D vwCl (wX cI ad (upd (upd (upd (upd (upd f 4 (f 9)) 5 (f 10)) 6 (f 11)) 7 (f 12)) 8 (nI c2)) (uA (uA (uA (uA (uA (uA (uA a 9 (va_cpy (a 17) (a 9) 0 0 6)) 10 (va_cpy (a 18) (a 10) 0 0 6)) 11 (va_cpy (a 19) (a 11) 0 0 6)) 12 (va_cpy (a 20) (a 12) 0 0 6)) 13 (va_cpy (a 21) (a 13) 0 0 6)) 14 (va_cpy (a 22) (a 14) 0 0 6)) 15 (va_cpy (a 23) (a 15) 0 0 6)) ta) H := hP
  refine lv_aload_n E.1 E.2.1 dX1_copy_117 rfl (lv_at hl 1 rfl) ?_
  refine xg_5_11 E hK hP in_1 w_12 dX1_copy_118 ?_
  refine lv_aload_n E.1 E.2.1 dX1_copy_121 rfl (lv_at hl 0 rfl) ?_
  refine xg_4_11 E hK hP in_1 w_12 dX1_copy_122 ?_
  refine g_SWv (As := [.ref (ad 24), .ref (ad 16)]) (rest := []) E hK hP hS (fun q h => h) (c_X1_copyRow_at24_16 l D cI cB ad (upd (upd (upd (upd (upd f 4 (f 9)) 5 (f 10)) 6 (f 11)) 7 (f 12)) 8 (nI c2)) (uA (uA (uA (uA (uA (uA (uA a 9 (va_cpy (a 17) (a 9) 0 0 6)) 10 (va_cpy (a 18) (a 10) 0 0 6)) 11 (va_cpy (a 19) (a 11) 0 0 6)) 12 (va_cpy (a 20) (a 12) 0 0 6)) 13 (va_cpy (a 21) (a 13) 0 0 6)) 14 (va_cpy (a 22) (a 14) 0 0 6)) 15 (va_cpy (a 23) (a 15) 0 0 6)) ta n z c2 (IX_c (IX_u (IX_u (IX_u (IX_u hX (by decide)) (by decide)) (by decide)) (by decide)) hc26) hI) (va_cwS 2 E.2.2.2.2 gX1_copy_X1_copyRow rfl rfl rfl (by decide +kernel) ⟨Nat.le_of_ble_eq_true rfl, Nat.le_of_ble_eq_true rfl⟩) rfl hl.1 rfl (Nat.le_of_ble_eq_true rfl) dX1_copy_125 ⟨Nat.zero_le _, Nat.zero_le _⟩ (fun u_26 H1 locs hp_27 hP1 hq_28 hS => ?_)
  obtain rfl : u_26 = FX1_copyRow_at24_16 (upd (upd (upd (upd (upd f 4 (f 9)) 5 (f 10)) 6 (f 11)) 7 (f 12)) 8 (nI c2)) (uA (uA (uA (uA (uA (uA (uA a 9 (va_cpy (a 17) (a 9) 0 0 6)) 10 (va_cpy (a 18) (a 10) 0 0 6)) 11 (va_cpy (a 19) (a 11) 0 0 6)) 12 (va_cpy (a 20) (a 12) 0 0 6)) 13 (va_cpy (a 21) (a 13) 0 0 6)) 14 (va_cpy (a 22) (a 14) 0 0 6)) 15 (va_cpy (a 23) (a 15) 0 0 6)) ta n z c2 := hp_27
  have hP : va_P D vwCl (wX cI ad ((FX1_copyRow_at24_16 (upd (upd (upd (upd (upd f 4 (f 9)) 5 (f 10)) 6 (f 11)) 7 (f 12)) 8 (nI c2)) (uA (uA (uA (uA (uA (uA (uA a 9 (va_cpy (a 17) (a 9) 0 0 6)) 10 (va_cpy (a 18) (a 10) 0 0 6)) 11 (va_cpy (a 19) (a 11) 0 0 6)) 12 (va_cpy (a 20) (a 12) 0 0 6)) 13 (va_cpy (a 21) (a 13) 0 0 6)) 14 (va_cpy (a 22) (a 14) 0 0 6)) 15 (va_cpy (a 23) (a 15) 0 0 6)) ta n z c2).1) ((FX1_copyRow_at24_16 (upd (upd (upd (upd (upd f 4 (f 9)) 5 (f 10)) 6 (f 11)) 7 (f 12)) 8 (nI c2)) (uA (uA (uA (uA (uA (uA (uA a 9 (va_cpy (a 17) (a 9) 0 0 6)) 10 (va_cpy (a 18) (a 10) 0 0 6)) 11 (va_cpy (a 19) (a 11) 0 0 6)) 12 (va_cpy (a 20) (a 12) 0 0 6)) 13 (va_cpy (a 21) (a 13) 0 0 6)) 14 (va_cpy (a 22) (a 14) 0 0 6)) 15 (va_cpy (a 23) (a 15) 0 0 6)) ta n z c2).2.1) ((FX1_copyRow_at24_16 (upd (upd (upd (upd (upd f 4 (f 9)) 5 (f 10)) 6 (f 11)) 7 (f 12)) 8 (nI c2)) (uA (uA (uA (uA (uA (uA (uA a 9 (va_cpy (a 17) (a 9) 0 0 6)) 10 (va_cpy (a 18) (a 10) 0 0 6)) 11 (va_cpy (a 19) (a 11) 0 0 6)) 12 (va_cpy (a 20) (a 12) 0 0 6)) 13 (va_cpy (a 21) (a 13) 0 0 6)) 14 (va_cpy (a 22) (a 14) 0 0 6)) 15 (va_cpy (a 23) (a 15) 0 0 6)) ta n z c2).2.2)) H1 := hP1
  clear hP1
  generalize H1 = H at hP hS ⊢
  have hP : va_P D vwCl (wX cI ad (upd (upd (upd (upd (upd f 4 (f 9)) 5 (f 10)) 6 (f 11)) 7 (f 12)) 8 (nI c2)) (uA (uA (uA (uA (uA (uA (uA (uA a 9 (va_cpy (a 17) (a 9) 0 0 6)) 10 (va_cpy (a 18) (a 10) 0 0 6)) 11 (va_cpy (a 19) (a 11) 0 0 6)) 12 (va_cpy (a 20) (a 12) 0 0 6)) 13 (va_cpy (a 21) (a 13) 0 0 6)) 14 (va_cpy (a 22) (a 14) 0 0 6)) 15 (va_cpy (a 23) (a 15) 0 0 6)) 16 (va_cpy (a 24) (a 16) 0 0 6)) ta) H := hP
  exact W.vret E.1 E.2.1 hr (fun t ht _ => ⟨⟨(upd (upd (upd (upd (upd f 4 (f 9)) 5 (f 10)) 6 (f 11)) 7 (f 12)) 8 (nI c2), uA (uA (uA (uA (uA (uA (uA (uA a 9 (va_cpy (a 17) (a 9) 0 0 6)) 10 (va_cpy (a 18) (a 10) 0 0 6)) 11 (va_cpy (a 19) (a 11) 0 0 6)) 12 (va_cpy (a 20) (a 12) 0 0 6)) 13 (va_cpy (a 21) (a 13) 0 0 6)) 14 (va_cpy (a 22) (a 14) 0 0 6)) 15 (va_cpy (a 23) (a 15) 0 0 6)) 16 (va_cpy (a 24) (a 16) 0 0 6), ta), rfl, (by rw [FX1_copy_at4_5]), (show va_P D vwCl (wX cI ad (upd (upd (upd (upd (upd f 4 (f 9)) 5 (f 10)) 6 (f 11)) 7 (f 12)) 8 (nI c2)) (uA (uA (uA (uA (uA (uA (uA (uA a 9 (va_cpy (a 17) (a 9) 0 0 6)) 10 (va_cpy (a 18) (a 10) 0 0 6)) 11 (va_cpy (a 19) (a 11) 0 0 6)) 12 (va_cpy (a 20) (a 12) 0 0 6)) 13 (va_cpy (a 21) (a 13) 0 0 6)) 14 (va_cpy (a 22) (a 14) 0 0 6)) 15 (va_cpy (a 23) (a 15) 0 0 6)) 16 (va_cpy (a 24) (a 16) 0 0 6)) ta) t.heap from by rw [ht]; exact hP)⟩, hS.F ht⟩) hS.2.2 dX1_copy_128
def FX2_image (f : Nat → Int32) (a : Nat → Nat → Int32) (ta : Nat → Nat → Int32) (n : Nat) (z : Nat) (c : Nat) : Int32 × SX := (if nI n = 0 then ((-103), f, a, ta) else (((FX1_copy_at5_4 f a ta n z c).1) 9, upd ((FX1_copy_at5_4 f a ta n z c).1) 2 1, (FX1_copy_at5_4 f a ta n z c).2.1, (FX1_copy_at5_4 f a ta n z c).2.2))
set_option maxHeartbeats 4000000 in
set_option maxRecDepth 100000 in
/-- an image -/
theorem c_X2_image (l : Launch) (D : va_G) (cI cB : ClassId) (ad : Nat → Nat) (f : Nat → Int32) (a ta : Nat → Nat → Int32) (n z c : Nat) (hX : IX n z c f) (hI : wI 25 ad)  : Met l yX2_image wsX2_image ({ frames := 3, cells := 0, slots := 0, locals := 106 }) (GPc D cI cB (wX cI ad f a ta) [.ref (ad 0)]) (va_Qi (fun (r : Int32) (u : SX) => (r, u) = FX2_image f a ta n z c) (fun u t => va_P D vwCl (wX cI ad u.1 u.2.1 u.2.2) t.heap) (wA 25 ad)) 0 0 (wA 25 ad) := by
  refine Met.ofW (cc := cX2_image) (maxL := 1) (ret := (some .int)) (by decide) rfl ?_
  intro p e s m args below meth cd s₁ B hml hv
  obtain ⟨rfl, hP, hK⟩ := hv
  have hts := atoms_spec (ws := wsX2_image) B.pre
  have E : CallFix p m cd cX2_image 1 s _ wsX2_image RX2 := ⟨B.exec, B.bytes, hml, findClass_of_methodNamed B.named, hts⟩
  have hr := B.returns
  have hlocks := B.notSynchronized
  have h2n := pow6 (n := n) (by have := hX.2.1; omega)
  obtain ⟨hn, hn6, hz, hz21, hc, hc6⟩ := id hX
  have hS : va_S (wA 25 ad) s.heap s.heap [] := va_S.rf
  have in_1 : ∀ w ∈ wsX10, w ∈ wsX2_image := fun _ h => List.mem_cons_of_mem _ (List.mem_append_right _ h)
  have in_2 : ∀ w ∈ wsX20, w ∈ wsX2_image := fun _ h => List.mem_cons_of_mem _ (List.mem_append_left _ (List.mem_append_right _ h))
  have w_0 : (Cond.fieldLink RX2 39 "SnowTerm" "sites" "I").before _ s = true := hts _ (by decide +kernel)
  have w_1 : (Cond.fieldLink RX2 30 "SnowTerm" "atImage" "LSnowTerm$Term;").before _ s = true := hts _ (by decide +kernel)
  have w_2 : (Cond.fieldLink RX2 26 "SnowTerm" "now" "LSnowTerm$Term;").before _ s = true := hts _ (by decide +kernel)
  have w_3 : (Cond.fieldLink RX2 46 "SnowTerm" "hasImage" "Z").before _ s = true := hts _ (by decide +kernel)
  have w_4 : (Cond.fieldLink RX2 194 "SnowTerm$Term" "day" "I").before _ s = true := hts _ (by decide +kernel)
  have hl := lv_entry ([.ref (ad 0)]) (n := 1) (Nat.le_of_ble_eq_true rfl)
  rw [lg_entry_eq]
  generalize (lg_sl ([.ref (ad 0)]) ++ List.replicate (1 - (lg_sl ([.ref (ad 0)])).length) Slot.unset).toArray = ls at hl ⊢
  have hl : lv_has ls 1 [(0, .ref (ad 0))] := hl
  refine lv_aload_n E.1 E.2.1 dX2_image_0 rfl (lv_at hl 0 rfl) ?_
  refine xg_0_7 E hK hP in_2 w_0 dX2_image_1 ?_
  refine lv_topi (fun y_1 ey_1 => ?_)
  obtain rfl : y_1 = nI n := ey_1.trans (hn)
  refine lv_if_ne (x := nI n) (tgt := 10) E.1 E.2.1 dX2_image_4 (by decide) (fun h4 => ?_) (fun h4 => ?_)
  · have h4 := h4
    refine lv_aload_n E.1 E.2.1 dX2_image_10 rfl (lv_at hl 0 rfl) ?_
    refine xg_0_4 E hK hP in_2 w_1 dX2_image_11 ?_
    refine lv_aload_n E.1 E.2.1 dX2_image_14 rfl (lv_at hl 0 rfl) ?_
    refine xg_0_3 E hK hP in_2 w_2 dX2_image_15 ?_
    refine g_VWv (As := [.ref (ad 4)]) (rest := []) E hK hP hS (fun q h => h) (c_X1_copy_at5_4 l D cI cB ad f a ta n z c hX hI) (cwV 1 E.2.2.2.2 gX2_image_X1_copy rfl rfl rfl (by decide +kernel) ⟨Nat.le_of_ble_eq_true rfl, Nat.le_of_ble_eq_true rfl⟩) (rxi hK hP) rfl hl.1 rfl (Nat.le_of_ble_eq_true rfl) dX2_image_18 ⟨Nat.zero_le _, Nat.zero_le _⟩ (fun u_2 H1 locs hp_4 hP1 hq_5 hS => ?_)
    obtain rfl : u_2 = FX1_copy_at5_4 f a ta n z c := hp_4
    have hP : va_P D vwCl (wX cI ad ((FX1_copy_at5_4 f a ta n z c).1) ((FX1_copy_at5_4 f a ta n z c).2.1) ((FX1_copy_at5_4 f a ta n z c).2.2)) H1 := hP1
    clear hP1
    generalize H1 = H at hP hS ⊢
    refine lv_aload_n E.1 E.2.1 dX2_image_21 rfl (lv_at hl 0 rfl) ?_
    refine lv_iconst (v := 1) E.1 E.2.1 dX2_image_22 (by decide) ?_
    refine xp_0_9 (v := 1) E hK hP in_2 w_3 hI hS rfl rfl dX2_image_23 (fun H locs hP hS => ?_)
    refine lv_aload_n E.1 E.2.1 dX2_image_26 rfl (lv_at hl 0 rfl) ?_
    refine xg_0_4 E hK hP in_2 w_1 dX2_image_27 ?_
    refine xg_5_0 E hK hP in_1 w_4 dX2_image_30 ?_
    refine lv_topi (fun y_6 ey_6 => ?_)
    obtain rfl : y_6 = ((FX1_copy_at5_4 f a ta n z c).1) 9 := ey_6.trans (rfl)
    exact W.iret (v := ((FX1_copy_at5_4 f a ta n z c).1) 9) E.1 E.2.1 hr (fun t ht _ => ⟨⟨((FX1_copy_at5_4 f a ta n z c).1) 9, (upd ((FX1_copy_at5_4 f a ta n z c).1) 2 1, (FX1_copy_at5_4 f a ta n z c).2.1, (FX1_copy_at5_4 f a ta n z c).2.2), rfl, (by rw [FX2_image, if_neg h4]), (show va_P D vwCl (wX cI ad (upd ((FX1_copy_at5_4 f a ta n z c).1) 2 1) ((FX1_copy_at5_4 f a ta n z c).2.1) ((FX1_copy_at5_4 f a ta n z c).2.2)) t.heap from by rw [ht]; exact hP)⟩, hS.F ht⟩) hS.2.2 dX2_image_33
  · have h4 := h4
    refine lv_bipush (v := (-103)) E.1 E.2.1 dX2_image_7 (by decide) ?_
    exact W.iret (v := (-103)) E.1 E.2.1 hr (fun t ht _ => ⟨⟨(-103), (f, a, ta), rfl, (by rw [FX2_image, if_pos h4]), (show va_P D vwCl (wX cI ad f a ta) t.heap from by rw [ht]; exact hP)⟩, hS.F ht⟩) hS.2.2 dX2_image_9
def FX2_restore (f : Nat → Int32) (a : Nat → Nat → Int32) (ta : Nat → Nat → Int32) (n : Nat) (z : Nat) (c : Nat) (c2 : Nat) : Int32 × SX := (if f 2 = 0 then ((-103), f, a, ta) else (((FX1_copy_at4_5 f a ta n z c c2).1) 4, (FX1_copy_at4_5 f a ta n z c c2).1, (FX1_copy_at4_5 f a ta n z c c2).2.1, (FX1_copy_at4_5 f a ta n z c c2).2.2))
set_option maxHeartbeats 4000000 in
set_option maxRecDepth 100000 in
/-- back to the image -/
theorem c_X2_restore (l : Launch) (D : va_G) (cI cB : ClassId) (ad : Nat → Nat) (f : Nat → Int32) (a ta : Nat → Nat → Int32) (n z c : Nat) (hX : IX n z c f) (hI : wI 25 ad) (c2 : Nat) (hc2 : f 13 = nI c2) (hc26 : c2 ≤ 6) : Met l yX2_restore wsX2_restore ({ frames := 3, cells := 0, slots := 0, locals := 106 }) (GPc D cI cB (wX cI ad f a ta) [.ref (ad 0)]) (va_Qi (fun (r : Int32) (u : SX) => (r, u) = FX2_restore f a ta n z c c2) (fun u t => va_P D vwCl (wX cI ad u.1 u.2.1 u.2.2) t.heap) (wA 25 ad)) 0 0 (wA 25 ad) := by
  refine Met.ofW (cc := cX2_restore) (maxL := 1) (ret := (some .int)) (by decide) rfl ?_
  intro p e s m args below meth cd s₁ B hml hv
  obtain ⟨rfl, hP, hK⟩ := hv
  have hts := atoms_spec (ws := wsX2_restore) B.pre
  have E : CallFix p m cd cX2_restore 1 s _ wsX2_restore RX2 := ⟨B.exec, B.bytes, hml, findClass_of_methodNamed B.named, hts⟩
  have hr := B.returns
  have hlocks := B.notSynchronized
  have h2n := pow6 (n := n) (by have := hX.2.1; omega)
  obtain ⟨hn, hn6, hz, hz21, hc, hc6⟩ := id hX
  have hS : va_S (wA 25 ad) s.heap s.heap [] := va_S.rf
  have in_1 : ∀ w ∈ wsX10, w ∈ wsX2_restore := fun _ h => List.mem_cons_of_mem _ (List.mem_append_right _ h)
  have in_2 : ∀ w ∈ wsX20, w ∈ wsX2_restore := fun _ h => List.mem_cons_of_mem _ (List.mem_append_left _ (List.mem_append_right _ h))
  have w_0 : (Cond.fieldLink RX2 46 "SnowTerm" "hasImage" "Z").before _ s = true := hts _ (by decide +kernel)
  have w_1 : (Cond.fieldLink RX2 26 "SnowTerm" "now" "LSnowTerm$Term;").before _ s = true := hts _ (by decide +kernel)
  have w_2 : (Cond.fieldLink RX2 30 "SnowTerm" "atImage" "LSnowTerm$Term;").before _ s = true := hts _ (by decide +kernel)
  have w_3 : (Cond.fieldLink RX2 194 "SnowTerm$Term" "day" "I").before _ s = true := hts _ (by decide +kernel)
  have hl := lv_entry ([.ref (ad 0)]) (n := 1) (Nat.le_of_ble_eq_true rfl)
  rw [lg_entry_eq]
  generalize (lg_sl ([.ref (ad 0)]) ++ List.replicate (1 - (lg_sl ([.ref (ad 0)])).length) Slot.unset).toArray = ls at hl ⊢
  have hl : lv_has ls 1 [(0, .ref (ad 0))] := hl
  refine lv_aload_n E.1 E.2.1 dX2_restore_0 rfl (lv_at hl 0 rfl) ?_
  refine xg_0_9 E hK hP in_2 w_0 dX2_restore_1 ?_
  refine lv_if_ne (x := f 2) (tgt := 10) E.1 E.2.1 dX2_restore_4 (by decide) (fun h4 => ?_) (fun h4 => ?_)
  · have h4 := h4
    refine lv_aload_n E.1 E.2.1 dX2_restore_10 rfl (lv_at hl 0 rfl) ?_
    refine xg_0_3 E hK hP in_2 w_1 dX2_restore_11 ?_
    refine lv_aload_n E.1 E.2.1 dX2_restore_14 rfl (lv_at hl 0 rfl) ?_
    refine xg_0_4 E hK hP in_2 w_2 dX2_restore_15 ?_
    refine g_VWv (As := [.ref (ad 5)]) (rest := []) E hK hP hS (fun q h => h) (c_X1_copy_at4_5 l D cI cB ad f a ta n z c hX hI c2 hc2 hc26) (cwV 1 E.2.2.2.2 gX2_restore_X1_copy rfl rfl rfl (by decide +kernel) ⟨Nat.le_of_ble_eq_true rfl, Nat.le_of_ble_eq_true rfl⟩) (rxn hK hP) rfl hl.1 rfl (Nat.le_of_ble_eq_true rfl) dX2_restore_18 ⟨Nat.zero_le _, Nat.zero_le _⟩ (fun u_1 H1 locs hp_3 hP1 hq_4 hS => ?_)
    obtain rfl : u_1 = FX1_copy_at4_5 f a ta n z c c2 := hp_3
    have hP : va_P D vwCl (wX cI ad ((FX1_copy_at4_5 f a ta n z c c2).1) ((FX1_copy_at4_5 f a ta n z c c2).2.1) ((FX1_copy_at4_5 f a ta n z c c2).2.2)) H1 := hP1
    clear hP1
    generalize H1 = H at hP hS ⊢
    refine lv_aload_n E.1 E.2.1 dX2_restore_21 rfl (lv_at hl 0 rfl) ?_
    refine xg_0_3 E hK hP in_2 w_1 dX2_restore_22 ?_
    refine xg_4_0 E hK hP in_1 w_3 dX2_restore_25 ?_
    exact W.iret (v := ((FX1_copy_at4_5 f a ta n z c c2).1) 4) E.1 E.2.1 hr (fun t ht _ => ⟨⟨((FX1_copy_at4_5 f a ta n z c c2).1) 4, ((FX1_copy_at4_5 f a ta n z c c2).1, (FX1_copy_at4_5 f a ta n z c c2).2.1, (FX1_copy_at4_5 f a ta n z c c2).2.2), rfl, (by rw [FX2_restore, if_neg h4]), (show va_P D vwCl (wX cI ad ((FX1_copy_at4_5 f a ta n z c c2).1) ((FX1_copy_at4_5 f a ta n z c c2).2.1) ((FX1_copy_at4_5 f a ta n z c c2).2.2)) t.heap from by rw [ht]; exact hP)⟩, hS.F ht⟩) hS.2.2 dX2_restore_28
  · have h4 := h4
    refine lv_bipush (v := (-103)) E.1 E.2.1 dX2_restore_7 (by decide) ?_
    exact W.iret (v := (-103)) E.1 E.2.1 hr (fun t ht _ => ⟨⟨(-103), (f, a, ta), rfl, (by rw [FX2_restore, if_pos h4]), (show va_P D vwCl (wX cI ad f a ta) t.heap from by rw [ht]; exact hP)⟩, hS.F ht⟩) hS.2.2 dX2_restore_9
def FX2_fault (f : Nat → Int32) (a : Nat → Nat → Int32) (ta : Nat → Nat → Int32) (n : Nat) (z : Nat) (c : Nat) : Int32 := FX0_faultPlace f a ta n z c
set_option maxHeartbeats 4000000 in
set_option maxRecDepth 100000 in
/-- fault -/
theorem c_X2_fault (l : Launch) (D : va_G) (cI cB : ClassId) (ad : Nat → Nat) (f : Nat → Int32) (a ta : Nat → Nat → Int32) (n z c : Nat) (hX : IX n z c f) (aS aV : Nat) (A : Nat → Prop)  : Met l yX2_fault wsX2_fault ({ frames := 7, cells := 0, slots := 0, locals := 156 }) (GPs D cI cB aS aV A (wX cI ad f a ta) [.ref (ad 0)]) (QcRead (FX2_fault f a ta n z c)) 0 0 (fun _ => False) := by
  refine Met.ofW (cc := cX2_fault) (maxL := 1) (ret := (some .int)) (by decide) rfl ?_
  intro p e s m args below meth cd s₁ B hml hv
  obtain ⟨rfl, hP, hK, hZ⟩ := hv
  have hSz : va_S A s.heap s.heap [] := va_S.rf
  have hz0 := hZ.2.1.1 0 (by decide)
  have zc : va_OF "java/lang/String" "coder" "B" (.int 0) aS A s s.heap := hz0.2.1
  have zv : va_OF "java/lang/String" "value" "[B" (.ref aV) aS A s s.heap := hz0.2.2.1
  have zt : va_T .byte aV 5 (fun j => .int (([115, 121, 103, 98, 116] : List Int32).getD j 0)) A s s.heap := hz0.2.2.2
  have zo : ∃ cell : Cell, s.heap[aS]? = some cell ∧ cell.vm.isStatics = false ∧ s.vm.findClass RJ0 = some cell.cls := vk_recv hZ.2.1 (i := 0) (by decide) hSz
  have hts := atoms_spec (ws := wsX2_fault) B.pre
  have E : CallFix p m cd cX2_fault 1 s _ wsX2_fault RX2 := ⟨B.exec, B.bytes, hml, findClass_of_methodNamed B.named, hts⟩
  have hr := B.returns
  have hlocks := B.notSynchronized
  have h2n := pow6 (n := n) (by have := hX.2.1; omega)
  obtain ⟨hn, hn6, hz, hz21, hc, hc6⟩ := id hX
  have in_2 : ∀ w ∈ wsX20, w ∈ wsX2_fault := fun _ h => List.mem_cons_of_mem _ (List.mem_append_left _ (List.mem_append_right _ h))
  have w_0 : (Cond.fieldLink RX2 10 "SnowTerm" "page" "LSnowTerm$Page;").before _ s = true := hts _ (by decide +kernel)
  have hl := lv_entry ([.ref (ad 0)]) (n := 1) (Nat.le_of_ble_eq_true rfl)
  rw [lg_entry_eq]
  generalize (lg_sl ([.ref (ad 0)]) ++ List.replicate (1 - (lg_sl ([.ref (ad 0)])).length) Slot.unset).toArray = ls at hl ⊢
  have hl : lv_has ls 1 [(0, .ref (ad 0))] := hl
  refine lv_aload_n E.1 E.2.1 dX2_fault_0 rfl (lv_at hl 0 rfl) ?_
  refine xg_0_0 E hK hP in_2 w_0 dX2_fault_1 ?_
  refine gs_VR (As := []) (rest := []) E hK hP hZ hSz (c_X0_faultPlace l D cI cB ad f a ta n z c hX aS aV A) (cwV 0 E.2.2.2.2 gX2_fault_X0_faultPlace rfl rfl rfl (by decide +kernel) ⟨Nat.le_of_ble_eq_true rfl, Nat.le_of_ble_eq_true rfl⟩) (rxp hK hP) rfl hl.1 rfl (Nat.le_of_ble_eq_true rfl) dX2_fault_4 ⟨Nat.zero_le _, Nat.zero_le _⟩ ?_
  exact W.iret (v := FX0_faultPlace f a ta n z c) E.1 E.2.1 hr (fun t ht _ => ⟨congrArg (fun z : Int32 => Outcome.returned (some (Value.int z))) (show FX0_faultPlace f a ta n z c = FX2_fault f a ta n z c from by rw [FX2_fault]), ht⟩) (fun q hq => by cases hq) dX2_fault_7
theorem begin_L (ta : Nat → Nat → Int32) (n z c : Nat) (p0 : Int32) : ∀ (d k : Nat) (f : Nat → Int32) (a : Nat → Nat → Int32), (FX1_begin_L27 ta n z c p0 d k f a).1 = f ∧ (FX1_begin_L27 ta n z c p0 d k f a).2.2 = ta := by
  intro d
  induction d with
  | zero => intro k f a; exact ⟨rfl, rfl⟩
  | succ d ih => intro k f a; rw [FX1_begin_L27]; exact ih _ _ _
theorem begin_f (f : Nat → Int32) (a ta : Nat → Nat → Int32) (n z c : Nat) (p0 : Int32) : (FX1_begin f a ta n z c p0).1 = upd (upd (upd (upd (upd f 4 0) 5 p0) 6 0) 7 0) 8 0 := (begin_L ta n z c p0 6 0 _ a).1
theorem begin_ta (f : Nat → Int32) (a ta : Nat → Nat → Int32) (n z c : Nat) (p0 : Int32) : (FX1_begin f a ta n z c p0).2.2 = ta := (begin_L ta n z c p0 6 0 _ a).2

def FX2_city_L26 (ta : Nat → Nat → Int32) (n : Nat) (z : Nat) (c : Nat) : Nat → Nat → (Nat → Int32) → (Nat → Nat → Int32) → Int32 × SX
  | 0, k_3, f2, a2 => (nI ((z - 1) / 3), upd (upd (upd (upd (upd (upd (upd (upd f2 4 0) 5 (FX0_sunTold f2 a2 ta ((z - 1) / 3) z c)) 6 0) 7 0) 8 0) 2 0) 1 ((f2 1) + 1)) 3 0, (FX1_begin f2 a2 ta ((z - 1) / 3) z c (FX0_sunTold f2 a2 ta ((z - 1) / 3) z c)).2.1, ta)
  | d_2 + 1, k_3, f2, a2 => FX2_city_L26 ta n z c d_2 (k_3 + 1) f2 (uA (uA a2 2 (upd (a2 2) k_3 (FX0_kindOf f2 a2 ta ((z - 1) / 3) z c (nI k_3)))) 3 (upd (a2 3) k_3 (FX0_wantOf f2 (uA a2 2 (upd (a2 2) k_3 (FX0_kindOf f2 a2 ta ((z - 1) / 3) z c (nI k_3)))) ta ((z - 1) / 3) z c (nI k_3))))
def FX2_city (f : Nat → Int32) (a : Nat → Nat → Int32) (ta : Nat → Nat → Int32) (n : Nat) (z : Nat) (c : Nat) : Int32 × SX := (if FX0_isWhole f a ta n z c = 0 then ((-103), f, a, ta) else FX2_city_L26 ta n z c ((z - 1) / 3) 0 (upd f 0 (nI ((z - 1) / 3))) a)
set_option maxHeartbeats 4000000 in
set_option maxRecDepth 100000 in
/-- city -/
theorem c_X2_city (l : Launch) (D : va_G) (cI cB : ClassId) (ad : Nat → Nat) (f : Nat → Int32) (a ta : Nat → Nat → Int32) (n z c : Nat) (hX : IX n z c f) (hI : wI 25 ad) (aS aV : Nat)  : Met l yX2_city wsX2_city ({ frames := 8, cells := 0, slots := 0, locals := 176 }) (GPs D cI cB aS aV (wA 25 ad) (wX cI ad f a ta) [.ref (ad 0)]) (va_Qi (fun (r : Int32) (u : SX) => (r, u) = FX2_city f a ta n z c) (fun u t => va_P D vwCl (wX cI ad u.1 u.2.1 u.2.2) t.heap) (wA 25 ad)) 0 0 (wA 25 ad) := by
  refine Met.ofW (cc := cX2_city) (maxL := 2) (ret := (some .int)) (by decide) rfl ?_
  intro p e s m args below meth cd s₁ B hml hv
  obtain ⟨rfl, hP, hK, hZ⟩ := hv
  have hSz : va_S (wA 25 ad) s.heap s.heap [] := va_S.rf
  have hz0 := hZ.2.1.1 0 (by decide)
  have zc : va_OF "java/lang/String" "coder" "B" (.int 0) aS (wA 25 ad) s s.heap := hz0.2.1
  have zv : va_OF "java/lang/String" "value" "[B" (.ref aV) aS (wA 25 ad) s s.heap := hz0.2.2.1
  have zt : va_T .byte aV 5 (fun j => .int (([115, 121, 103, 98, 116] : List Int32).getD j 0)) (wA 25 ad) s s.heap := hz0.2.2.2
  have zo : ∃ cell : Cell, s.heap[aS]? = some cell ∧ cell.vm.isStatics = false ∧ s.vm.findClass RJ0 = some cell.cls := vk_recv hZ.2.1 (i := 0) (by decide) hSz
  have hts := atoms_spec (ws := wsX2_city) B.pre
  have E : CallFix p m cd cX2_city 2 s _ wsX2_city RX2 := ⟨B.exec, B.bytes, hml, findClass_of_methodNamed B.named, hts⟩
  have hr := B.returns
  have hlocks := B.notSynchronized
  have h2n := pow6 (n := n) (by have := hX.2.1; omega)
  obtain ⟨hn, hn6, hz, hz21, hc, hc6⟩ := id hX
  have hS : va_S (wA 25 ad) s.heap s.heap [] := va_S.rf
  have in_2 : ∀ w ∈ wsX20, w ∈ wsX2_city := fun _ h => List.mem_cons_of_mem _ (List.mem_append_left _ (List.mem_append_left _ (List.mem_append_right _ h)))
  have w_0 : (Cond.fieldLink RX2 10 "SnowTerm" "page" "LSnowTerm$Page;").before _ s = true := hts _ (by decide +kernel)
  have w_1 : (Cond.fieldLink RX2 39 "SnowTerm" "sites" "I").before _ s = true := hts _ (by decide +kernel)
  have w_2 : (Cond.fieldLink RX2 26 "SnowTerm" "now" "LSnowTerm$Term;").before _ s = true := hts _ (by decide +kernel)
  have w_3 : (Cond.fieldLink RX2 46 "SnowTerm" "hasImage" "Z").before _ s = true := hts _ (by decide +kernel)
  have w_4 : (Cond.fieldLink RX2 43 "SnowTerm" "citiesRead" "I").before _ s = true := hts _ (by decide +kernel)
  have w_5 : (Cond.fieldLink RX2 16 "SnowTerm" "kinds" "[I").before _ s = true := hts _ (by decide +kernel)
  have w_6 : (Cond.fieldLink RX2 20 "SnowTerm" "wants" "[I").before _ s = true := hts _ (by decide +kernel)
  have hl := lv_entry ([.ref (ad 0)]) (n := 2) (Nat.le_of_ble_eq_true rfl)
  rw [lg_entry_eq]
  generalize (lg_sl ([.ref (ad 0)]) ++ List.replicate (2 - (lg_sl ([.ref (ad 0)])).length) Slot.unset).toArray = ls at hl ⊢
  have hl : lv_has ls 2 [(0, .ref (ad 0))] := hl
  refine lv_aload_n E.1 E.2.1 dX2_city_0 rfl (lv_at hl 0 rfl) ?_
  refine xg_0_0 E hK hP in_2 w_0 dX2_city_1 ?_
  refine gs_VR (As := []) (rest := []) E hK hP hZ hS (c_X0_isWhole l D cI cB ad f a ta n z c hX aS aV (wA 25 ad)) (cwV 0 E.2.2.2.2 gX2_city_X0_isWhole rfl rfl rfl (by decide +kernel) ⟨Nat.le_of_ble_eq_true rfl, Nat.le_of_ble_eq_true rfl⟩) (rxp hK hP) rfl hl.1 rfl (Nat.le_of_ble_eq_true rfl) dX2_city_4 ⟨Nat.zero_le _, Nat.zero_le _⟩ ?_
  refine lv_if_ne (x := FX0_isWhole f a ta n z c) (tgt := 13) E.1 E.2.1 dX2_city_7 (by decide) (fun h7 => ?_) (fun h7 => ?_)
  · have h7 := h7
    refine lv_aload_n E.1 E.2.1 dX2_city_13 rfl (lv_at hl 0 rfl) ?_
    refine lv_aload_n E.1 E.2.1 dX2_city_14 rfl (lv_at hl 0 rfl) ?_
    refine xg_0_0 E hK hP in_2 w_0 dX2_city_15 ?_
    refine g_VR (As := []) (rest := [.ref (ad 0)]) E hK hP (c_X0_siteCount l D cI cB ad f a ta n z c hX) (cwV 0 E.2.2.2.2 gX2_city_X0_siteCount rfl rfl rfl (by decide +kernel) ⟨Nat.le_of_ble_eq_true rfl, Nat.le_of_ble_eq_true rfl⟩) (rxp hK hP) rfl hl.1 rfl (Nat.le_of_ble_eq_true rfl) dX2_city_18 ⟨Nat.zero_le _, Nat.zero_le _⟩ ?_
    refine lv_topi (fun y_1 ey_1 => ?_)
    obtain rfl : y_1 = nI ((z - 1) / 3) := ey_1.trans (siteCount_n (whole_z hz21 h7) hz21)
    refine xp_0_7 (v := nI ((z - 1) / 3)) E hK hP in_2 w_1 hI hS dX2_city_21 (fun H locs hP hS => ?_)
    refine lv_iconst (v := 0) E.1 E.2.1 dX2_city_24 (by decide) ?_
    refine lv_istore_n (lv' := [(1, .int 0), (0, .ref (ad 0))]) E.1 E.2.1 dX2_city_25 rfl hl (by decide) rfl (fun ls hl => ?_)
    have loop2 : ∀ (d_2 k_3 : Nat) (f2 : Nat → Int32) (a2 : Nat → Nat → Int32) (H : Heap) (locs : List Loc) (ls : Array Slot), k_3 + d_2 = (z - 1) / 3 → IX ((z - 1) / 3) z c f2 → va_P D vwCl (wX cI ad f2 a2 ta) H → va_S (wA 25 ad) s.heap H locs → lv_has ls 2 [(1, .int (nI k_3)), (0, .ref (ad 0))] → W p l e (headSpec wsX2_city { frames := 8, cells := 0, slots := 0, locals := 176 }).room s m ([.ref (ad 0)] : List Value).toArray below meth cd H locs 0 0 (MQ below (va_Qi (fun (r : Int32) (u : SX) => (r, u) = FX2_city_L26 ta n z c d_2 k_3 f2 a2) (fun u t => va_P D vwCl (wX cI ad u.1 u.2.1 u.2.2) t.heap) (wA 25 ad)) ([.ref (ad 0)] : List Value).toArray s 0 0 (wA 25 ad)) (F0 m 26 ls []) := by
      intro d_2
      induction d_2 with
      | zero =>
        intro k_3 f2 a2 H locs ls hk2 hinv hP hS hl
        refine lv_iload_n E.1 E.2.1 dX2_city_26 rfl (lv_at hl 0 rfl) ?_
        refine lv_aload_n E.1 E.2.1 dX2_city_27 rfl (lv_at hl 1 rfl) ?_
        refine xg_0_7 E hK hP in_2 w_1 dX2_city_28 ?_
        refine lv_topi (fun y_4 ey_4 => ?_)
        obtain rfl : y_4 = nI ((z - 1) / 3) := ey_4.trans (hinv.1)
        refine lv_icmp_ge (x := nI k_3) (y := nI ((z - 1) / 3)) (tgt := 68) E.1 E.2.1 dX2_city_31 (by decide) (fun _ => ?_) (fun h9 => absurd (nI_le (a := ((z - 1) / 3)) (b := k_3) (by omega) (by omega)) h9)
        refine lv_aload_n E.1 E.2.1 dX2_city_68 rfl (lv_at hl 1 rfl) ?_
        refine xg_0_3 E hK hP in_2 w_2 dX2_city_69 ?_
        refine lv_aload_n E.1 E.2.1 dX2_city_72 rfl (lv_at hl 1 rfl) ?_
        refine xg_0_0 E hK hP in_2 w_0 dX2_city_73 ?_
        refine g_VR (As := []) (rest := [.ref (ad 4)]) E hK hP (c_X0_sunTold l D cI cB ad f2 a2 ta ((z - 1) / 3) z c hinv) (cwV 0 E.2.2.2.2 gX2_city_X0_sunTold rfl rfl rfl (by decide +kernel) ⟨Nat.le_of_ble_eq_true rfl, Nat.le_of_ble_eq_true rfl⟩) (rxp hK hP) rfl hl.1 rfl (Nat.le_of_ble_eq_true rfl) dX2_city_76 ⟨Nat.zero_le _, Nat.zero_le _⟩ ?_
        refine g_VWv (As := [.int (FX0_sunTold f2 a2 ta ((z - 1) / 3) z c)]) (rest := []) E hK hP hS (fun q h => h) (c_X1_begin l D cI cB ad f2 a2 ta ((z - 1) / 3) z c hinv hI (FX0_sunTold f2 a2 ta ((z - 1) / 3) z c)) (cwV 1 E.2.2.2.2 gX2_city_X1_begin rfl rfl rfl (by decide +kernel) ⟨Nat.le_of_ble_eq_true rfl, Nat.le_of_ble_eq_true rfl⟩) (rxn hK hP) rfl hl.1 rfl (Nat.le_of_ble_eq_true rfl) dX2_city_79 ⟨Nat.zero_le _, Nat.zero_le _⟩ (fun u_5 H1 locs hp_7 hP1 hq_8 hS => ?_)
        obtain rfl : u_5 = FX1_begin f2 a2 ta ((z - 1) / 3) z c (FX0_sunTold f2 a2 ta ((z - 1) / 3) z c) := hp_7
        have hP : va_P D vwCl (wX cI ad ((FX1_begin f2 a2 ta ((z - 1) / 3) z c (FX0_sunTold f2 a2 ta ((z - 1) / 3) z c)).1) ((FX1_begin f2 a2 ta ((z - 1) / 3) z c (FX0_sunTold f2 a2 ta ((z - 1) / 3) z c)).2.1) ((FX1_begin f2 a2 ta ((z - 1) / 3) z c (FX0_sunTold f2 a2 ta ((z - 1) / 3) z c)).2.2)) H1 := hP1
        clear hP1
        generalize H1 = H at hP hS ⊢
        rw [show (FX1_begin f2 a2 ta ((z - 1) / 3) z c (FX0_sunTold f2 a2 ta ((z - 1) / 3) z c)).1 = upd (upd (upd (upd (upd f2 4 0) 5 (FX0_sunTold f2 a2 ta ((z - 1) / 3) z c)) 6 0) 7 0) 8 0 from begin_f .., show (FX1_begin f2 a2 ta ((z - 1) / 3) z c (FX0_sunTold f2 a2 ta ((z - 1) / 3) z c)).2.2 = ta from begin_ta ..] at hP
        have hP : va_P D vwCl (wX cI ad (upd (upd (upd (upd (upd f2 4 0) 5 (FX0_sunTold f2 a2 ta ((z - 1) / 3) z c)) 6 0) 7 0) 8 0) ((FX1_begin f2 a2 ta ((z - 1) / 3) z c (FX0_sunTold f2 a2 ta ((z - 1) / 3) z c)).2.1) ta) H := hP
        refine lv_aload_n E.1 E.2.1 dX2_city_82 rfl (lv_at hl 1 rfl) ?_
        refine lv_iconst (v := 0) E.1 E.2.1 dX2_city_83 (by decide) ?_
        refine xp_0_9 (v := 0) E hK hP in_2 w_3 hI hS rfl rfl dX2_city_84 (fun H locs hP hS => ?_)
        refine lv_aload_n E.1 E.2.1 dX2_city_87 rfl (lv_at hl 1 rfl) ?_
        refine lv_dup E.1 E.2.1 dX2_city_88 rfl ?_
        refine xg_0_8 E hK hP in_2 w_4 dX2_city_89 ?_
        refine lv_topi (fun y_9 ey_9 => ?_)
        obtain rfl : y_9 = f2 1 := ey_9.trans (rfl)
        refine lv_iconst (v := 1) E.1 E.2.1 dX2_city_92 (by decide) ?_
        refine lv_iadd (x := f2 1) (y := 1) E.1 E.2.1 dX2_city_93 ?_
        refine xp_0_8 (v := (f2 1) + 1) E hK hP in_2 w_4 hI hS dX2_city_94 (fun H locs hP hS => ?_)
        refine lv_aload_n E.1 E.2.1 dX2_city_97 rfl (lv_at hl 1 rfl) ?_
        refine xg_0_0 E hK hP in_2 w_0 dX2_city_98 ?_
        refine g_VWi (As := []) (rest := []) E hK hP hS (fun q h => h) (c_X0_clear l D cI cB ad (upd (upd (upd (upd (upd (upd (upd f2 4 0) 5 (FX0_sunTold f2 a2 ta ((z - 1) / 3) z c)) 6 0) 7 0) 8 0) 2 0) 1 ((f2 1) + 1)) ((FX1_begin f2 a2 ta ((z - 1) / 3) z c (FX0_sunTold f2 a2 ta ((z - 1) / 3) z c)).2.1) ta ((z - 1) / 3) z 0 (IX_u (IX_u (IX_c (IX_u (IX_u (IX_u (IX_u hinv (by decide)) (by decide)) (by decide)) (by decide)) (Nat.zero_le 6)) (by decide)) (by decide)) hI) (cwV 0 E.2.2.2.2 gX2_city_X0_clear rfl rfl rfl (by decide +kernel) ⟨Nat.le_of_ble_eq_true rfl, Nat.le_of_ble_eq_true rfl⟩) (rxp hK hP) rfl hl.1 rfl (Nat.le_of_ble_eq_true rfl) dX2_city_101 ⟨Nat.zero_le _, Nat.zero_le _⟩ (fun r_11 u_10 H1 locs hp_12 hP1 hq_13 hS => ?_)
        obtain rfl : r_11 = (FX0_clear (upd (upd (upd (upd (upd (upd (upd f2 4 0) 5 (FX0_sunTold f2 a2 ta ((z - 1) / 3) z c)) 6 0) 7 0) 8 0) 2 0) 1 ((f2 1) + 1)) ((FX1_begin f2 a2 ta ((z - 1) / 3) z c (FX0_sunTold f2 a2 ta ((z - 1) / 3) z c)).2.1) ta ((z - 1) / 3) z 0).1 := congrArg Prod.fst hp_12
        obtain rfl : u_10 = (FX0_clear (upd (upd (upd (upd (upd (upd (upd f2 4 0) 5 (FX0_sunTold f2 a2 ta ((z - 1) / 3) z c)) 6 0) 7 0) 8 0) 2 0) 1 ((f2 1) + 1)) ((FX1_begin f2 a2 ta ((z - 1) / 3) z c (FX0_sunTold f2 a2 ta ((z - 1) / 3) z c)).2.1) ta ((z - 1) / 3) z 0).2 := congrArg Prod.snd hp_12
        have hP : va_P D vwCl (wX cI ad ((FX0_clear (upd (upd (upd (upd (upd (upd (upd f2 4 0) 5 (FX0_sunTold f2 a2 ta ((z - 1) / 3) z c)) 6 0) 7 0) 8 0) 2 0) 1 ((f2 1) + 1)) ((FX1_begin f2 a2 ta ((z - 1) / 3) z c (FX0_sunTold f2 a2 ta ((z - 1) / 3) z c)).2.1) ta ((z - 1) / 3) z 0).2.1) ((FX0_clear (upd (upd (upd (upd (upd (upd (upd f2 4 0) 5 (FX0_sunTold f2 a2 ta ((z - 1) / 3) z c)) 6 0) 7 0) 8 0) 2 0) 1 ((f2 1) + 1)) ((FX1_begin f2 a2 ta ((z - 1) / 3) z c (FX0_sunTold f2 a2 ta ((z - 1) / 3) z c)).2.1) ta ((z - 1) / 3) z 0).2.2.1) ((FX0_clear (upd (upd (upd (upd (upd (upd (upd f2 4 0) 5 (FX0_sunTold f2 a2 ta ((z - 1) / 3) z c)) 6 0) 7 0) 8 0) 2 0) 1 ((f2 1) + 1)) ((FX1_begin f2 a2 ta ((z - 1) / 3) z c (FX0_sunTold f2 a2 ta ((z - 1) / 3) z c)).2.1) ta ((z - 1) / 3) z 0).2.2.2)) H1 := hP1
        clear hP1
        generalize H1 = H at hP hS ⊢
        have hP : va_P D vwCl (wX cI ad (upd (upd (upd (upd (upd (upd (upd (upd f2 4 0) 5 (FX0_sunTold f2 a2 ta ((z - 1) / 3) z c)) 6 0) 7 0) 8 0) 2 0) 1 ((f2 1) + 1)) 3 0) ((FX1_begin f2 a2 ta ((z - 1) / 3) z c (FX0_sunTold f2 a2 ta ((z - 1) / 3) z c)).2.1) ta) H := hP
        refine lv_pop E.1 E.2.1 dX2_city_104 rfl ?_
        refine lv_aload_n E.1 E.2.1 dX2_city_105 rfl (lv_at hl 1 rfl) ?_
        refine xg_0_7 E hK hP in_2 w_1 dX2_city_106 ?_
        refine lv_topi (fun y_14 ey_14 => ?_)
        obtain rfl : y_14 = nI ((z - 1) / 3) := ey_14.trans (hinv.1)
        exact W.iret (v := nI ((z - 1) / 3)) E.1 E.2.1 hr (fun t ht _ => ⟨⟨nI ((z - 1) / 3), (upd (upd (upd (upd (upd (upd (upd (upd f2 4 0) 5 (FX0_sunTold f2 a2 ta ((z - 1) / 3) z c)) 6 0) 7 0) 8 0) 2 0) 1 ((f2 1) + 1)) 3 0, (FX1_begin f2 a2 ta ((z - 1) / 3) z c (FX0_sunTold f2 a2 ta ((z - 1) / 3) z c)).2.1, ta), rfl, (by rw [FX2_city_L26]), (show va_P D vwCl (wX cI ad (upd (upd (upd (upd (upd (upd (upd (upd f2 4 0) 5 (FX0_sunTold f2 a2 ta ((z - 1) / 3) z c)) 6 0) 7 0) 8 0) 2 0) 1 ((f2 1) + 1)) 3 0) ((FX1_begin f2 a2 ta ((z - 1) / 3) z c (FX0_sunTold f2 a2 ta ((z - 1) / 3) z c)).2.1) ta) t.heap from by rw [ht]; exact hP)⟩, hS.F ht⟩) hS.2.2 dX2_city_109
      | succ d_2 ih2 =>
        intro k_3 f2 a2 H locs ls hk2 hinv hP hS hl
        refine lv_iload_n E.1 E.2.1 dX2_city_26 rfl (lv_at hl 0 rfl) ?_
        refine lv_aload_n E.1 E.2.1 dX2_city_27 rfl (lv_at hl 1 rfl) ?_
        refine xg_0_7 E hK hP in_2 w_1 dX2_city_28 ?_
        refine lv_topi (fun y_15 ey_15 => ?_)
        obtain rfl : y_15 = nI ((z - 1) / 3) := ey_15.trans (hinv.1)
        refine lv_icmp_ge (x := nI k_3) (y := nI ((z - 1) / 3)) (tgt := 68) E.1 E.2.1 dX2_city_31 (by decide) (fun h9 => absurd h9 (nI_ge (a := k_3) (b := ((z - 1) / 3)) (by omega) (by omega))) (fun _ => ?_)
        refine lv_aload_n E.1 E.2.1 dX2_city_34 rfl (lv_at hl 1 rfl) ?_
        refine xg_0_1 E hK hP in_2 w_5 dX2_city_35 ?_
        refine lv_iload_n E.1 E.2.1 dX2_city_38 rfl (lv_at hl 0 rfl) ?_
        refine lv_aload_n E.1 E.2.1 dX2_city_39 rfl (lv_at hl 1 rfl) ?_
        refine xg_0_0 E hK hP in_2 w_0 dX2_city_40 ?_
        refine lv_iload_n E.1 E.2.1 dX2_city_43 rfl (lv_at hl 0 rfl) ?_
        refine gs_VR (As := [.int (nI k_3)]) (rest := [.int (nI k_3), .ref (ad 2)]) E hK hP hZ hS (c_X0_kindOf l D cI cB ad f2 a2 ta ((z - 1) / 3) z c hinv aS aV (wA 25 ad) (nI k_3)) (cwV 1 E.2.2.2.2 gX2_city_X0_kindOf rfl rfl rfl (by decide +kernel) ⟨Nat.le_of_ble_eq_true rfl, Nat.le_of_ble_eq_true rfl⟩) (rxp hK hP) rfl hl.1 rfl (Nat.le_of_ble_eq_true rfl) dX2_city_44 ⟨Nat.zero_le _, Nat.zero_le _⟩ ?_
        refine xs_2 (v := FX0_kindOf f2 a2 ta ((z - 1) / 3) z c (nI k_3)) (i := nI k_3) E hK hP hI hS (vp_in_nI (by omega) (by omega)) dX2_city_47 (fun H locs hP hS => ?_)
        rw [nI_clamp (show k_3 < 2 ^ 31 by omega)] at hP
        have hP : va_P D vwCl (wX cI ad f2 (uA a2 2 (upd (a2 2) k_3 (FX0_kindOf f2 a2 ta ((z - 1) / 3) z c (nI k_3)))) ta) H := hP
        refine lv_aload_n E.1 E.2.1 dX2_city_48 rfl (lv_at hl 1 rfl) ?_
        refine xg_0_2 E hK hP in_2 w_6 dX2_city_49 ?_
        refine lv_iload_n E.1 E.2.1 dX2_city_52 rfl (lv_at hl 0 rfl) ?_
        refine lv_aload_n E.1 E.2.1 dX2_city_53 rfl (lv_at hl 1 rfl) ?_
        refine xg_0_0 E hK hP in_2 w_0 dX2_city_54 ?_
        refine lv_iload_n E.1 E.2.1 dX2_city_57 rfl (lv_at hl 0 rfl) ?_
        refine g_VR (As := [.int (nI k_3)]) (rest := [.int (nI k_3), .ref (ad 3)]) E hK hP (c_X0_wantOf l D cI cB ad f2 (uA a2 2 (upd (a2 2) k_3 (FX0_kindOf f2 a2 ta ((z - 1) / 3) z c (nI k_3)))) ta ((z - 1) / 3) z c hinv (nI k_3)) (cwV 1 E.2.2.2.2 gX2_city_X0_wantOf rfl rfl rfl (by decide +kernel) ⟨Nat.le_of_ble_eq_true rfl, Nat.le_of_ble_eq_true rfl⟩) (rxp hK hP) rfl hl.1 rfl (Nat.le_of_ble_eq_true rfl) dX2_city_58 ⟨Nat.zero_le _, Nat.zero_le _⟩ ?_
        refine xs_3 (v := FX0_wantOf f2 (uA a2 2 (upd (a2 2) k_3 (FX0_kindOf f2 a2 ta ((z - 1) / 3) z c (nI k_3)))) ta ((z - 1) / 3) z c (nI k_3)) (i := nI k_3) E hK hP hI hS (vp_in_nI (by omega) (by omega)) dX2_city_61 (fun H locs hP hS => ?_)
        rw [nI_clamp (show k_3 < 2 ^ 31 by omega)] at hP
        have hP : va_P D vwCl (wX cI ad f2 (uA (uA a2 2 (upd (a2 2) k_3 (FX0_kindOf f2 a2 ta ((z - 1) / 3) z c (nI k_3)))) 3 (upd (a2 3) k_3 (FX0_wantOf f2 (uA a2 2 (upd (a2 2) k_3 (FX0_kindOf f2 a2 ta ((z - 1) / 3) z c (nI k_3)))) ta ((z - 1) / 3) z c (nI k_3)))) ta) H := hP
        refine lv_iinc (v := nI (k_3 + 1)) (k := 0) (lv' := [(1, .int (nI (k_3 + 1))), (0, .ref (ad 0))]) E.1 E.2.1 dX2_city_62 hl rfl (nI_1 k_3) (by decide) rfl (fun ls hl => ?_)
        refine lv_goto (tgt := 26) E.1 E.2.1 dX2_city_65 (by decide) ?_
        rw [show FX2_city_L26 ta n z c (d_2 + 1) k_3 f2 a2 = FX2_city_L26 ta n z c d_2 (k_3 + 1) f2 (uA (uA a2 2 (upd (a2 2) k_3 (FX0_kindOf f2 a2 ta ((z - 1) / 3) z c (nI k_3)))) 3 (upd (a2 3) k_3 (FX0_wantOf f2 (uA a2 2 (upd (a2 2) k_3 (FX0_kindOf f2 a2 ta ((z - 1) / 3) z c (nI k_3)))) ta ((z - 1) / 3) z c (nI k_3)))) from by rw [FX2_city_L26]]
        exact ih2 (k_3 + 1) f2 (uA (uA a2 2 (upd (a2 2) k_3 (FX0_kindOf f2 a2 ta ((z - 1) / 3) z c (nI k_3)))) 3 (upd (a2 3) k_3 (FX0_wantOf f2 (uA a2 2 (upd (a2 2) k_3 (FX0_kindOf f2 a2 ta ((z - 1) / 3) z c (nI k_3)))) ta ((z - 1) / 3) z c (nI k_3)))) _ _ ls (by omega) (hinv) hP hS (lv_sub hl [0, 1] rfl)
    rw [show FX2_city f a ta n z c = FX2_city_L26 ta n z c ((z - 1) / 3) 0 (upd f 0 (nI ((z - 1) / 3))) a from by rw [FX2_city, if_neg h7]]
    have hl : lv_has ls 2 [(1, .int (nI 0)), (0, .ref (ad 0))] := lv_sub hl [0, 1] rfl
    exact loop2 _ _ (upd f 0 (nI ((z - 1) / 3))) a _ _ ls (by omega) (IX_n hX (by omega)) hP hS (lv_sub hl [0, 1] rfl)
  · have h7 := h7
    refine lv_bipush (v := (-103)) E.1 E.2.1 dX2_city_10 (by decide) ?_
    exact W.iret (v := (-103)) E.1 E.2.1 hr (fun t ht _ => ⟨⟨(-103), (f, a, ta), rfl, (by rw [FX2_city, if_pos h7]), (show va_P D vwCl (wX cI ad f a ta) t.heap from by rw [ht]; exact hP)⟩, hS.F ht⟩) hS.2.2 dX2_city_12
theorem kp_plan_f (f : Nat → Int32) (a ta : Nat → Nat → Int32) (n z c : Nat) (p0 p1 p2 : Int32) : (FX2_plan f a ta n z c p0 p1 p2).2.1 = f := by
  unfold FX2_plan
  repeat' split
  all_goals rfl
theorem kp_plan_a (f : Nat → Int32) (a ta : Nat → Nat → Int32) (n z c : Nat) (p0 p1 p2 : Int32) : (FX2_plan f a ta n z c p0 p1 p2).2.2.1 = a := by
  unfold FX2_plan
  repeat' split
  all_goals rfl

def FX2_digest_L186 (f : Nat → Int32) (a : Nat → Nat → Int32) (n : Nat) (z : Nat) (c : Nat) : Nat → Nat → Int64 → (Nat → Nat → Int32) → Int64 × SX
  | 0, k_9, x1_8, ta8 => (x1_8, f, a, ta8)
  | d_8 + 1, k_9, x1_8, ta8 => FX2_digest_L186 f a n z c d_8 (k_9 + 1) (FX2_mixed x1_8 (FX2_count f a ta8 n z c (nI k_9))) ta8
def FX2_digest_L154 (f : Nat → Int32) (a : Nat → Nat → Int32) (n : Nat) (z : Nat) (c : Nat) : Nat → Nat → Int64 → (Nat → Nat → Int32) → Int64 × SX
  | 0, k_6, x1_5, ta5 => FX2_digest_L186 f a n z c 10 0 x1_5 ta5
  | d_5 + 1, k_6, x1_5, ta5 => FX2_digest_L154 f a n z c d_5 (k_6 + 1) (FX2_mixed x1_5 (FX0_codeAt f a ta5 n z c (nI k_6))) ta5
def FX2_digest_L90 (f : Nat → Int32) (a : Nat → Nat → Int32) (n : Nat) (z : Nat) (c : Nat) : Nat → Nat → Int64 → (Nat → Nat → Int32) → Int64 × SX
  | 0, k_12, x1_11, ta11 => FX2_digest_L154 f a n z c z 0 (FX2_mixed (FX2_mixed (FX2_mixed (FX2_mixed x1_11 (FX2_error f a ta11 n z c 0)) (FX2_error f a ta11 n z c 1)) (FX2_suns f a ta11 n z c)) (FX2_look f a ta11 n z c)) ta11
  | d_11 + 1, k_12, x1_11, ta11 => FX2_digest_L90 f a n z c d_11 (k_12 + 1) (FX2_mixed x1_11 ((FX2_plan f a ta11 n z c 20 2 (nI k_12)).1)) ((FX2_plan f a ta11 n z c 20 2 (nI k_12)).2.2.2)
def FX2_digest_L17 (f : Nat → Int32) (a : Nat → Nat → Int32) (n : Nat) (z : Nat) (c : Nat) (ta1 : Nat → Nat → Int32) (k_2 : Nat) (x1_1 : Int64) : Nat → Nat → Int64 → Int64
  | 0, k_25, x1_24 => x1_24
  | d_24 + 1, k_25, x1_24 => FX2_digest_L17 f a n z c ta1 k_2 x1_1 d_24 (k_25 + 1) (FX2_mixed x1_24 (FX2_about f a ta1 n z c (nI k_2) (nI k_25)))
def FX2_digest_L6 (f : Nat → Int32) (a : Nat → Nat → Int32) (n : Nat) (z : Nat) (c : Nat) : Nat → Nat → Int64 → (Nat → Nat → Int32) → Int64 × SX
  | 0, k_2, x1_1, ta1 => (if nI n ≤ 0 then FX2_digest_L154 f a n z c z 0 x1_1 ta1 else FX2_digest_L90 f a n z c 4 0 x1_1 ta1)
  | d_1 + 1, k_2, x1_1, ta1 => FX2_digest_L6 f a n z c d_1 (k_2 + 1) (FX2_mixed (FX2_mixed (FX2_mixed (FX2_digest_L17 f a n z c ta1 k_2 x1_1 7 0 x1_1) (FX2_need f a ta1 n z c (nI k_2) 0)) (FX2_need f a ta1 n z c (nI k_2) 1)) (FX2_need f a ta1 n z c (nI k_2) 5)) ta1
def FX2_digest (f : Nat → Int32) (a : Nat → Nat → Int32) (ta : Nat → Nat → Int32) (n : Nat) (z : Nat) (c : Nat) : Int64 × SX := FX2_digest_L6 f a n z c n 0 1061 ta
set_option maxHeartbeats 4000000 in
set_option maxRecDepth 100000 in
/-- digest -/
theorem c_X2_digest (l : Launch) (D : va_G) (cI cB : ClassId) (ad : Nat → Nat) (f : Nat → Int32) (a ta : Nat → Nat → Int32) (n z c : Nat) (hX : IX n z c f) (hI : wI 25 ad)  : Met l yX2_digest wsX2_digest ({ frames := 6, cells := 0, slots := 0, locals := 138 }) (GPc D cI cB (wX cI ad f a ta) [.ref (ad 0)]) (va_Ql (fun (r : Int64) (u : SX) => (r, u) = FX2_digest f a ta n z c) (fun u t => va_P D vwCl (wX cI ad u.1 u.2.1 u.2.2) t.heap) (wA 25 ad)) 0 0 (wA 25 ad) := by
  refine Met.ofW (cc := cX2_digest) (maxL := 5) (ret := (some .long)) (by decide) rfl ?_
  intro p e s m args below meth cd s₁ B hml hv
  obtain ⟨rfl, hP, hK⟩ := hv
  have hts := atoms_spec (ws := wsX2_digest) B.pre
  have E : CallFix p m cd cX2_digest 5 s _ wsX2_digest RX2 := ⟨B.exec, B.bytes, hml, findClass_of_methodNamed B.named, hts⟩
  have hr := B.returns
  have hlocks := B.notSynchronized
  have h2n := pow6 (n := n) (by have := hX.2.1; omega)
  obtain ⟨hn, hn6, hz, hz21, hc, hc6⟩ := id hX
  have hS : va_S (wA 25 ad) s.heap s.heap [] := va_S.rf
  have in_0 : ∀ w ∈ wsX00, w ∈ wsX2_digest := fun _ h => List.mem_cons_of_mem _ (List.mem_append_left _ (List.mem_append_right _ h))
  have in_2 : ∀ w ∈ wsX20, w ∈ wsX2_digest := fun _ h => List.mem_cons_of_mem _ (List.mem_append_left _ (List.mem_append_left _ (List.mem_append_right _ h)))
  have w_0 : (Cond.constantLong RX2 203 1061).before _ s = true := hts _ (by decide +kernel)
  have w_1 : (Cond.fieldLink RX2 39 "SnowTerm" "sites" "I").before _ s = true := hts _ (by decide +kernel)
  have w_2 : (Cond.fieldLink RX2 10 "SnowTerm" "page" "LSnowTerm$Page;").before _ s = true := hts _ (by decide +kernel)
  have w_3 : (Cond.fieldLink RX2 58 "SnowTerm$Page" "size" "I").before _ s = true := hts _ (by decide +kernel)
  have hl := lv_entry ([.ref (ad 0)]) (n := 5) (Nat.le_of_ble_eq_true rfl)
  rw [lg_entry_eq]
  generalize (lg_sl ([.ref (ad 0)]) ++ List.replicate (5 - (lg_sl ([.ref (ad 0)])).length) Slot.unset).toArray = ls at hl ⊢
  have hl : lv_has ls 5 [(0, .ref (ad 0))] := hl
  refine lv_ldc2 (v := 1061) E.1 E.2.1 E.2.2.2.1 w_0 dX2_digest_0 ?_
  refine lv_lstore_n (lv' := [(1, .long 1061), (0, .ref (ad 0))]) E.1 E.2.1 dX2_digest_3 rfl hl (by decide) rfl (fun ls hl => ?_)
  refine lv_iconst (v := 0) E.1 E.2.1 dX2_digest_4 (by decide) ?_
  refine lv_istore_n (lv' := [(3, .int 0), (1, .long 1061), (0, .ref (ad 0))]) E.1 E.2.1 dX2_digest_5 rfl hl (by decide) rfl (fun ls hl => ?_)
  have loop1 : ∀ (d_1 k_2 : Nat) (x1_1 : Int64) (ta1 : Nat → Nat → Int32) (H : Heap) (locs : List Loc) (ls : Array Slot), k_2 + d_1 = n → va_P D vwCl (wX cI ad f a ta1) H → va_S (wA 25 ad) s.heap H locs → lv_has ls 5 [(3, .int (nI k_2)), (1, .long x1_1), (0, .ref (ad 0))] → W p l e (headSpec wsX2_digest { frames := 6, cells := 0, slots := 0, locals := 138 }).room s m ([.ref (ad 0)] : List Value).toArray below meth cd H locs 0 0 (MQ below (va_Ql (fun (r : Int64) (u : SX) => (r, u) = FX2_digest_L6 f a n z c d_1 k_2 x1_1 ta1) (fun u t => va_P D vwCl (wX cI ad u.1 u.2.1 u.2.2) t.heap) (wA 25 ad)) ([.ref (ad 0)] : List Value).toArray s 0 0 (wA 25 ad)) (F0 m 6 ls []) := by
    intro d_1
    induction d_1 with
    | zero =>
      intro k_2 x1_1 ta1 H locs ls hk1 hP hS hl
      refine lv_iload_n E.1 E.2.1 dX2_digest_6 rfl (lv_at hl 0 rfl) ?_
      refine lv_aload_n E.1 E.2.1 dX2_digest_7 rfl (lv_at hl 2 rfl) ?_
      refine xg_0_7 E hK hP in_2 w_1 dX2_digest_8 ?_
      refine lv_topi (fun y_3 ey_3 => ?_)
      obtain rfl : y_3 = nI n := ey_3.trans (hn)
      refine lv_icmp_ge (x := nI k_2) (y := nI n) (tgt := 81) E.1 E.2.1 dX2_digest_11 (by decide) (fun _ => ?_) (fun h9 => absurd (nI_le (a := n) (b := k_2) (by omega) (by omega)) h9)
      refine lv_aload_n E.1 E.2.1 dX2_digest_81 rfl (lv_at hl 2 rfl) ?_
      refine xg_0_7 E hK hP in_2 w_1 dX2_digest_82 ?_
      refine lv_topi (fun y_4 ey_4 => ?_)
      obtain rfl : y_4 = nI n := ey_4.trans (hn)
      refine lv_if_le (x := nI n) (tgt := 152) E.1 E.2.1 dX2_digest_85 (by decide) (fun h85 => ?_) (fun h85 => ?_)
      · have h85 := h85
        refine lv_iconst (v := 0) E.1 E.2.1 dX2_digest_152 (by decide) ?_
        refine lv_istore_n (lv' := [(3, .int 0), (1, .long x1_1), (0, .ref (ad 0))]) E.1 E.2.1 dX2_digest_153 rfl hl (by decide) rfl (fun ls hl => ?_)
        have loop5 : ∀ (d_5 k_6 : Nat) (x1_5 : Int64) (ta5 : Nat → Nat → Int32) (H : Heap) (locs : List Loc) (ls : Array Slot), k_6 + d_5 = z → va_P D vwCl (wX cI ad f a ta5) H → va_S (wA 25 ad) s.heap H locs → lv_has ls 5 [(3, .int (nI k_6)), (1, .long x1_5), (0, .ref (ad 0))] → W p l e (headSpec wsX2_digest { frames := 6, cells := 0, slots := 0, locals := 138 }).room s m ([.ref (ad 0)] : List Value).toArray below meth cd H locs 0 0 (MQ below (va_Ql (fun (r : Int64) (u : SX) => (r, u) = FX2_digest_L154 f a n z c d_5 k_6 x1_5 ta5) (fun u t => va_P D vwCl (wX cI ad u.1 u.2.1 u.2.2) t.heap) (wA 25 ad)) ([.ref (ad 0)] : List Value).toArray s 0 0 (wA 25 ad)) (F0 m 154 ls []) := by
          intro d_5
          induction d_5 with
          | zero =>
            intro k_6 x1_5 ta5 H locs ls hk5 hP hS hl
            refine lv_iload_n E.1 E.2.1 dX2_digest_154 rfl (lv_at hl 0 rfl) ?_
            refine lv_aload_n E.1 E.2.1 dX2_digest_155 rfl (lv_at hl 2 rfl) ?_
            refine xg_0_0 E hK hP in_2 w_2 dX2_digest_156 ?_
            refine xg_1_1 E hK hP in_0 w_3 dX2_digest_159 ?_
            refine lv_topi (fun y_7 ey_7 => ?_)
            obtain rfl : y_7 = nI z := ey_7.trans (hz)
            refine lv_icmp_ge (x := nI k_6) (y := nI z) (tgt := 184) E.1 E.2.1 dX2_digest_162 (by decide) (fun _ => ?_) (fun h9 => absurd (nI_le (a := z) (b := k_6) (by omega) (by omega)) h9)
            refine lv_iconst (v := 0) E.1 E.2.1 dX2_digest_184 (by decide) ?_
            refine lv_istore_n (lv' := [(3, .int 0), (1, .long x1_5), (0, .ref (ad 0))]) E.1 E.2.1 dX2_digest_185 rfl hl (by decide) rfl (fun ls hl => ?_)
            have loop8 : ∀ (d_8 k_9 : Nat) (x1_8 : Int64) (ta8 : Nat → Nat → Int32) (H : Heap) (locs : List Loc) (ls : Array Slot), k_9 + d_8 = 10 → va_P D vwCl (wX cI ad f a ta8) H → va_S (wA 25 ad) s.heap H locs → lv_has ls 5 [(3, .int (nI k_9)), (1, .long x1_8), (0, .ref (ad 0))] → W p l e (headSpec wsX2_digest { frames := 6, cells := 0, slots := 0, locals := 138 }).room s m ([.ref (ad 0)] : List Value).toArray below meth cd H locs 0 0 (MQ below (va_Ql (fun (r : Int64) (u : SX) => (r, u) = FX2_digest_L186 f a n z c d_8 k_9 x1_8 ta8) (fun u t => va_P D vwCl (wX cI ad u.1 u.2.1 u.2.2) t.heap) (wA 25 ad)) ([.ref (ad 0)] : List Value).toArray s 0 0 (wA 25 ad)) (F0 m 186 ls []) := by
              intro d_8
              induction d_8 with
              | zero =>
                intro k_9 x1_8 ta8 H locs ls hk8 hP hS hl
                refine lv_iload_n E.1 E.2.1 dX2_digest_186 rfl (lv_at hl 0 rfl) ?_
                refine lv_bipush (v := 9) E.1 E.2.1 dX2_digest_187 (by decide) ?_
                refine lv_icmp_gt (x := nI k_9) (y := 9) (tgt := 208) E.1 E.2.1 dX2_digest_189 (by decide) (fun _ => ?_) (fun h9 => absurd (nI_lt (a := 9) (b := k_9) (by omega) (by omega)) h9)
                refine lv_lload_n E.1 E.2.1 dX2_digest_208 rfl (lv_at hl 1 rfl) ?_
                exact W.lret (v := x1_8) E.1 E.2.1 hr (fun t ht _ => ⟨⟨x1_8, (f, a, ta8), rfl, (by rw [FX2_digest_L186]), (show va_P D vwCl (wX cI ad f a ta8) t.heap from by rw [ht]; exact hP)⟩, hS.F ht⟩) hS.2.2 dX2_digest_209
              | succ d_8 ih8 =>
                intro k_9 x1_8 ta8 H locs ls hk8 hP hS hl
                refine lv_iload_n E.1 E.2.1 dX2_digest_186 rfl (lv_at hl 0 rfl) ?_
                refine lv_bipush (v := 9) E.1 E.2.1 dX2_digest_187 (by decide) ?_
                refine lv_icmp_gt (x := nI k_9) (y := 9) (tgt := 208) E.1 E.2.1 dX2_digest_189 (by decide) (fun h9 => absurd h9 (nI_nlt (b := k_9) (a := 9) (by omega) (by omega))) (fun _ => ?_)
                refine lv_lload_n E.1 E.2.1 dX2_digest_192 rfl (lv_at hl 1 rfl) ?_
                refine lv_aload_n E.1 E.2.1 dX2_digest_193 rfl (lv_at hl 2 rfl) ?_
                refine lv_iload_n E.1 E.2.1 dX2_digest_194 rfl (lv_at hl 0 rfl) ?_
                refine g_VR (As := [.int (nI k_9)]) (rest := [.long x1_8]) E hK hP (c_X2_count l D cI cB ad f a ta8 n z c hX (nI k_9)) (cwV 1 E.2.2.2.2 gX2_digest_X2_count rfl rfl rfl (by decide +kernel) ⟨Nat.le_of_ble_eq_true rfl, Nat.le_of_ble_eq_true rfl⟩) (rx hK hP) rfl hl.1 rfl (Nat.le_of_ble_eq_true rfl) dX2_digest_195 ⟨Nat.zero_le _, Nat.zero_le _⟩ ?_
                refine g_SL (As := [.long x1_8, .int (FX2_count f a ta8 n z c (nI k_9))]) (rest := []) E hK (c_X2_mixed l D cI cB x1_8 (FX2_count f a ta8 n z c (nI k_9))) (va_cwS 2 E.2.2.2.2 gX2_digest_X2_mixed rfl rfl rfl (by decide +kernel) ⟨Nat.le_of_ble_eq_true rfl, Nat.le_of_ble_eq_true rfl⟩) rfl hl.1 rfl (Nat.le_of_ble_eq_true rfl) dX2_digest_198 ⟨Nat.zero_le _, Nat.zero_le _⟩ ?_
                refine lv_lstore_n (lv' := [(1, .long (FX2_mixed x1_8 (FX2_count f a ta8 n z c (nI k_9)))), (3, .int (nI k_9)), (0, .ref (ad 0))]) E.1 E.2.1 dX2_digest_201 rfl hl (by decide) rfl (fun ls hl => ?_)
                refine lv_iinc (v := nI (k_9 + 1)) (k := 1) (lv' := [(3, .int (nI (k_9 + 1))), (1, .long (FX2_mixed x1_8 (FX2_count f a ta8 n z c (nI k_9)))), (0, .ref (ad 0))]) E.1 E.2.1 dX2_digest_202 hl rfl (nI_1 k_9) (by decide) rfl (fun ls hl => ?_)
                refine lv_goto (tgt := 186) E.1 E.2.1 dX2_digest_205 (by decide) ?_
                rw [show FX2_digest_L186 f a n z c (d_8 + 1) k_9 x1_8 ta8 = FX2_digest_L186 f a n z c d_8 (k_9 + 1) (FX2_mixed x1_8 (FX2_count f a ta8 n z c (nI k_9))) ta8 from by rw [FX2_digest_L186]]
                exact ih8 (k_9 + 1) (FX2_mixed x1_8 (FX2_count f a ta8 n z c (nI k_9))) ta8 _ _ ls (by omega) hP hS (lv_sub hl [0, 1, 2] rfl)
            rw [show FX2_digest_L154 f a n z c 0 k_6 x1_5 ta5 = FX2_digest_L186 f a n z c 10 0 x1_5 ta5 from by rw [FX2_digest_L154]]
            have hl : lv_has ls 5 [(3, .int (nI 0)), (1, .long x1_5), (0, .ref (ad 0))] := lv_sub hl [0, 1, 2] rfl
            exact loop8 _ _ x1_5 ta5 _ _ ls (by omega) hP hS (lv_sub hl [0, 1, 2] rfl)
          | succ d_5 ih5 =>
            intro k_6 x1_5 ta5 H locs ls hk5 hP hS hl
            refine lv_iload_n E.1 E.2.1 dX2_digest_154 rfl (lv_at hl 0 rfl) ?_
            refine lv_aload_n E.1 E.2.1 dX2_digest_155 rfl (lv_at hl 2 rfl) ?_
            refine xg_0_0 E hK hP in_2 w_2 dX2_digest_156 ?_
            refine xg_1_1 E hK hP in_0 w_3 dX2_digest_159 ?_
            refine lv_topi (fun y_10 ey_10 => ?_)
            obtain rfl : y_10 = nI z := ey_10.trans (hz)
            refine lv_icmp_ge (x := nI k_6) (y := nI z) (tgt := 184) E.1 E.2.1 dX2_digest_162 (by decide) (fun h9 => absurd h9 (nI_ge (a := k_6) (b := z) (by omega) (by omega))) (fun _ => ?_)
            refine lv_lload_n E.1 E.2.1 dX2_digest_165 rfl (lv_at hl 1 rfl) ?_
            refine lv_aload_n E.1 E.2.1 dX2_digest_166 rfl (lv_at hl 2 rfl) ?_
            refine xg_0_0 E hK hP in_2 w_2 dX2_digest_167 ?_
            refine lv_iload_n E.1 E.2.1 dX2_digest_170 rfl (lv_at hl 0 rfl) ?_
            refine g_VR (As := [.int (nI k_6)]) (rest := [.long x1_5]) E hK hP (c_X0_codeAt l D cI cB ad f a ta5 n z c hX (nI k_6)) (cwV 1 E.2.2.2.2 gX2_digest_X0_codeAt rfl rfl rfl (by decide +kernel) ⟨Nat.le_of_ble_eq_true rfl, Nat.le_of_ble_eq_true rfl⟩) (rxp hK hP) rfl hl.1 rfl (Nat.le_of_ble_eq_true rfl) dX2_digest_171 ⟨Nat.zero_le _, Nat.zero_le _⟩ ?_
            refine g_SL (As := [.long x1_5, .int (FX0_codeAt f a ta5 n z c (nI k_6))]) (rest := []) E hK (c_X2_mixed l D cI cB x1_5 (FX0_codeAt f a ta5 n z c (nI k_6))) (va_cwS 2 E.2.2.2.2 gX2_digest_X2_mixed rfl rfl rfl (by decide +kernel) ⟨Nat.le_of_ble_eq_true rfl, Nat.le_of_ble_eq_true rfl⟩) rfl hl.1 rfl (Nat.le_of_ble_eq_true rfl) dX2_digest_174 ⟨Nat.zero_le _, Nat.zero_le _⟩ ?_
            refine lv_lstore_n (lv' := [(1, .long (FX2_mixed x1_5 (FX0_codeAt f a ta5 n z c (nI k_6)))), (3, .int (nI k_6)), (0, .ref (ad 0))]) E.1 E.2.1 dX2_digest_177 rfl hl (by decide) rfl (fun ls hl => ?_)
            refine lv_iinc (v := nI (k_6 + 1)) (k := 1) (lv' := [(3, .int (nI (k_6 + 1))), (1, .long (FX2_mixed x1_5 (FX0_codeAt f a ta5 n z c (nI k_6)))), (0, .ref (ad 0))]) E.1 E.2.1 dX2_digest_178 hl rfl (nI_1 k_6) (by decide) rfl (fun ls hl => ?_)
            refine lv_goto (tgt := 154) E.1 E.2.1 dX2_digest_181 (by decide) ?_
            rw [show FX2_digest_L154 f a n z c (d_5 + 1) k_6 x1_5 ta5 = FX2_digest_L154 f a n z c d_5 (k_6 + 1) (FX2_mixed x1_5 (FX0_codeAt f a ta5 n z c (nI k_6))) ta5 from by rw [FX2_digest_L154]]
            exact ih5 (k_6 + 1) (FX2_mixed x1_5 (FX0_codeAt f a ta5 n z c (nI k_6))) ta5 _ _ ls (by omega) hP hS (lv_sub hl [0, 1, 2] rfl)
        rw [show FX2_digest_L6 f a n z c 0 k_2 x1_1 ta1 = FX2_digest_L154 f a n z c z 0 x1_1 ta1 from by rw [FX2_digest_L6, if_pos h85]]
        have hl : lv_has ls 5 [(3, .int (nI 0)), (1, .long x1_1), (0, .ref (ad 0))] := lv_sub hl [0, 1, 2] rfl
        exact loop5 _ _ x1_1 ta1 _ _ ls (by omega) hP hS (lv_sub hl [0, 1, 2] rfl)
      · have h85 := h85
        refine lv_iconst (v := 0) E.1 E.2.1 dX2_digest_88 (by decide) ?_
        refine lv_istore_n (lv' := [(3, .int 0), (1, .long x1_1), (0, .ref (ad 0))]) E.1 E.2.1 dX2_digest_89 rfl hl (by decide) rfl (fun ls hl => ?_)
        have loop11 : ∀ (d_11 k_12 : Nat) (x1_11 : Int64) (ta11 : Nat → Nat → Int32) (H : Heap) (locs : List Loc) (ls : Array Slot), k_12 + d_11 = 4 → va_P D vwCl (wX cI ad f a ta11) H → va_S (wA 25 ad) s.heap H locs → lv_has ls 5 [(3, .int (nI k_12)), (1, .long x1_11), (0, .ref (ad 0))] → W p l e (headSpec wsX2_digest { frames := 6, cells := 0, slots := 0, locals := 138 }).room s m ([.ref (ad 0)] : List Value).toArray below meth cd H locs 0 0 (MQ below (va_Ql (fun (r : Int64) (u : SX) => (r, u) = FX2_digest_L90 f a n z c d_11 k_12 x1_11 ta11) (fun u t => va_P D vwCl (wX cI ad u.1 u.2.1 u.2.2) t.heap) (wA 25 ad)) ([.ref (ad 0)] : List Value).toArray s 0 0 (wA 25 ad)) (F0 m 90 ls []) := by
          intro d_11
          induction d_11 with
          | zero =>
            intro k_12 x1_11 ta11 H locs ls hk11 hP hS hl
            refine lv_iload_n E.1 E.2.1 dX2_digest_90 rfl (lv_at hl 0 rfl) ?_
            refine lv_iconst (v := 3) E.1 E.2.1 dX2_digest_91 (by decide) ?_
            refine lv_icmp_gt (x := nI k_12) (y := 3) (tgt := 114) E.1 E.2.1 dX2_digest_92 (by decide) (fun _ => ?_) (fun h9 => absurd (nI_lt (a := 3) (b := k_12) (by omega) (by omega)) h9)
            refine lv_lload_n E.1 E.2.1 dX2_digest_114 rfl (lv_at hl 1 rfl) ?_
            refine lv_aload_n E.1 E.2.1 dX2_digest_115 rfl (lv_at hl 2 rfl) ?_
            refine lv_iconst (v := 0) E.1 E.2.1 dX2_digest_116 (by decide) ?_
            refine g_VR (As := [.int 0]) (rest := [.long x1_11]) E hK hP (c_X2_error l D cI cB ad f a ta11 n z c hX 0) (cwV 1 E.2.2.2.2 gX2_digest_X2_error rfl rfl rfl (by decide +kernel) ⟨Nat.le_of_ble_eq_true rfl, Nat.le_of_ble_eq_true rfl⟩) (rx hK hP) rfl hl.1 rfl (Nat.le_of_ble_eq_true rfl) dX2_digest_117 ⟨Nat.zero_le _, Nat.zero_le _⟩ ?_
            refine g_SL (As := [.long x1_11, .int (FX2_error f a ta11 n z c 0)]) (rest := []) E hK (c_X2_mixed l D cI cB x1_11 (FX2_error f a ta11 n z c 0)) (va_cwS 2 E.2.2.2.2 gX2_digest_X2_mixed rfl rfl rfl (by decide +kernel) ⟨Nat.le_of_ble_eq_true rfl, Nat.le_of_ble_eq_true rfl⟩) rfl hl.1 rfl (Nat.le_of_ble_eq_true rfl) dX2_digest_120 ⟨Nat.zero_le _, Nat.zero_le _⟩ ?_
            refine lv_lstore_n (lv' := [(1, .long (FX2_mixed x1_11 (FX2_error f a ta11 n z c 0))), (3, .int (nI k_12)), (0, .ref (ad 0))]) E.1 E.2.1 dX2_digest_123 rfl hl (by decide) rfl (fun ls hl => ?_)
            refine lv_lload_n E.1 E.2.1 dX2_digest_124 rfl (lv_at hl 0 rfl) ?_
            refine lv_aload_n E.1 E.2.1 dX2_digest_125 rfl (lv_at hl 2 rfl) ?_
            refine lv_iconst (v := 1) E.1 E.2.1 dX2_digest_126 (by decide) ?_
            refine g_VR (As := [.int 1]) (rest := [.long (FX2_mixed x1_11 (FX2_error f a ta11 n z c 0))]) E hK hP (c_X2_error l D cI cB ad f a ta11 n z c hX 1) (cwV 1 E.2.2.2.2 gX2_digest_X2_error rfl rfl rfl (by decide +kernel) ⟨Nat.le_of_ble_eq_true rfl, Nat.le_of_ble_eq_true rfl⟩) (rx hK hP) rfl hl.1 rfl (Nat.le_of_ble_eq_true rfl) dX2_digest_127 ⟨Nat.zero_le _, Nat.zero_le _⟩ ?_
            refine g_SL (As := [.long (FX2_mixed x1_11 (FX2_error f a ta11 n z c 0)), .int (FX2_error f a ta11 n z c 1)]) (rest := []) E hK (c_X2_mixed l D cI cB (FX2_mixed x1_11 (FX2_error f a ta11 n z c 0)) (FX2_error f a ta11 n z c 1)) (va_cwS 2 E.2.2.2.2 gX2_digest_X2_mixed rfl rfl rfl (by decide +kernel) ⟨Nat.le_of_ble_eq_true rfl, Nat.le_of_ble_eq_true rfl⟩) rfl hl.1 rfl (Nat.le_of_ble_eq_true rfl) dX2_digest_130 ⟨Nat.zero_le _, Nat.zero_le _⟩ ?_
            refine lv_lstore_n (lv' := [(1, .long (FX2_mixed (FX2_mixed x1_11 (FX2_error f a ta11 n z c 0)) (FX2_error f a ta11 n z c 1))), (3, .int (nI k_12)), (0, .ref (ad 0))]) E.1 E.2.1 dX2_digest_133 rfl hl (by decide) rfl (fun ls hl => ?_)
            refine lv_lload_n E.1 E.2.1 dX2_digest_134 rfl (lv_at hl 0 rfl) ?_
            refine lv_aload_n E.1 E.2.1 dX2_digest_135 rfl (lv_at hl 2 rfl) ?_
            refine g_VR (As := []) (rest := [.long (FX2_mixed (FX2_mixed x1_11 (FX2_error f a ta11 n z c 0)) (FX2_error f a ta11 n z c 1))]) E hK hP (c_X2_suns l D cI cB ad f a ta11 n z c hX) (cwV 0 E.2.2.2.2 gX2_digest_X2_suns rfl rfl rfl (by decide +kernel) ⟨Nat.le_of_ble_eq_true rfl, Nat.le_of_ble_eq_true rfl⟩) (rx hK hP) rfl hl.1 rfl (Nat.le_of_ble_eq_true rfl) dX2_digest_136 ⟨Nat.zero_le _, Nat.zero_le _⟩ ?_
            refine g_SL (As := [.long (FX2_mixed (FX2_mixed x1_11 (FX2_error f a ta11 n z c 0)) (FX2_error f a ta11 n z c 1)), .int (FX2_suns f a ta11 n z c)]) (rest := []) E hK (c_X2_mixed l D cI cB (FX2_mixed (FX2_mixed x1_11 (FX2_error f a ta11 n z c 0)) (FX2_error f a ta11 n z c 1)) (FX2_suns f a ta11 n z c)) (va_cwS 2 E.2.2.2.2 gX2_digest_X2_mixed rfl rfl rfl (by decide +kernel) ⟨Nat.le_of_ble_eq_true rfl, Nat.le_of_ble_eq_true rfl⟩) rfl hl.1 rfl (Nat.le_of_ble_eq_true rfl) dX2_digest_139 ⟨Nat.zero_le _, Nat.zero_le _⟩ ?_
            refine lv_lstore_n (lv' := [(1, .long (FX2_mixed (FX2_mixed (FX2_mixed x1_11 (FX2_error f a ta11 n z c 0)) (FX2_error f a ta11 n z c 1)) (FX2_suns f a ta11 n z c))), (3, .int (nI k_12)), (0, .ref (ad 0))]) E.1 E.2.1 dX2_digest_142 rfl hl (by decide) rfl (fun ls hl => ?_)
            refine lv_lload_n E.1 E.2.1 dX2_digest_143 rfl (lv_at hl 0 rfl) ?_
            refine lv_aload_n E.1 E.2.1 dX2_digest_144 rfl (lv_at hl 2 rfl) ?_
            refine g_VR (As := []) (rest := [.long (FX2_mixed (FX2_mixed (FX2_mixed x1_11 (FX2_error f a ta11 n z c 0)) (FX2_error f a ta11 n z c 1)) (FX2_suns f a ta11 n z c))]) E hK hP (c_X2_look l D cI cB ad f a ta11 n z c hX) (cwV 0 E.2.2.2.2 gX2_digest_X2_look rfl rfl rfl (by decide +kernel) ⟨Nat.le_of_ble_eq_true rfl, Nat.le_of_ble_eq_true rfl⟩) (rx hK hP) rfl hl.1 rfl (Nat.le_of_ble_eq_true rfl) dX2_digest_145 ⟨Nat.zero_le _, Nat.zero_le _⟩ ?_
            refine g_SL (As := [.long (FX2_mixed (FX2_mixed (FX2_mixed x1_11 (FX2_error f a ta11 n z c 0)) (FX2_error f a ta11 n z c 1)) (FX2_suns f a ta11 n z c)), .int (FX2_look f a ta11 n z c)]) (rest := []) E hK (c_X2_mixed l D cI cB (FX2_mixed (FX2_mixed (FX2_mixed x1_11 (FX2_error f a ta11 n z c 0)) (FX2_error f a ta11 n z c 1)) (FX2_suns f a ta11 n z c)) (FX2_look f a ta11 n z c)) (va_cwS 2 E.2.2.2.2 gX2_digest_X2_mixed rfl rfl rfl (by decide +kernel) ⟨Nat.le_of_ble_eq_true rfl, Nat.le_of_ble_eq_true rfl⟩) rfl hl.1 rfl (Nat.le_of_ble_eq_true rfl) dX2_digest_148 ⟨Nat.zero_le _, Nat.zero_le _⟩ ?_
            refine lv_lstore_n (lv' := [(1, .long (FX2_mixed (FX2_mixed (FX2_mixed (FX2_mixed x1_11 (FX2_error f a ta11 n z c 0)) (FX2_error f a ta11 n z c 1)) (FX2_suns f a ta11 n z c)) (FX2_look f a ta11 n z c))), (3, .int (nI k_12)), (0, .ref (ad 0))]) E.1 E.2.1 dX2_digest_151 rfl hl (by decide) rfl (fun ls hl => ?_)
            refine lv_iconst (v := 0) E.1 E.2.1 dX2_digest_152 (by decide) ?_
            refine lv_istore_n (lv' := [(3, .int 0), (1, .long (FX2_mixed (FX2_mixed (FX2_mixed (FX2_mixed x1_11 (FX2_error f a ta11 n z c 0)) (FX2_error f a ta11 n z c 1)) (FX2_suns f a ta11 n z c)) (FX2_look f a ta11 n z c))), (0, .ref (ad 0))]) E.1 E.2.1 dX2_digest_153 rfl hl (by decide) rfl (fun ls hl => ?_)
            have loop13 : ∀ (d_13 k_14 : Nat) (x1_13 : Int64) (ta13 : Nat → Nat → Int32) (H : Heap) (locs : List Loc) (ls : Array Slot), k_14 + d_13 = z → va_P D vwCl (wX cI ad f a ta13) H → va_S (wA 25 ad) s.heap H locs → lv_has ls 5 [(3, .int (nI k_14)), (1, .long x1_13), (0, .ref (ad 0))] → W p l e (headSpec wsX2_digest { frames := 6, cells := 0, slots := 0, locals := 138 }).room s m ([.ref (ad 0)] : List Value).toArray below meth cd H locs 0 0 (MQ below (va_Ql (fun (r : Int64) (u : SX) => (r, u) = FX2_digest_L154 f a n z c d_13 k_14 x1_13 ta13) (fun u t => va_P D vwCl (wX cI ad u.1 u.2.1 u.2.2) t.heap) (wA 25 ad)) ([.ref (ad 0)] : List Value).toArray s 0 0 (wA 25 ad)) (F0 m 154 ls []) := by
              intro d_13
              induction d_13 with
              | zero =>
                intro k_14 x1_13 ta13 H locs ls hk13 hP hS hl
                refine lv_iload_n E.1 E.2.1 dX2_digest_154 rfl (lv_at hl 0 rfl) ?_
                refine lv_aload_n E.1 E.2.1 dX2_digest_155 rfl (lv_at hl 2 rfl) ?_
                refine xg_0_0 E hK hP in_2 w_2 dX2_digest_156 ?_
                refine xg_1_1 E hK hP in_0 w_3 dX2_digest_159 ?_
                refine lv_topi (fun y_15 ey_15 => ?_)
                obtain rfl : y_15 = nI z := ey_15.trans (hz)
                refine lv_icmp_ge (x := nI k_14) (y := nI z) (tgt := 184) E.1 E.2.1 dX2_digest_162 (by decide) (fun _ => ?_) (fun h9 => absurd (nI_le (a := z) (b := k_14) (by omega) (by omega)) h9)
                refine lv_iconst (v := 0) E.1 E.2.1 dX2_digest_184 (by decide) ?_
                refine lv_istore_n (lv' := [(3, .int 0), (1, .long x1_13), (0, .ref (ad 0))]) E.1 E.2.1 dX2_digest_185 rfl hl (by decide) rfl (fun ls hl => ?_)
                have loop16 : ∀ (d_16 k_17 : Nat) (x1_16 : Int64) (ta16 : Nat → Nat → Int32) (H : Heap) (locs : List Loc) (ls : Array Slot), k_17 + d_16 = 10 → va_P D vwCl (wX cI ad f a ta16) H → va_S (wA 25 ad) s.heap H locs → lv_has ls 5 [(3, .int (nI k_17)), (1, .long x1_16), (0, .ref (ad 0))] → W p l e (headSpec wsX2_digest { frames := 6, cells := 0, slots := 0, locals := 138 }).room s m ([.ref (ad 0)] : List Value).toArray below meth cd H locs 0 0 (MQ below (va_Ql (fun (r : Int64) (u : SX) => (r, u) = FX2_digest_L186 f a n z c d_16 k_17 x1_16 ta16) (fun u t => va_P D vwCl (wX cI ad u.1 u.2.1 u.2.2) t.heap) (wA 25 ad)) ([.ref (ad 0)] : List Value).toArray s 0 0 (wA 25 ad)) (F0 m 186 ls []) := by
                  intro d_16
                  induction d_16 with
                  | zero =>
                    intro k_17 x1_16 ta16 H locs ls hk16 hP hS hl
                    refine lv_iload_n E.1 E.2.1 dX2_digest_186 rfl (lv_at hl 0 rfl) ?_
                    refine lv_bipush (v := 9) E.1 E.2.1 dX2_digest_187 (by decide) ?_
                    refine lv_icmp_gt (x := nI k_17) (y := 9) (tgt := 208) E.1 E.2.1 dX2_digest_189 (by decide) (fun _ => ?_) (fun h9 => absurd (nI_lt (a := 9) (b := k_17) (by omega) (by omega)) h9)
                    refine lv_lload_n E.1 E.2.1 dX2_digest_208 rfl (lv_at hl 1 rfl) ?_
                    exact W.lret (v := x1_16) E.1 E.2.1 hr (fun t ht _ => ⟨⟨x1_16, (f, a, ta16), rfl, (by rw [FX2_digest_L186]), (show va_P D vwCl (wX cI ad f a ta16) t.heap from by rw [ht]; exact hP)⟩, hS.F ht⟩) hS.2.2 dX2_digest_209
                  | succ d_16 ih16 =>
                    intro k_17 x1_16 ta16 H locs ls hk16 hP hS hl
                    refine lv_iload_n E.1 E.2.1 dX2_digest_186 rfl (lv_at hl 0 rfl) ?_
                    refine lv_bipush (v := 9) E.1 E.2.1 dX2_digest_187 (by decide) ?_
                    refine lv_icmp_gt (x := nI k_17) (y := 9) (tgt := 208) E.1 E.2.1 dX2_digest_189 (by decide) (fun h9 => absurd h9 (nI_nlt (b := k_17) (a := 9) (by omega) (by omega))) (fun _ => ?_)
                    refine lv_lload_n E.1 E.2.1 dX2_digest_192 rfl (lv_at hl 1 rfl) ?_
                    refine lv_aload_n E.1 E.2.1 dX2_digest_193 rfl (lv_at hl 2 rfl) ?_
                    refine lv_iload_n E.1 E.2.1 dX2_digest_194 rfl (lv_at hl 0 rfl) ?_
                    refine g_VR (As := [.int (nI k_17)]) (rest := [.long x1_16]) E hK hP (c_X2_count l D cI cB ad f a ta16 n z c hX (nI k_17)) (cwV 1 E.2.2.2.2 gX2_digest_X2_count rfl rfl rfl (by decide +kernel) ⟨Nat.le_of_ble_eq_true rfl, Nat.le_of_ble_eq_true rfl⟩) (rx hK hP) rfl hl.1 rfl (Nat.le_of_ble_eq_true rfl) dX2_digest_195 ⟨Nat.zero_le _, Nat.zero_le _⟩ ?_
                    refine g_SL (As := [.long x1_16, .int (FX2_count f a ta16 n z c (nI k_17))]) (rest := []) E hK (c_X2_mixed l D cI cB x1_16 (FX2_count f a ta16 n z c (nI k_17))) (va_cwS 2 E.2.2.2.2 gX2_digest_X2_mixed rfl rfl rfl (by decide +kernel) ⟨Nat.le_of_ble_eq_true rfl, Nat.le_of_ble_eq_true rfl⟩) rfl hl.1 rfl (Nat.le_of_ble_eq_true rfl) dX2_digest_198 ⟨Nat.zero_le _, Nat.zero_le _⟩ ?_
                    refine lv_lstore_n (lv' := [(1, .long (FX2_mixed x1_16 (FX2_count f a ta16 n z c (nI k_17)))), (3, .int (nI k_17)), (0, .ref (ad 0))]) E.1 E.2.1 dX2_digest_201 rfl hl (by decide) rfl (fun ls hl => ?_)
                    refine lv_iinc (v := nI (k_17 + 1)) (k := 1) (lv' := [(3, .int (nI (k_17 + 1))), (1, .long (FX2_mixed x1_16 (FX2_count f a ta16 n z c (nI k_17)))), (0, .ref (ad 0))]) E.1 E.2.1 dX2_digest_202 hl rfl (nI_1 k_17) (by decide) rfl (fun ls hl => ?_)
                    refine lv_goto (tgt := 186) E.1 E.2.1 dX2_digest_205 (by decide) ?_
                    rw [show FX2_digest_L186 f a n z c (d_16 + 1) k_17 x1_16 ta16 = FX2_digest_L186 f a n z c d_16 (k_17 + 1) (FX2_mixed x1_16 (FX2_count f a ta16 n z c (nI k_17))) ta16 from by rw [FX2_digest_L186]]
                    exact ih16 (k_17 + 1) (FX2_mixed x1_16 (FX2_count f a ta16 n z c (nI k_17))) ta16 _ _ ls (by omega) hP hS (lv_sub hl [0, 1, 2] rfl)
                rw [show FX2_digest_L154 f a n z c 0 k_14 x1_13 ta13 = FX2_digest_L186 f a n z c 10 0 x1_13 ta13 from by rw [FX2_digest_L154]]
                have hl : lv_has ls 5 [(3, .int (nI 0)), (1, .long x1_13), (0, .ref (ad 0))] := lv_sub hl [0, 1, 2] rfl
                exact loop16 _ _ x1_13 ta13 _ _ ls (by omega) hP hS (lv_sub hl [0, 1, 2] rfl)
              | succ d_13 ih13 =>
                intro k_14 x1_13 ta13 H locs ls hk13 hP hS hl
                refine lv_iload_n E.1 E.2.1 dX2_digest_154 rfl (lv_at hl 0 rfl) ?_
                refine lv_aload_n E.1 E.2.1 dX2_digest_155 rfl (lv_at hl 2 rfl) ?_
                refine xg_0_0 E hK hP in_2 w_2 dX2_digest_156 ?_
                refine xg_1_1 E hK hP in_0 w_3 dX2_digest_159 ?_
                refine lv_topi (fun y_18 ey_18 => ?_)
                obtain rfl : y_18 = nI z := ey_18.trans (hz)
                refine lv_icmp_ge (x := nI k_14) (y := nI z) (tgt := 184) E.1 E.2.1 dX2_digest_162 (by decide) (fun h9 => absurd h9 (nI_ge (a := k_14) (b := z) (by omega) (by omega))) (fun _ => ?_)
                refine lv_lload_n E.1 E.2.1 dX2_digest_165 rfl (lv_at hl 1 rfl) ?_
                refine lv_aload_n E.1 E.2.1 dX2_digest_166 rfl (lv_at hl 2 rfl) ?_
                refine xg_0_0 E hK hP in_2 w_2 dX2_digest_167 ?_
                refine lv_iload_n E.1 E.2.1 dX2_digest_170 rfl (lv_at hl 0 rfl) ?_
                refine g_VR (As := [.int (nI k_14)]) (rest := [.long x1_13]) E hK hP (c_X0_codeAt l D cI cB ad f a ta13 n z c hX (nI k_14)) (cwV 1 E.2.2.2.2 gX2_digest_X0_codeAt rfl rfl rfl (by decide +kernel) ⟨Nat.le_of_ble_eq_true rfl, Nat.le_of_ble_eq_true rfl⟩) (rxp hK hP) rfl hl.1 rfl (Nat.le_of_ble_eq_true rfl) dX2_digest_171 ⟨Nat.zero_le _, Nat.zero_le _⟩ ?_
                refine g_SL (As := [.long x1_13, .int (FX0_codeAt f a ta13 n z c (nI k_14))]) (rest := []) E hK (c_X2_mixed l D cI cB x1_13 (FX0_codeAt f a ta13 n z c (nI k_14))) (va_cwS 2 E.2.2.2.2 gX2_digest_X2_mixed rfl rfl rfl (by decide +kernel) ⟨Nat.le_of_ble_eq_true rfl, Nat.le_of_ble_eq_true rfl⟩) rfl hl.1 rfl (Nat.le_of_ble_eq_true rfl) dX2_digest_174 ⟨Nat.zero_le _, Nat.zero_le _⟩ ?_
                refine lv_lstore_n (lv' := [(1, .long (FX2_mixed x1_13 (FX0_codeAt f a ta13 n z c (nI k_14)))), (3, .int (nI k_14)), (0, .ref (ad 0))]) E.1 E.2.1 dX2_digest_177 rfl hl (by decide) rfl (fun ls hl => ?_)
                refine lv_iinc (v := nI (k_14 + 1)) (k := 1) (lv' := [(3, .int (nI (k_14 + 1))), (1, .long (FX2_mixed x1_13 (FX0_codeAt f a ta13 n z c (nI k_14)))), (0, .ref (ad 0))]) E.1 E.2.1 dX2_digest_178 hl rfl (nI_1 k_14) (by decide) rfl (fun ls hl => ?_)
                refine lv_goto (tgt := 154) E.1 E.2.1 dX2_digest_181 (by decide) ?_
                rw [show FX2_digest_L154 f a n z c (d_13 + 1) k_14 x1_13 ta13 = FX2_digest_L154 f a n z c d_13 (k_14 + 1) (FX2_mixed x1_13 (FX0_codeAt f a ta13 n z c (nI k_14))) ta13 from by rw [FX2_digest_L154]]
                exact ih13 (k_14 + 1) (FX2_mixed x1_13 (FX0_codeAt f a ta13 n z c (nI k_14))) ta13 _ _ ls (by omega) hP hS (lv_sub hl [0, 1, 2] rfl)
            rw [show FX2_digest_L90 f a n z c 0 k_12 x1_11 ta11 = FX2_digest_L154 f a n z c z 0 (FX2_mixed (FX2_mixed (FX2_mixed (FX2_mixed x1_11 (FX2_error f a ta11 n z c 0)) (FX2_error f a ta11 n z c 1)) (FX2_suns f a ta11 n z c)) (FX2_look f a ta11 n z c)) ta11 from by rw [FX2_digest_L90]]
            have hl : lv_has ls 5 [(3, .int (nI 0)), (1, .long (FX2_mixed (FX2_mixed (FX2_mixed (FX2_mixed x1_11 (FX2_error f a ta11 n z c 0)) (FX2_error f a ta11 n z c 1)) (FX2_suns f a ta11 n z c)) (FX2_look f a ta11 n z c))), (0, .ref (ad 0))] := lv_sub hl [0, 1, 2] rfl
            exact loop13 _ _ (FX2_mixed (FX2_mixed (FX2_mixed (FX2_mixed x1_11 (FX2_error f a ta11 n z c 0)) (FX2_error f a ta11 n z c 1)) (FX2_suns f a ta11 n z c)) (FX2_look f a ta11 n z c)) ta11 _ _ ls (by omega) hP hS (lv_sub hl [0, 1, 2] rfl)
          | succ d_11 ih11 =>
            intro k_12 x1_11 ta11 H locs ls hk11 hP hS hl
            refine lv_iload_n E.1 E.2.1 dX2_digest_90 rfl (lv_at hl 0 rfl) ?_
            refine lv_iconst (v := 3) E.1 E.2.1 dX2_digest_91 (by decide) ?_
            refine lv_icmp_gt (x := nI k_12) (y := 3) (tgt := 114) E.1 E.2.1 dX2_digest_92 (by decide) (fun h9 => absurd h9 (nI_nlt (b := k_12) (a := 3) (by omega) (by omega))) (fun _ => ?_)
            refine lv_lload_n E.1 E.2.1 dX2_digest_95 rfl (lv_at hl 1 rfl) ?_
            refine lv_aload_n E.1 E.2.1 dX2_digest_96 rfl (lv_at hl 2 rfl) ?_
            refine lv_bipush (v := 20) E.1 E.2.1 dX2_digest_97 (by decide) ?_
            refine lv_iconst (v := 2) E.1 E.2.1 dX2_digest_99 (by decide) ?_
            refine lv_iload_n E.1 E.2.1 dX2_digest_100 rfl (lv_at hl 0 rfl) ?_
            refine g_VWi (As := [.int 20, .int 2, .int (nI k_12)]) (rest := [.long x1_11]) E hK hP hS (fun q h => h) (c_X2_plan l D cI cB ad f a ta11 n z c hX hI 20 2 (nI k_12)) (cwV 3 E.2.2.2.2 gX2_digest_X2_plan rfl rfl rfl (by decide +kernel) ⟨Nat.le_of_ble_eq_true rfl, Nat.le_of_ble_eq_true rfl⟩) (rx hK hP) rfl hl.1 rfl (Nat.le_of_ble_eq_true rfl) dX2_digest_101 ⟨Nat.zero_le _, Nat.zero_le _⟩ (fun r_20 u_19 H1 locs hp_21 hP1 hq_22 hS => ?_)
            obtain rfl : r_20 = (FX2_plan f a ta11 n z c 20 2 (nI k_12)).1 := congrArg Prod.fst hp_21
            obtain rfl : u_19 = (FX2_plan f a ta11 n z c 20 2 (nI k_12)).2 := congrArg Prod.snd hp_21
            have hP : va_P D vwCl (wX cI ad ((FX2_plan f a ta11 n z c 20 2 (nI k_12)).2.1) ((FX2_plan f a ta11 n z c 20 2 (nI k_12)).2.2.1) ((FX2_plan f a ta11 n z c 20 2 (nI k_12)).2.2.2)) H1 := hP1
            clear hP1
            generalize H1 = H at hP hS ⊢
            rw [show (FX2_plan f a ta11 n z c 20 2 (nI k_12)).2.1 = f from kp_plan_f ..] at hP
            rw [show (FX2_plan f a ta11 n z c 20 2 (nI k_12)).2.2.1 = a from kp_plan_a ..] at hP
            have hP : va_P D vwCl (wX cI ad f a ((FX2_plan f a ta11 n z c 20 2 (nI k_12)).2.2.2)) H := hP
            refine g_SL (As := [.long x1_11, .int ((FX2_plan f a ta11 n z c 20 2 (nI k_12)).1)]) (rest := []) E hK (c_X2_mixed l D cI cB x1_11 ((FX2_plan f a ta11 n z c 20 2 (nI k_12)).1)) (va_cwS 2 E.2.2.2.2 gX2_digest_X2_mixed rfl rfl rfl (by decide +kernel) ⟨Nat.le_of_ble_eq_true rfl, Nat.le_of_ble_eq_true rfl⟩) rfl hl.1 rfl (Nat.le_of_ble_eq_true rfl) dX2_digest_104 ⟨Nat.zero_le _, Nat.zero_le _⟩ ?_
            refine lv_lstore_n (lv' := [(1, .long (FX2_mixed x1_11 ((FX2_plan f a ta11 n z c 20 2 (nI k_12)).1))), (3, .int (nI k_12)), (0, .ref (ad 0))]) E.1 E.2.1 dX2_digest_107 rfl hl (by decide) rfl (fun ls hl => ?_)
            refine lv_iinc (v := nI (k_12 + 1)) (k := 1) (lv' := [(3, .int (nI (k_12 + 1))), (1, .long (FX2_mixed x1_11 ((FX2_plan f a ta11 n z c 20 2 (nI k_12)).1))), (0, .ref (ad 0))]) E.1 E.2.1 dX2_digest_108 hl rfl (nI_1 k_12) (by decide) rfl (fun ls hl => ?_)
            refine lv_goto (tgt := 90) E.1 E.2.1 dX2_digest_111 (by decide) ?_
            rw [show FX2_digest_L90 f a n z c (d_11 + 1) k_12 x1_11 ta11 = FX2_digest_L90 f a n z c d_11 (k_12 + 1) (FX2_mixed x1_11 ((FX2_plan f a ta11 n z c 20 2 (nI k_12)).1)) ((FX2_plan f a ta11 n z c 20 2 (nI k_12)).2.2.2) from by rw [FX2_digest_L90]]
            exact ih11 (k_12 + 1) (FX2_mixed x1_11 ((FX2_plan f a ta11 n z c 20 2 (nI k_12)).1)) ((FX2_plan f a ta11 n z c 20 2 (nI k_12)).2.2.2) _ _ ls (by omega) hP hS (lv_sub hl [0, 1, 2] rfl)
        rw [show FX2_digest_L6 f a n z c 0 k_2 x1_1 ta1 = FX2_digest_L90 f a n z c 4 0 x1_1 ta1 from by rw [FX2_digest_L6, if_neg h85]]
        have hl : lv_has ls 5 [(3, .int (nI 0)), (1, .long x1_1), (0, .ref (ad 0))] := lv_sub hl [0, 1, 2] rfl
        exact loop11 _ _ x1_1 ta1 _ _ ls (by omega) hP hS (lv_sub hl [0, 1, 2] rfl)
    | succ d_1 ih1 =>
      intro k_2 x1_1 ta1 H locs ls hk1 hP hS hl
      refine lv_iload_n E.1 E.2.1 dX2_digest_6 rfl (lv_at hl 0 rfl) ?_
      refine lv_aload_n E.1 E.2.1 dX2_digest_7 rfl (lv_at hl 2 rfl) ?_
      refine xg_0_7 E hK hP in_2 w_1 dX2_digest_8 ?_
      refine lv_topi (fun y_23 ey_23 => ?_)
      obtain rfl : y_23 = nI n := ey_23.trans (hn)
      refine lv_icmp_ge (x := nI k_2) (y := nI n) (tgt := 81) E.1 E.2.1 dX2_digest_11 (by decide) (fun h9 => absurd h9 (nI_ge (a := k_2) (b := n) (by omega) (by omega))) (fun _ => ?_)
      refine lv_iconst (v := 0) E.1 E.2.1 dX2_digest_14 (by decide) ?_
      refine lv_istore (lv' := [(4, .int 0), (3, .int (nI k_2)), (1, .long x1_1), (0, .ref (ad 0))]) E.1 E.2.1 dX2_digest_15 hl (by decide) rfl (fun ls hl => ?_)
      have loop24 : ∀ (d_24 k_25 : Nat) (x1_24 : Int64) (ls : Array Slot), k_25 + d_24 = 7 → lv_has ls 5 [(4, .int (nI k_25)), (1, .long x1_24), (3, .int (nI k_2)), (0, .ref (ad 0))] → (∀ ls : Array Slot, lv_has ls 5 [(4, .int (nI 7)), (1, .long (FX2_digest_L17 f a n z c ta1 k_2 x1_1 d_24 k_25 x1_24)), (3, .int (nI k_2)), (0, .ref (ad 0))] → W p l e (headSpec wsX2_digest { frames := 6, cells := 0, slots := 0, locals := 138 }).room s m ([.ref (ad 0)] : List Value).toArray below meth cd H locs 0 0 (MQ below (va_Ql (fun (r : Int64) (u : SX) => (r, u) = FX2_digest_L6 f a n z c (d_1 + 1) k_2 x1_1 ta1) (fun u t => va_P D vwCl (wX cI ad u.1 u.2.1 u.2.2) t.heap) (wA 25 ad)) ([.ref (ad 0)] : List Value).toArray s 0 0 (wA 25 ad)) (F0 m 42 ls [])) → W p l e (headSpec wsX2_digest { frames := 6, cells := 0, slots := 0, locals := 138 }).room s m ([.ref (ad 0)] : List Value).toArray below meth cd H locs 0 0 (MQ below (va_Ql (fun (r : Int64) (u : SX) => (r, u) = FX2_digest_L6 f a n z c (d_1 + 1) k_2 x1_1 ta1) (fun u t => va_P D vwCl (wX cI ad u.1 u.2.1 u.2.2) t.heap) (wA 25 ad)) ([.ref (ad 0)] : List Value).toArray s 0 0 (wA 25 ad)) (F0 m 17 ls []) := by
        intro d_24
        induction d_24 with
        | zero =>
          intro k_25 x1_24 ls hk24 hl hcont
          refine lv_iload E.1 E.2.1 dX2_digest_17 (lv_at hl 0 rfl) ?_
          refine lv_bipush (v := 6) E.1 E.2.1 dX2_digest_19 (by decide) ?_
          refine lv_icmp_gt (x := nI k_25) (y := 6) (tgt := 42) E.1 E.2.1 dX2_digest_21 (by decide) (fun _ => ?_) (fun h9 => absurd (nI_lt (a := 6) (b := k_25) (by omega) (by omega)) h9)
          rw [show FX2_digest_L17 f a n z c ta1 k_2 x1_1 0 k_25 x1_24 = x1_24 from by rw [FX2_digest_L17]] at hcont
          have e9 : k_25 = 7 := by omega
          rw [e9] at hl
          exact hcont ls (lv_sub hl [0, 1, 2, 3] rfl)
        | succ d_24 ih24 =>
          intro k_25 x1_24 ls hk24 hl hcont
          refine lv_iload E.1 E.2.1 dX2_digest_17 (lv_at hl 0 rfl) ?_
          refine lv_bipush (v := 6) E.1 E.2.1 dX2_digest_19 (by decide) ?_
          refine lv_icmp_gt (x := nI k_25) (y := 6) (tgt := 42) E.1 E.2.1 dX2_digest_21 (by decide) (fun h9 => absurd h9 (nI_nlt (b := k_25) (a := 6) (by omega) (by omega))) (fun _ => ?_)
          refine lv_lload_n E.1 E.2.1 dX2_digest_24 rfl (lv_at hl 1 rfl) ?_
          refine lv_aload_n E.1 E.2.1 dX2_digest_25 rfl (lv_at hl 3 rfl) ?_
          refine lv_iload_n E.1 E.2.1 dX2_digest_26 rfl (lv_at hl 2 rfl) ?_
          refine lv_iload E.1 E.2.1 dX2_digest_27 (lv_at hl 0 rfl) ?_
          refine g_VR (As := [.int (nI k_2), .int (nI k_25)]) (rest := [.long x1_24]) E hK hP (c_X2_about l D cI cB ad f a ta1 n z c hX (nI k_2) (nI k_25)) (cwV 2 E.2.2.2.2 gX2_digest_X2_about rfl rfl rfl (by decide +kernel) ⟨Nat.le_of_ble_eq_true rfl, Nat.le_of_ble_eq_true rfl⟩) (rx hK hP) rfl hl.1 rfl (Nat.le_of_ble_eq_true rfl) dX2_digest_29 ⟨Nat.zero_le _, Nat.zero_le _⟩ ?_
          refine g_SL (As := [.long x1_24, .int (FX2_about f a ta1 n z c (nI k_2) (nI k_25))]) (rest := []) E hK (c_X2_mixed l D cI cB x1_24 (FX2_about f a ta1 n z c (nI k_2) (nI k_25))) (va_cwS 2 E.2.2.2.2 gX2_digest_X2_mixed rfl rfl rfl (by decide +kernel) ⟨Nat.le_of_ble_eq_true rfl, Nat.le_of_ble_eq_true rfl⟩) rfl hl.1 rfl (Nat.le_of_ble_eq_true rfl) dX2_digest_32 ⟨Nat.zero_le _, Nat.zero_le _⟩ ?_
          refine lv_lstore_n (lv' := [(1, .long (FX2_mixed x1_24 (FX2_about f a ta1 n z c (nI k_2) (nI k_25)))), (4, .int (nI k_25)), (3, .int (nI k_2)), (0, .ref (ad 0))]) E.1 E.2.1 dX2_digest_35 rfl hl (by decide) rfl (fun ls hl => ?_)
          refine lv_iinc (v := nI (k_25 + 1)) (k := 1) (lv' := [(4, .int (nI (k_25 + 1))), (1, .long (FX2_mixed x1_24 (FX2_about f a ta1 n z c (nI k_2) (nI k_25)))), (3, .int (nI k_2)), (0, .ref (ad 0))]) E.1 E.2.1 dX2_digest_36 hl rfl (nI_1 k_25) (by decide) rfl (fun ls hl => ?_)
          refine lv_goto (tgt := 17) E.1 E.2.1 dX2_digest_39 (by decide) ?_
          rw [show FX2_digest_L17 f a n z c ta1 k_2 x1_1 (d_24 + 1) k_25 x1_24 = FX2_digest_L17 f a n z c ta1 k_2 x1_1 d_24 (k_25 + 1) (FX2_mixed x1_24 (FX2_about f a ta1 n z c (nI k_2) (nI k_25))) from by rw [FX2_digest_L17]] at hcont
          exact ih24 (k_25 + 1) (FX2_mixed x1_24 (FX2_about f a ta1 n z c (nI k_2) (nI k_25))) ls (by omega) (lv_sub hl [0, 1, 2, 3] rfl) hcont
      have hl : lv_has ls 5 [(4, .int (nI 0)), (1, .long x1_1), (3, .int (nI k_2)), (0, .ref (ad 0))] := lv_sub hl [0, 2, 1, 3] rfl
      refine loop24 7 0 x1_1 ls (by omega) (lv_sub hl [0, 1, 2, 3] rfl) (fun ls hl => ?_)
      refine lv_lload_n E.1 E.2.1 dX2_digest_42 rfl (lv_at hl 1 rfl) ?_
      refine lv_aload_n E.1 E.2.1 dX2_digest_43 rfl (lv_at hl 3 rfl) ?_
      refine lv_iload_n E.1 E.2.1 dX2_digest_44 rfl (lv_at hl 2 rfl) ?_
      refine lv_iconst (v := 0) E.1 E.2.1 dX2_digest_45 (by decide) ?_
      refine g_VR (As := [.int (nI k_2), .int 0]) (rest := [.long (FX2_digest_L17 f a n z c ta1 k_2 x1_1 7 0 x1_1)]) E hK hP (c_X2_need l D cI cB ad f a ta1 n z c hX (nI k_2) 0) (cwV 2 E.2.2.2.2 gX2_digest_X2_need rfl rfl rfl (by decide +kernel) ⟨Nat.le_of_ble_eq_true rfl, Nat.le_of_ble_eq_true rfl⟩) (rx hK hP) rfl hl.1 rfl (Nat.le_of_ble_eq_true rfl) dX2_digest_46 ⟨Nat.zero_le _, Nat.zero_le _⟩ ?_
      refine g_SL (As := [.long (FX2_digest_L17 f a n z c ta1 k_2 x1_1 7 0 x1_1), .int (FX2_need f a ta1 n z c (nI k_2) 0)]) (rest := []) E hK (c_X2_mixed l D cI cB (FX2_digest_L17 f a n z c ta1 k_2 x1_1 7 0 x1_1) (FX2_need f a ta1 n z c (nI k_2) 0)) (va_cwS 2 E.2.2.2.2 gX2_digest_X2_mixed rfl rfl rfl (by decide +kernel) ⟨Nat.le_of_ble_eq_true rfl, Nat.le_of_ble_eq_true rfl⟩) rfl hl.1 rfl (Nat.le_of_ble_eq_true rfl) dX2_digest_49 ⟨Nat.zero_le _, Nat.zero_le _⟩ ?_
      refine lv_lstore_n (lv' := [(1, .long (FX2_mixed (FX2_digest_L17 f a n z c ta1 k_2 x1_1 7 0 x1_1) (FX2_need f a ta1 n z c (nI k_2) 0))), (4, .int (nI 7)), (3, .int (nI k_2)), (0, .ref (ad 0))]) E.1 E.2.1 dX2_digest_52 rfl hl (by decide) rfl (fun ls hl => ?_)
      refine lv_lload_n E.1 E.2.1 dX2_digest_53 rfl (lv_at hl 0 rfl) ?_
      refine lv_aload_n E.1 E.2.1 dX2_digest_54 rfl (lv_at hl 3 rfl) ?_
      refine lv_iload_n E.1 E.2.1 dX2_digest_55 rfl (lv_at hl 2 rfl) ?_
      refine lv_iconst (v := 1) E.1 E.2.1 dX2_digest_56 (by decide) ?_
      refine g_VR (As := [.int (nI k_2), .int 1]) (rest := [.long (FX2_mixed (FX2_digest_L17 f a n z c ta1 k_2 x1_1 7 0 x1_1) (FX2_need f a ta1 n z c (nI k_2) 0))]) E hK hP (c_X2_need l D cI cB ad f a ta1 n z c hX (nI k_2) 1) (cwV 2 E.2.2.2.2 gX2_digest_X2_need rfl rfl rfl (by decide +kernel) ⟨Nat.le_of_ble_eq_true rfl, Nat.le_of_ble_eq_true rfl⟩) (rx hK hP) rfl hl.1 rfl (Nat.le_of_ble_eq_true rfl) dX2_digest_57 ⟨Nat.zero_le _, Nat.zero_le _⟩ ?_
      refine g_SL (As := [.long (FX2_mixed (FX2_digest_L17 f a n z c ta1 k_2 x1_1 7 0 x1_1) (FX2_need f a ta1 n z c (nI k_2) 0)), .int (FX2_need f a ta1 n z c (nI k_2) 1)]) (rest := []) E hK (c_X2_mixed l D cI cB (FX2_mixed (FX2_digest_L17 f a n z c ta1 k_2 x1_1 7 0 x1_1) (FX2_need f a ta1 n z c (nI k_2) 0)) (FX2_need f a ta1 n z c (nI k_2) 1)) (va_cwS 2 E.2.2.2.2 gX2_digest_X2_mixed rfl rfl rfl (by decide +kernel) ⟨Nat.le_of_ble_eq_true rfl, Nat.le_of_ble_eq_true rfl⟩) rfl hl.1 rfl (Nat.le_of_ble_eq_true rfl) dX2_digest_60 ⟨Nat.zero_le _, Nat.zero_le _⟩ ?_
      refine lv_lstore_n (lv' := [(1, .long (FX2_mixed (FX2_mixed (FX2_digest_L17 f a n z c ta1 k_2 x1_1 7 0 x1_1) (FX2_need f a ta1 n z c (nI k_2) 0)) (FX2_need f a ta1 n z c (nI k_2) 1))), (4, .int (nI 7)), (3, .int (nI k_2)), (0, .ref (ad 0))]) E.1 E.2.1 dX2_digest_63 rfl hl (by decide) rfl (fun ls hl => ?_)
      refine lv_lload_n E.1 E.2.1 dX2_digest_64 rfl (lv_at hl 0 rfl) ?_
      refine lv_aload_n E.1 E.2.1 dX2_digest_65 rfl (lv_at hl 3 rfl) ?_
      refine lv_iload_n E.1 E.2.1 dX2_digest_66 rfl (lv_at hl 2 rfl) ?_
      refine lv_iconst (v := 5) E.1 E.2.1 dX2_digest_67 (by decide) ?_
      refine g_VR (As := [.int (nI k_2), .int 5]) (rest := [.long (FX2_mixed (FX2_mixed (FX2_digest_L17 f a n z c ta1 k_2 x1_1 7 0 x1_1) (FX2_need f a ta1 n z c (nI k_2) 0)) (FX2_need f a ta1 n z c (nI k_2) 1))]) E hK hP (c_X2_need l D cI cB ad f a ta1 n z c hX (nI k_2) 5) (cwV 2 E.2.2.2.2 gX2_digest_X2_need rfl rfl rfl (by decide +kernel) ⟨Nat.le_of_ble_eq_true rfl, Nat.le_of_ble_eq_true rfl⟩) (rx hK hP) rfl hl.1 rfl (Nat.le_of_ble_eq_true rfl) dX2_digest_68 ⟨Nat.zero_le _, Nat.zero_le _⟩ ?_
      refine g_SL (As := [.long (FX2_mixed (FX2_mixed (FX2_digest_L17 f a n z c ta1 k_2 x1_1 7 0 x1_1) (FX2_need f a ta1 n z c (nI k_2) 0)) (FX2_need f a ta1 n z c (nI k_2) 1)), .int (FX2_need f a ta1 n z c (nI k_2) 5)]) (rest := []) E hK (c_X2_mixed l D cI cB (FX2_mixed (FX2_mixed (FX2_digest_L17 f a n z c ta1 k_2 x1_1 7 0 x1_1) (FX2_need f a ta1 n z c (nI k_2) 0)) (FX2_need f a ta1 n z c (nI k_2) 1)) (FX2_need f a ta1 n z c (nI k_2) 5)) (va_cwS 2 E.2.2.2.2 gX2_digest_X2_mixed rfl rfl rfl (by decide +kernel) ⟨Nat.le_of_ble_eq_true rfl, Nat.le_of_ble_eq_true rfl⟩) rfl hl.1 rfl (Nat.le_of_ble_eq_true rfl) dX2_digest_71 ⟨Nat.zero_le _, Nat.zero_le _⟩ ?_
      refine lv_lstore_n (lv' := [(1, .long (FX2_mixed (FX2_mixed (FX2_mixed (FX2_digest_L17 f a n z c ta1 k_2 x1_1 7 0 x1_1) (FX2_need f a ta1 n z c (nI k_2) 0)) (FX2_need f a ta1 n z c (nI k_2) 1)) (FX2_need f a ta1 n z c (nI k_2) 5))), (4, .int (nI 7)), (3, .int (nI k_2)), (0, .ref (ad 0))]) E.1 E.2.1 dX2_digest_74 rfl hl (by decide) rfl (fun ls hl => ?_)
      refine lv_iinc (v := nI (k_2 + 1)) (k := 2) (lv' := [(3, .int (nI (k_2 + 1))), (1, .long (FX2_mixed (FX2_mixed (FX2_mixed (FX2_digest_L17 f a n z c ta1 k_2 x1_1 7 0 x1_1) (FX2_need f a ta1 n z c (nI k_2) 0)) (FX2_need f a ta1 n z c (nI k_2) 1)) (FX2_need f a ta1 n z c (nI k_2) 5))), (4, .int (nI 7)), (0, .ref (ad 0))]) E.1 E.2.1 dX2_digest_75 hl rfl (nI_1 k_2) (by decide) rfl (fun ls hl => ?_)
      refine lv_goto (tgt := 6) E.1 E.2.1 dX2_digest_78 (by decide) ?_
      rw [show FX2_digest_L6 f a n z c (d_1 + 1) k_2 x1_1 ta1 = FX2_digest_L6 f a n z c d_1 (k_2 + 1) (FX2_mixed (FX2_mixed (FX2_mixed (FX2_digest_L17 f a n z c ta1 k_2 x1_1 7 0 x1_1) (FX2_need f a ta1 n z c (nI k_2) 0)) (FX2_need f a ta1 n z c (nI k_2) 1)) (FX2_need f a ta1 n z c (nI k_2) 5)) ta1 from by rw [FX2_digest_L6]]
      exact ih1 (k_2 + 1) (FX2_mixed (FX2_mixed (FX2_mixed (FX2_digest_L17 f a n z c ta1 k_2 x1_1 7 0 x1_1) (FX2_need f a ta1 n z c (nI k_2) 0)) (FX2_need f a ta1 n z c (nI k_2) 1)) (FX2_need f a ta1 n z c (nI k_2) 5)) ta1 _ _ ls (by omega) hP hS (lv_sub hl [0, 1, 3] rfl)
  rw [show FX2_digest f a ta n z c = FX2_digest_L6 f a n z c n 0 1061 ta from by rw [FX2_digest]]
  have hl : lv_has ls 5 [(3, .int (nI 0)), (1, .long 1061), (0, .ref (ad 0))] := lv_sub hl [0, 1, 2] rfl
  exact loop1 _ _ 1061 ta _ _ ls (by omega) hP hS (lv_sub hl [0, 1, 2] rfl)
