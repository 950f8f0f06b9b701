def FX3_layNeeds_L14 (g : Nat → Int32) (gl : Nat → Int64) (b : Nat → Nat → Int32) (tb : Nat → Nat → Int32) (n : Nat) (z : Nat) (c : Nat) (p0 : Int32) : Nat → Nat → Int32 → (Nat → Int32) → Int32 × SM
  | 0, k_2, x2_1, t1 => (x2_1, g, t1, gl, b, tb)
  | d_1 + 1, k_2, x2_1, t1 => (if FX3_isIn p0 (nI k_2) = 0 then FX3_layNeeds_L14 g gl b tb n z c p0 d_1 (k_2 + 1) x2_1 t1 else (if x2_1 = 0 then FX3_layNeeds_L14 g gl b tb n z c p0 d_1 (k_2 + 1) 0 (upd (upd t1 21 ((t1 21) + (tb 11 k_2))) 22 ((t1 22) + ((tb 11 k_2) * (nI (k_2 + 1))))) else (if tb 11 k_2 = (-1) then FX3_layNeeds_L14 g gl b tb n z c p0 d_1 (k_2 + 1) 0 (upd (upd t1 21 ((t1 21) + (tb 11 k_2))) 22 ((t1 22) + ((tb 11 k_2) * (nI (k_2 + 1))))) else FX3_layNeeds_L14 g gl b tb n z c p0 d_1 (k_2 + 1) 1 (upd (upd t1 21 ((t1 21) + (tb 11 k_2))) 22 ((t1 22) + ((tb 11 k_2) * (nI (k_2 + 1))))))))
def FX3_layNeeds (g : Nat → Int32) (t : Nat → Int32) (gl : Nat → Int64) (b : Nat → Nat → Int32) (tb : Nat → Nat → Int32) (n : Nat) (z : Nat) (c : Nat) (p0 : Int32) : Int32 × SM := FX3_layNeeds_L14 g gl b tb n z c p0 n 0 1 (upd (upd t 21 0) 22 0)
set_option maxHeartbeats 4000000 in
set_option maxRecDepth 100000 in
/-- the loads of a set -/
theorem c_X3_layNeeds (l : Launch) (D : va_G) (cI cB : ClassId) (ad : Nat → Nat) (g t : Nat → Int32) (gl : Nat → Int64) (b tb : Nat → Nat → Int32) (n z c : Nat) (hM : IM n z c g b) (hI : wI 20 ad) (p0 : Int32) : Met l yX3_layNeeds wsX3_layNeeds ({ frames := 1, cells := 0, slots := 0, locals := 21 }) (GPc D cI cB (wM cI cB ad g t gl b tb) [.ref (ad 0), .int p0]) (va_Qi (fun (r : Int32) (u : SM) => (r, u) = FX3_layNeeds g t gl b tb n z c p0) (fun u t => va_P D vwCl (wM cI cB ad u.1 u.2.1 u.2.2.1 u.2.2.2.1 u.2.2.2.2) t.heap) (wA 20 ad)) 0 0 (wA 20 ad) := by
  refine Met.ofW (cc := cX3_layNeeds) (maxL := 4) (ret := (some .boolean)) (by decide) rfl ?_
  intro p e s m args below meth cd s₁ B hml hv
  obtain ⟨rfl, hP, hK⟩ := hv
  have hts := atoms_spec (ws := wsX3_layNeeds) B.pre
  have E : CallFix p m cd cX3_layNeeds 4 s _ wsX3_layNeeds RX3 := ⟨B.exec, B.bytes, hml, findClass_of_methodNamed B.named, hts⟩
  have hr := B.returns
  have hlocks := B.notSynchronized
  have h2n := pow6 (n := n) (by have := hM.2.1; omega)
  obtain ⟨hn, hn6, hz, hz21, hc, hc6, hfs⟩ := id hM
  have hS : va_S (wA 20 ad) s.heap s.heap [] := va_S.rf
  have in_3 : ∀ w ∈ wsX30, w ∈ wsX3_layNeeds := fun _ h => List.mem_cons_of_mem _ (List.mem_append_right _ h)
  have w_0 : (Cond.fieldLink RX3 149 "SnowTermModel" "setLoads" "I").before _ s = true := hts _ (by decide +kernel)
  have w_1 : (Cond.fieldLink RX3 152 "SnowTermModel" "setCost" "I").before _ s = true := hts _ (by decide +kernel)
  have w_2 : (Cond.fieldLink RX3 94 "SnowTermModel" "sites" "I").before _ s = true := hts _ (by decide +kernel)
  have w_3 : (Cond.fieldLink RX3 41 "SnowTermModel" "needs" "[I").before _ s = true := hts _ (by decide +kernel)
  have hl := lv_entry ([.ref (ad 0), .int p0]) (n := 4) (Nat.le_of_ble_eq_true rfl)
  rw [lg_entry_eq]
  generalize (lg_sl ([.ref (ad 0), .int p0]) ++ List.replicate (4 - (lg_sl ([.ref (ad 0), .int p0])).length) Slot.unset).toArray = ls at hl ⊢
  have hl : lv_has ls 4 [(0, .ref (ad 0)), (1, .int p0)] := hl
  refine lv_aload_n E.1 E.2.1 dX3_layNeeds_0 rfl (lv_at hl 0 rfl) ?_
  refine lv_iconst (v := 0) E.1 E.2.1 dX3_layNeeds_1 (by decide) ?_
  refine mp_0_21 (v := 0) E hK hP in_3 w_0 hI hS dX3_layNeeds_2 (fun H locs hP hS => ?_)
  refine lv_aload_n E.1 E.2.1 dX3_layNeeds_5 rfl (lv_at hl 0 rfl) ?_
  refine lv_iconst (v := 0) E.1 E.2.1 dX3_layNeeds_6 (by decide) ?_
  refine mp_0_22 (v := 0) E hK hP in_3 w_1 hI hS dX3_layNeeds_7 (fun H locs hP hS => ?_)
  refine lv_iconst (v := 1) E.1 E.2.1 dX3_layNeeds_10 (by decide) ?_
  refine lv_istore_n (lv' := [(2, .int 1), (0, .ref (ad 0)), (1, .int p0)]) E.1 E.2.1 dX3_layNeeds_11 rfl hl (by decide) rfl (fun ls hl => ?_)
  refine lv_iconst (v := 0) E.1 E.2.1 dX3_layNeeds_12 (by decide) ?_
  refine lv_istore_n (lv' := [(3, .int 0), (2, .int 1), (0, .ref (ad 0)), (1, .int p0)]) E.1 E.2.1 dX3_layNeeds_13 rfl hl (by decide) rfl (fun ls hl => ?_)
  have loop1 : ∀ (d_1 k_2 : Nat) (x2_1 : Int32) (t1 : Nat → Int32) (H : Heap) (locs : List Loc) (ls : Array Slot), k_2 + d_1 = n → (x2_1 = 0 ∨ x2_1 = 1) → va_P D vwCl (wM cI cB ad g t1 gl b tb) H → va_S (wA 20 ad) s.heap H locs → lv_has ls 4 [(3, .int (nI k_2)), (2, .int x2_1), (0, .ref (ad 0)), (1, .int p0)] → W p l e (headSpec wsX3_layNeeds { frames := 1, cells := 0, slots := 0, locals := 21 }).room s m ([.ref (ad 0), .int p0] : List Value).toArray below meth cd H locs 0 0 (MQ below (va_Qi (fun (r : Int32) (u : SM) => (r, u) = FX3_layNeeds_L14 g gl b tb n z c p0 d_1 k_2 x2_1 t1) (fun u t => va_P D vwCl (wM cI cB ad u.1 u.2.1 u.2.2.1 u.2.2.2.1 u.2.2.2.2) t.heap) (wA 20 ad)) ([.ref (ad 0), .int p0] : List Value).toArray s 0 0 (wA 20 ad)) (F0 m 14 ls []) := by
    intro d_1
    induction d_1 with
    | zero =>
      intro k_2 x2_1 t1 H locs ls hk1 hbx2_1 hP hS hl
      refine lv_iload_n E.1 E.2.1 dX3_layNeeds_14 rfl (lv_at hl 0 rfl) ?_
      refine lv_aload_n E.1 E.2.1 dX3_layNeeds_15 rfl (lv_at hl 2 rfl) ?_
      refine mg_0_1 E hK hP in_3 w_2 dX3_layNeeds_16 ?_
      refine lv_topi (fun y_3 ey_3 => ?_)
      obtain rfl : y_3 = nI n := ey_3.trans (hn)
      refine lv_icmp_ge (x := nI k_2) (y := nI n) (tgt := 90) E.1 E.2.1 dX3_layNeeds_19 (by decide) (fun _ => ?_) (fun h9 => absurd (nI_le (a := n) (b := k_2) (by omega) (by omega)) h9)
      refine lv_iload_n E.1 E.2.1 dX3_layNeeds_90 rfl (lv_at hl 1 rfl) ?_
      exact W.zret (v := x2_1) E.1 E.2.1 hr (nar_b hbx2_1) (fun tt ht _ => ⟨⟨x2_1, (g, t1, gl, b, tb), rfl, (by rw [FX3_layNeeds_L14]), (show va_P D vwCl (wM cI cB ad g t1 gl b tb) tt.heap from by rw [ht]; exact hP)⟩, hS.F ht⟩) hS.2.2 dX3_layNeeds_91
    | succ d_1 ih1 =>
      intro k_2 x2_1 t1 H locs ls hk1 hbx2_1 hP hS hl
      refine lv_iload_n E.1 E.2.1 dX3_layNeeds_14 rfl (lv_at hl 0 rfl) ?_
      refine lv_aload_n E.1 E.2.1 dX3_layNeeds_15 rfl (lv_at hl 2 rfl) ?_
      refine mg_0_1 E hK hP in_3 w_2 dX3_layNeeds_16 ?_
      refine lv_topi (fun y_4 ey_4 => ?_)
      obtain rfl : y_4 = nI n := ey_4.trans (hn)
      refine lv_icmp_ge (x := nI k_2) (y := nI n) (tgt := 90) E.1 E.2.1 dX3_layNeeds_19 (by decide) (fun h9 => absurd h9 (nI_ge (a := k_2) (b := n) (by omega) (by omega))) (fun _ => ?_)
      refine lv_iload_n E.1 E.2.1 dX3_layNeeds_22 rfl (lv_at hl 3 rfl) ?_
      refine lv_iload_n E.1 E.2.1 dX3_layNeeds_23 rfl (lv_at hl 0 rfl) ?_
      refine g_SR (As := [.int p0, .int (nI k_2)]) (rest := []) E hK (c_X3_isIn l D cI cB p0 (nI k_2)) (va_cwS 2 E.2.2.2.2 gX3_layNeeds_X3_isIn rfl rfl rfl (by decide +kernel) ⟨Nat.le_of_ble_eq_true rfl, Nat.le_of_ble_eq_true rfl⟩) rfl hl.1 rfl (Nat.le_of_ble_eq_true rfl) dX3_layNeeds_24 ⟨Nat.zero_le _, Nat.zero_le _⟩ ?_
      refine lv_if_eq (x := FX3_isIn p0 (nI k_2)) (tgt := 84) E.1 E.2.1 dX3_layNeeds_27 (by decide) (fun h27 => ?_) (fun h27 => ?_)
      · have h27 := h27
        refine lv_iinc (v := nI (k_2 + 1)) (k := 0) (lv' := [(3, .int (nI (k_2 + 1))), (2, .int x2_1), (0, .ref (ad 0)), (1, .int p0)]) E.1 E.2.1 dX3_layNeeds_84 hl rfl (nI_1 k_2) (by decide) rfl (fun ls hl => ?_)
        refine lv_goto (tgt := 14) E.1 E.2.1 dX3_layNeeds_87 (by decide) ?_
        rw [show FX3_layNeeds_L14 g gl b tb n z c p0 (d_1 + 1) k_2 x2_1 t1 = FX3_layNeeds_L14 g gl b tb n z c p0 d_1 (k_2 + 1) x2_1 t1 from by rw [FX3_layNeeds_L14, if_pos h27]]
        exact ih1 (k_2 + 1) x2_1 t1 _ _ ls (by omega) hbx2_1 hP hS (lv_sub hl [0, 1, 2, 3] rfl)
      · have h27 := h27
        refine lv_iload_n E.1 E.2.1 dX3_layNeeds_30 rfl (lv_at hl 1 rfl) ?_
        refine lv_if_eq (x := x2_1) (tgt := 48) E.1 E.2.1 dX3_layNeeds_31 (by decide) (fun h31 => ?_) (fun h31 => ?_)
        · have h31 := h31
          refine lv_iconst (v := 0) E.1 E.2.1 dX3_layNeeds_48 (by decide) ?_
          refine lv_istore_n (lv' := [(2, .int 0), (3, .int (nI k_2)), (0, .ref (ad 0)), (1, .int p0)]) E.1 E.2.1 dX3_layNeeds_49 rfl hl (by decide) rfl (fun ls hl => ?_)
          refine lv_aload_n E.1 E.2.1 dX3_layNeeds_50 rfl (lv_at hl 2 rfl) ?_
          refine lv_dup E.1 E.2.1 dX3_layNeeds_51 rfl ?_
          refine mg_0_21 E hK hP in_3 w_0 dX3_layNeeds_52 ?_
          refine lv_aload_n E.1 E.2.1 dX3_layNeeds_55 rfl (lv_at hl 2 rfl) ?_
          refine mg_0_20 E hK hP in_3 w_3 dX3_layNeeds_56 ?_
          refine lv_iload_n E.1 E.2.1 dX3_layNeeds_59 rfl (lv_at hl 1 rfl) ?_
          refine ml_11 (i := nI k_2) E hK hP (vp_in_nI (by omega) (by omega)) dX3_layNeeds_60 ?_
          refine lv_topi (fun y_5 ey_5 => ?_)
          obtain rfl : y_5 = tb 11 k_2 := ey_5.trans (by rw [nI_clamp (show k_2 < 2 ^ 31 by omega)] <;> rfl)
          refine lv_iadd (x := t1 21) (y := tb 11 k_2) E.1 E.2.1 dX3_layNeeds_61 ?_
          refine mp_0_21 (v := (t1 21) + (tb 11 k_2)) E hK hP in_3 w_0 hI hS dX3_layNeeds_62 (fun H locs hP hS => ?_)
          refine lv_aload_n E.1 E.2.1 dX3_layNeeds_65 rfl (lv_at hl 2 rfl) ?_
          refine lv_dup E.1 E.2.1 dX3_layNeeds_66 rfl ?_
          refine mg_0_22 E hK hP in_3 w_1 dX3_layNeeds_67 ?_
          refine lv_topi (fun y_6 ey_6 => ?_)
          obtain rfl : y_6 = t1 22 := ey_6.trans (rfl)
          refine lv_aload_n E.1 E.2.1 dX3_layNeeds_70 rfl (lv_at hl 2 rfl) ?_
          refine mg_0_20 E hK hP in_3 w_3 dX3_layNeeds_71 ?_
          refine lv_iload_n E.1 E.2.1 dX3_layNeeds_74 rfl (lv_at hl 1 rfl) ?_
          refine ml_11 (i := nI k_2) E hK hP (vp_in_nI (by omega) (by omega)) dX3_layNeeds_75 ?_
          refine lv_topi (fun y_7 ey_7 => ?_)
          obtain rfl : y_7 = tb 11 k_2 := ey_7.trans (by rw [nI_clamp (show k_2 < 2 ^ 31 by omega)] <;> rfl)
          refine lv_iload_n E.1 E.2.1 dX3_layNeeds_76 rfl (lv_at hl 1 rfl) ?_
          refine lv_iconst (v := 1) E.1 E.2.1 dX3_layNeeds_77 (by decide) ?_
          refine lv_iadd (x := nI k_2) (y := 1) E.1 E.2.1 dX3_layNeeds_78 ?_
          refine lv_topi (fun y_8 ey_8 => ?_)
          obtain rfl : y_8 = nI (k_2 + 1) := ey_8.trans (nI_1 k_2)
          refine lv_imul (x := tb 11 k_2) (y := nI (k_2 + 1)) E.1 E.2.1 dX3_layNeeds_79 ?_
          refine lv_iadd (x := t1 22) (y := (tb 11 k_2) * (nI (k_2 + 1))) E.1 E.2.1 dX3_layNeeds_80 ?_
          refine mp_0_22 (v := (t1 22) + ((tb 11 k_2) * (nI (k_2 + 1)))) E hK hP in_3 w_1 hI hS dX3_layNeeds_81 (fun H locs hP hS => ?_)
          refine lv_iinc (v := nI (k_2 + 1)) (k := 1) (lv' := [(3, .int (nI (k_2 + 1))), (2, .int 0), (0, .ref (ad 0)), (1, .int p0)]) E.1 E.2.1 dX3_layNeeds_84 hl rfl (nI_1 k_2) (by decide) rfl (fun ls hl => ?_)
          refine lv_goto (tgt := 14) E.1 E.2.1 dX3_layNeeds_87 (by decide) ?_
          rw [show FX3_layNeeds_L14 g gl b tb n z c p0 (d_1 + 1) k_2 x2_1 t1 = FX3_layNeeds_L14 g gl b tb n z c p0 d_1 (k_2 + 1) 0 (upd (upd t1 21 ((t1 21) + (tb 11 k_2))) 22 ((t1 22) + ((tb 11 k_2) * (nI (k_2 + 1))))) from by rw [FX3_layNeeds_L14, if_neg h27, if_pos h31]]
          exact ih1 (k_2 + 1) 0 (upd (upd t1 21 ((t1 21) + (tb 11 k_2))) 22 ((t1 22) + ((tb 11 k_2) * (nI (k_2 + 1))))) _ _ ls (by omega) (Or.inl rfl) hP hS (lv_sub hl [0, 1, 2, 3] rfl)
        · have h31 := h31
          refine lv_aload_n E.1 E.2.1 dX3_layNeeds_34 rfl (lv_at hl 2 rfl) ?_
          refine mg_0_20 E hK hP in_3 w_3 dX3_layNeeds_35 ?_
          refine lv_iload_n E.1 E.2.1 dX3_layNeeds_38 rfl (lv_at hl 0 rfl) ?_
          refine ml_11 (i := nI k_2) E hK hP (vp_in_nI (by omega) (by omega)) dX3_layNeeds_39 ?_
          refine lv_topi (fun y_9 ey_9 => ?_)
          obtain rfl : y_9 = tb 11 k_2 := ey_9.trans (by rw [nI_clamp (show k_2 < 2 ^ 31 by omega)] <;> rfl)
          refine lv_iconst (v := (-1)) E.1 E.2.1 dX3_layNeeds_40 (by decide) ?_
          refine lv_icmp_eq (x := tb 11 k_2) (y := (-1)) (tgt := 48) E.1 E.2.1 dX3_layNeeds_41 (by decide) (fun h41 => ?_) (fun h41 => ?_)
          · have h41 := h41
            refine lv_iconst (v := 0) E.1 E.2.1 dX3_layNeeds_48 (by decide) ?_
            refine lv_istore_n (lv' := [(2, .int 0), (3, .int (nI k_2)), (0, .ref (ad 0)), (1, .int p0)]) E.1 E.2.1 dX3_layNeeds_49 rfl hl (by decide) rfl (fun ls hl => ?_)
            refine lv_aload_n E.1 E.2.1 dX3_layNeeds_50 rfl (lv_at hl 2 rfl) ?_
            refine lv_dup E.1 E.2.1 dX3_layNeeds_51 rfl ?_
            refine mg_0_21 E hK hP in_3 w_0 dX3_layNeeds_52 ?_
            refine lv_aload_n E.1 E.2.1 dX3_layNeeds_55 rfl (lv_at hl 2 rfl) ?_
            refine mg_0_20 E hK hP in_3 w_3 dX3_layNeeds_56 ?_
            refine lv_iload_n E.1 E.2.1 dX3_layNeeds_59 rfl (lv_at hl 1 rfl) ?_
            refine ml_11 (i := nI k_2) E hK hP (vp_in_nI (by omega) (by omega)) dX3_layNeeds_60 ?_
            refine lv_topi (fun y_10 ey_10 => ?_)
            obtain rfl : y_10 = tb 11 k_2 := ey_10.trans (by rw [nI_clamp (show k_2 < 2 ^ 31 by omega)] <;> rfl)
            refine lv_iadd (x := t1 21) (y := tb 11 k_2) E.1 E.2.1 dX3_layNeeds_61 ?_
            refine mp_0_21 (v := (t1 21) + (tb 11 k_2)) E hK hP in_3 w_0 hI hS dX3_layNeeds_62 (fun H locs hP hS => ?_)
            refine lv_aload_n E.1 E.2.1 dX3_layNeeds_65 rfl (lv_at hl 2 rfl) ?_
            refine lv_dup E.1 E.2.1 dX3_layNeeds_66 rfl ?_
            refine mg_0_22 E hK hP in_3 w_1 dX3_layNeeds_67 ?_
            refine lv_topi (fun y_11 ey_11 => ?_)
            obtain rfl : y_11 = t1 22 := ey_11.trans (rfl)
            refine lv_aload_n E.1 E.2.1 dX3_layNeeds_70 rfl (lv_at hl 2 rfl) ?_
            refine mg_0_20 E hK hP in_3 w_3 dX3_layNeeds_71 ?_
            refine lv_iload_n E.1 E.2.1 dX3_layNeeds_74 rfl (lv_at hl 1 rfl) ?_
            refine ml_11 (i := nI k_2) E hK hP (vp_in_nI (by omega) (by omega)) dX3_layNeeds_75 ?_
            refine lv_topi (fun y_12 ey_12 => ?_)
            obtain rfl : y_12 = tb 11 k_2 := ey_12.trans (by rw [nI_clamp (show k_2 < 2 ^ 31 by omega)] <;> rfl)
            refine lv_iload_n E.1 E.2.1 dX3_layNeeds_76 rfl (lv_at hl 1 rfl) ?_
            refine lv_iconst (v := 1) E.1 E.2.1 dX3_layNeeds_77 (by decide) ?_
            refine lv_iadd (x := nI k_2) (y := 1) E.1 E.2.1 dX3_layNeeds_78 ?_
            refine lv_topi (fun y_13 ey_13 => ?_)
            obtain rfl : y_13 = nI (k_2 + 1) := ey_13.trans (nI_1 k_2)
            refine lv_imul (x := tb 11 k_2) (y := nI (k_2 + 1)) E.1 E.2.1 dX3_layNeeds_79 ?_
            refine lv_iadd (x := t1 22) (y := (tb 11 k_2) * (nI (k_2 + 1))) E.1 E.2.1 dX3_layNeeds_80 ?_
            refine mp_0_22 (v := (t1 22) + ((tb 11 k_2) * (nI (k_2 + 1)))) E hK hP in_3 w_1 hI hS dX3_layNeeds_81 (fun H locs hP hS => ?_)
            refine lv_iinc (v := nI (k_2 + 1)) (k := 1) (lv' := [(3, .int (nI (k_2 + 1))), (2, .int 0), (0, .ref (ad 0)), (1, .int p0)]) E.1 E.2.1 dX3_layNeeds_84 hl rfl (nI_1 k_2) (by decide) rfl (fun ls hl => ?_)
            refine lv_goto (tgt := 14) E.1 E.2.1 dX3_layNeeds_87 (by decide) ?_
            rw [show FX3_layNeeds_L14 g gl b tb n z c p0 (d_1 + 1) k_2 x2_1 t1 = FX3_layNeeds_L14 g gl b tb n z c p0 d_1 (k_2 + 1) 0 (upd (upd t1 21 ((t1 21) + (tb 11 k_2))) 22 ((t1 22) + ((tb 11 k_2) * (nI (k_2 + 1))))) from by rw [FX3_layNeeds_L14, if_neg h27, if_neg h31, if_pos h41]]
            exact ih1 (k_2 + 1) 0 (upd (upd t1 21 ((t1 21) + (tb 11 k_2))) 22 ((t1 22) + ((tb 11 k_2) * (nI (k_2 + 1))))) _ _ ls (by omega) (Or.inl rfl) hP hS (lv_sub hl [0, 1, 2, 3] rfl)
          · have h41 := h41
            refine lv_iconst (v := 1) E.1 E.2.1 dX3_layNeeds_44 (by decide) ?_
            refine lv_goto (tgt := 49) E.1 E.2.1 dX3_layNeeds_45 (by decide) ?_
            refine lv_istore_n (lv' := [(2, .int 1), (3, .int (nI k_2)), (0, .ref (ad 0)), (1, .int p0)]) E.1 E.2.1 dX3_layNeeds_49 rfl hl (by decide) rfl (fun ls hl => ?_)
            refine lv_aload_n E.1 E.2.1 dX3_layNeeds_50 rfl (lv_at hl 2 rfl) ?_
            refine lv_dup E.1 E.2.1 dX3_layNeeds_51 rfl ?_
            refine mg_0_21 E hK hP in_3 w_0 dX3_layNeeds_52 ?_
            refine lv_aload_n E.1 E.2.1 dX3_layNeeds_55 rfl (lv_at hl 2 rfl) ?_
            refine mg_0_20 E hK hP in_3 w_3 dX3_layNeeds_56 ?_
            refine lv_iload_n E.1 E.2.1 dX3_layNeeds_59 rfl (lv_at hl 1 rfl) ?_
            refine ml_11 (i := nI k_2) E hK hP (vp_in_nI (by omega) (by omega)) dX3_layNeeds_60 ?_
            refine lv_topi (fun y_14 ey_14 => ?_)
            obtain rfl : y_14 = tb 11 k_2 := ey_14.trans (by rw [nI_clamp (show k_2 < 2 ^ 31 by omega)] <;> rfl)
            refine lv_iadd (x := t1 21) (y := tb 11 k_2) E.1 E.2.1 dX3_layNeeds_61 ?_
            refine mp_0_21 (v := (t1 21) + (tb 11 k_2)) E hK hP in_3 w_0 hI hS dX3_layNeeds_62 (fun H locs hP hS => ?_)
            refine lv_aload_n E.1 E.2.1 dX3_layNeeds_65 rfl (lv_at hl 2 rfl) ?_
            refine lv_dup E.1 E.2.1 dX3_layNeeds_66 rfl ?_
            refine mg_0_22 E hK hP in_3 w_1 dX3_layNeeds_67 ?_
            refine lv_topi (fun y_15 ey_15 => ?_)
            obtain rfl : y_15 = t1 22 := ey_15.trans (rfl)
            refine lv_aload_n E.1 E.2.1 dX3_layNeeds_70 rfl (lv_at hl 2 rfl) ?_
            refine mg_0_20 E hK hP in_3 w_3 dX3_layNeeds_71 ?_
            refine lv_iload_n E.1 E.2.1 dX3_layNeeds_74 rfl (lv_at hl 1 rfl) ?_
            refine ml_11 (i := nI k_2) E hK hP (vp_in_nI (by omega) (by omega)) dX3_layNeeds_75 ?_
            refine lv_topi (fun y_16 ey_16 => ?_)
            obtain rfl : y_16 = tb 11 k_2 := ey_16.trans (by rw [nI_clamp (show k_2 < 2 ^ 31 by omega)] <;> rfl)
            refine lv_iload_n E.1 E.2.1 dX3_layNeeds_76 rfl (lv_at hl 1 rfl) ?_
            refine lv_iconst (v := 1) E.1 E.2.1 dX3_layNeeds_77 (by decide) ?_
            refine lv_iadd (x := nI k_2) (y := 1) E.1 E.2.1 dX3_layNeeds_78 ?_
            refine lv_topi (fun y_17 ey_17 => ?_)
            obtain rfl : y_17 = nI (k_2 + 1) := ey_17.trans (nI_1 k_2)
            refine lv_imul (x := tb 11 k_2) (y := nI (k_2 + 1)) E.1 E.2.1 dX3_layNeeds_79 ?_
            refine lv_iadd (x := t1 22) (y := (tb 11 k_2) * (nI (k_2 + 1))) E.1 E.2.1 dX3_layNeeds_80 ?_
            refine mp_0_22 (v := (t1 22) + ((tb 11 k_2) * (nI (k_2 + 1)))) E hK hP in_3 w_1 hI hS dX3_layNeeds_81 (fun H locs hP hS => ?_)
            refine lv_iinc (v := nI (k_2 + 1)) (k := 1) (lv' := [(3, .int (nI (k_2 + 1))), (2, .int 1), (0, .ref (ad 0)), (1, .int p0)]) E.1 E.2.1 dX3_layNeeds_84 hl rfl (nI_1 k_2) (by decide) rfl (fun ls hl => ?_)
            refine lv_goto (tgt := 14) E.1 E.2.1 dX3_layNeeds_87 (by decide) ?_
            rw [show FX3_layNeeds_L14 g gl b tb n z c p0 (d_1 + 1) k_2 x2_1 t1 = FX3_layNeeds_L14 g gl b tb n z c p0 d_1 (k_2 + 1) 1 (upd (upd t1 21 ((t1 21) + (tb 11 k_2))) 22 ((t1 22) + ((tb 11 k_2) * (nI (k_2 + 1))))) from by rw [FX3_layNeeds_L14, if_neg h27, if_neg h31, if_neg h41]]
            exact ih1 (k_2 + 1) 1 (upd (upd t1 21 ((t1 21) + (tb 11 k_2))) 22 ((t1 22) + ((tb 11 k_2) * (nI (k_2 + 1))))) _ _ ls (by omega) (Or.inr rfl) hP hS (lv_sub hl [0, 1, 2, 3] rfl)
  rw [show FX3_layNeeds g t gl b tb n z c p0 = FX3_layNeeds_L14 g gl b tb n z c p0 n 0 1 (upd (upd t 21 0) 22 0) from by rw [FX3_layNeeds]]
  have hl : lv_has ls 4 [(3, .int (nI 0)), (2, .int 1), (0, .ref (ad 0)), (1, .int p0)] := lv_sub hl [0, 1, 2, 3] rfl
  exact loop1 _ _ 1 (upd (upd t 21 0) 22 0) _ _ ls (by omega) (Or.inr rfl) hP hS (lv_sub hl [0, 1, 2, 3] rfl)
theorem kp_lay_L (g : Nat → Int32) (gl : Nat → Int64) (b tb : Nat → Nat → Int32) (n z c : Nat) (p0 : Int32) : ∀ (d k : Nat) (x : Int32) (t : Nat → Int32), Kq g gl b tb (FX3_layNeeds_L14 g gl b tb n z c p0 d k x t) := by
  intro d
  induction d with
  | zero => intro k x t; exact ⟨rfl, rfl, rfl, rfl⟩
  | succ d ih =>
    intro k x t
    rw [FX3_layNeeds_L14]
    repeat' first | refine ite_P (P := Kq g gl b tb) (fun _ => ?_) (fun _ => ?_) | exact ih _ _ _
theorem kp_lay_g (g t : Nat → Int32) (gl : Nat → Int64) (b tb : Nat → Nat → Int32) (n z c : Nat) (p0 : Int32) : (FX3_layNeeds g t gl b tb n z c p0).2.1 = g := (kp_lay_L g gl b tb n z c p0 n 0 1 _).1
theorem kp_lay_gl (g t : Nat → Int32) (gl : Nat → Int64) (b tb : Nat → Nat → Int32) (n z c : Nat) (p0 : Int32) : (FX3_layNeeds g t gl b tb n z c p0).2.2.2.1 = gl := (kp_lay_L g gl b tb n z c p0 n 0 1 _).2.1
theorem kp_lay_b (g t : Nat → Int32) (gl : Nat → Int64) (b tb : Nat → Nat → Int32) (n z c : Nat) (p0 : Int32) : (FX3_layNeeds g t gl b tb n z c p0).2.2.2.2.1 = b := (kp_lay_L g gl b tb n z c p0 n 0 1 _).2.2.1
theorem kp_lay_tb (g t : Nat → Int32) (gl : Nat → Int64) (b tb : Nat → Nat → Int32) (n z c : Nat) (p0 : Int32) : (FX3_layNeeds g t gl b tb n z c p0).2.2.2.2.2 = tb := (kp_lay_L g gl b tb n z c p0 n 0 1 _).2.2.2

def FX3_planNow_L41 (g : Nat → Int32) (gl : Nat → Int64) (b : Nat → Nat → Int32) (n : Nat) (z : Nat) (c : Nat) (p0 : Int32) (p1 : Nat) (p2 : Int32) : Nat → Nat → Int32 → Int32 → (Nat → Int32) → (Nat → Nat → Int32) → Int32 × SM
  | 0, k_5, x4_4, x5_4, t4, tb4 => (if p2 = 0 then (FX3_size x4_4, g, (FX3_layNeeds g t4 gl b tb4 n z c x4_4).2.2.1, gl, b, tb4) else (if p2 = 1 then (x4_4, g, (FX3_layNeeds g t4 gl b tb4 n z c x4_4).2.2.1, gl, b, tb4) else (if p2 = 2 then (((FX3_layNeeds g t4 gl b tb4 n z c x4_4).2.2.1) 21, g, (FX3_layNeeds g t4 gl b tb4 n z c x4_4).2.2.1, gl, b, tb4) else (((FX3_layNeeds g t4 gl b tb4 n z c x4_4).2.2.1) 22, g, (FX3_layNeeds g t4 gl b tb4 n z c x4_4).2.2.1, gl, b, tb4))))
  | d_4 + 1, k_5, x4_4, x5_4, t4, tb4 => (if (FX3_layNeeds g t4 gl b tb4 n z c (nI k_5)).1 = 0 then (if FX3_size x4_4 < FX3_size (nI k_5) then FX3_planNow_L41 g gl b n z c p0 p1 p2 d_4 (k_5 + 1) x4_4 x5_4 ((FX3_layNeeds g t4 gl b tb4 n z c (nI k_5)).2.2.1) tb4 else (if FX3_size (nI k_5) = FX3_size x4_4 then (if x5_4 ≤ ((FX3_layNeeds g t4 gl b tb4 n z c (nI k_5)).2.2.1) 22 then FX3_planNow_L41 g gl b n z c p0 p1 p2 d_4 (k_5 + 1) x4_4 x5_4 ((FX3_layNeeds g t4 gl b tb4 n z c (nI k_5)).2.2.1) tb4 else FX3_planNow_L41 g gl b n z c p0 p1 p2 d_4 (k_5 + 1) x4_4 x5_4 ((FX3_layNeeds g t4 gl b tb4 n z c (nI k_5)).2.2.1) tb4) else FX3_planNow_L41 g gl b n z c p0 p1 p2 d_4 (k_5 + 1) x4_4 x5_4 ((FX3_layNeeds g t4 gl b tb4 n z c (nI k_5)).2.2.1) tb4)) else (if p0 < ((FX3_layNeeds g t4 gl b tb4 n z c (nI k_5)).2.2.1) 21 then (if FX3_size x4_4 < FX3_size (nI k_5) then FX3_planNow_L41 g gl b n z c p0 p1 p2 d_4 (k_5 + 1) x4_4 x5_4 ((FX3_layNeeds g t4 gl b tb4 n z c (nI k_5)).2.2.1) tb4 else (if FX3_size (nI k_5) = FX3_size x4_4 then (if x5_4 ≤ ((FX3_layNeeds g t4 gl b tb4 n z c (nI k_5)).2.2.1) 22 then FX3_planNow_L41 g gl b n z c p0 p1 p2 d_4 (k_5 + 1) x4_4 x5_4 ((FX3_layNeeds g t4 gl b tb4 n z c (nI k_5)).2.2.1) tb4 else FX3_planNow_L41 g gl b n z c p0 p1 p2 d_4 (k_5 + 1) x4_4 x5_4 ((FX3_layNeeds g t4 gl b tb4 n z c (nI k_5)).2.2.1) tb4) else FX3_planNow_L41 g gl b n z c p0 p1 p2 d_4 (k_5 + 1) x4_4 x5_4 ((FX3_layNeeds g t4 gl b tb4 n z c (nI k_5)).2.2.1) tb4)) else (if FX3_size x4_4 < FX3_size (nI k_5) then FX3_planNow_L41 g gl b n z c p0 p1 p2 d_4 (k_5 + 1) (nI k_5) (((FX3_layNeeds g t4 gl b tb4 n z c (nI k_5)).2.2.1) 22) ((FX3_layNeeds g t4 gl b tb4 n z c (nI k_5)).2.2.1) tb4 else (if FX3_size (nI k_5) = FX3_size x4_4 then (if x5_4 ≤ ((FX3_layNeeds g t4 gl b tb4 n z c (nI k_5)).2.2.1) 22 then FX3_planNow_L41 g gl b n z c p0 p1 p2 d_4 (k_5 + 1) x4_4 x5_4 ((FX3_layNeeds g t4 gl b tb4 n z c (nI k_5)).2.2.1) tb4 else FX3_planNow_L41 g gl b n z c p0 p1 p2 d_4 (k_5 + 1) (nI k_5) (((FX3_layNeeds g t4 gl b tb4 n z c (nI k_5)).2.2.1) 22) ((FX3_layNeeds g t4 gl b tb4 n z c (nI k_5)).2.2.1) tb4) else FX3_planNow_L41 g gl b n z c p0 p1 p2 d_4 (k_5 + 1) x4_4 x5_4 ((FX3_layNeeds g t4 gl b tb4 n z c (nI k_5)).2.2.1) tb4))))
def FX3_planNow_L3 (g : Nat → Int32) (t : Nat → Int32) (gl : Nat → Int64) (b : Nat → Nat → Int32) (n : Nat) (z : Nat) (c : Nat) (p0 : Int32) (p1 : Nat) (p2 : Int32) : Nat → Nat → (Nat → Nat → Int32) → Int32 × SM
  | 0, k_2, tb1 => FX3_planNow_L41 g gl b n z c p0 p1 p2 (2 ^ n) 0 0 0 t tb1
  | d_1 + 1, k_2, tb1 => FX3_planNow_L3 g t gl b n z c p0 p1 p2 d_1 (k_2 + 1) (uA tb1 11 (upd (tb1 11) k_2 (FX3_needOf g b tb1 n z c (nI k_2) p1)))
def FX3_planNow (g : Nat → Int32) (t : Nat → Int32) (gl : Nat → Int64) (b : Nat → Nat → Int32) (tb : Nat → Nat → Int32) (n : Nat) (z : Nat) (c : Nat) (p0 : Int32) (p1 : Nat) (p2 : Int32) : Int32 × SM := FX3_planNow_L3 g t gl b n z c p0 p1 p2 n 0 tb
set_option maxHeartbeats 4000000 in
set_option maxRecDepth 100000 in
/-- the best set -/
theorem c_X3_planNow (l : Launch) (D : va_G) (cI cB : ClassId) (ad : Nat → Nat) (g t : Nat → Int32) (gl : Nat → Int64) (b tb : Nat → Nat → Int32) (n z c : Nat) (hM : IM n z c g b) (hI : wI 20 ad) (p0 : Int32) (p1 : Nat) (p2 : Int32) (hq : p1 < 2 ^ 31) : Met l yX3_planNow wsX3_planNow ({ frames := 4, cells := 0, slots := 0, locals := 92 }) (GPc D cI cB (wM cI cB ad g t gl b tb) [.ref (ad 0), .int p0, .int (nI p1), .int p2]) (va_Qi (fun (r : Int32) (u : SM) => (r, u) = FX3_planNow g t gl b tb n z c p0 p1 p2) (fun u t => va_P D vwCl (wM cI cB ad u.1 u.2.1 u.2.2.1 u.2.2.2.1 u.2.2.2.2) t.heap) (wA 20 ad)) 0 0 (wA 20 ad) := by
  refine Met.ofW (cc := cX3_planNow) (maxL := 9) (ret := (some .int)) (by decide) rfl ?_
  intro p e s m args below meth cd s₁ B hml hv
  obtain ⟨rfl, hP, hK⟩ := hv
  have hts := atoms_spec (ws := wsX3_planNow) B.pre
  have E : CallFix p m cd cX3_planNow 9 s _ wsX3_planNow RX3 := ⟨B.exec, B.bytes, hml, findClass_of_methodNamed B.named, hts⟩
  have hr := B.returns
  have hlocks := B.notSynchronized
  have h2n := pow6 (n := n) (by have := hM.2.1; omega)
  obtain ⟨hn, hn6, hz, hz21, hc, hc6, hfs⟩ := id hM
  have hS : va_S (wA 20 ad) s.heap s.heap [] := va_S.rf
  have in_3 : ∀ w ∈ wsX30, w ∈ wsX3_planNow := fun _ h => List.mem_cons_of_mem _ (List.mem_append_right _ h)
  have w_0 : (Cond.fieldLink RX3 94 "SnowTermModel" "sites" "I").before _ s = true := hts _ (by decide +kernel)
  have w_1 : (Cond.fieldLink RX3 152 "SnowTermModel" "setCost" "I").before _ s = true := hts _ (by decide +kernel)
  have w_2 : (Cond.fieldLink RX3 149 "SnowTermModel" "setLoads" "I").before _ s = true := hts _ (by decide +kernel)
  have w_3 : (Cond.fieldLink RX3 41 "SnowTermModel" "needs" "[I").before _ s = true := hts _ (by decide +kernel)
  have hl := lv_entry ([.ref (ad 0), .int p0, .int (nI p1), .int p2]) (n := 9) (Nat.le_of_ble_eq_true rfl)
  rw [lg_entry_eq]
  generalize (lg_sl ([.ref (ad 0), .int p0, .int (nI p1), .int p2]) ++ List.replicate (9 - (lg_sl ([.ref (ad 0), .int p0, .int (nI p1), .int p2])).length) Slot.unset).toArray = ls at hl ⊢
  have hl : lv_has ls 9 [(0, .ref (ad 0)), (1, .int p0), (2, .int (nI p1)), (3, .int p2)] := hl
  refine lv_iconst (v := 0) E.1 E.2.1 dX3_planNow_0 (by decide) ?_
  refine lv_istore (lv' := [(4, .int 0), (0, .ref (ad 0)), (1, .int p0), (2, .int (nI p1)), (3, .int p2)]) E.1 E.2.1 dX3_planNow_1 hl (by decide) rfl (fun ls hl => ?_)
  have loop1 : ∀ (d_1 k_2 : Nat) (tb1 : Nat → Nat → Int32) (H : Heap) (locs : List Loc) (ls : Array Slot), k_2 + d_1 = n → va_P D vwCl (wM cI cB ad g t gl b tb1) H → va_S (wA 20 ad) s.heap H locs → lv_has ls 9 [(4, .int (nI k_2)), (0, .ref (ad 0)), (1, .int p0), (2, .int (nI p1)), (3, .int p2)] → W p l e (headSpec wsX3_planNow { frames := 4, cells := 0, slots := 0, locals := 92 }).room s m ([.ref (ad 0), .int p0, .int (nI p1), .int p2] : List Value).toArray below meth cd H locs 0 0 (MQ below (va_Qi (fun (r : Int32) (u : SM) => (r, u) = FX3_planNow_L3 g t gl b n z c p0 p1 p2 d_1 k_2 tb1) (fun u t => va_P D vwCl (wM cI cB ad u.1 u.2.1 u.2.2.1 u.2.2.2.1 u.2.2.2.2) t.heap) (wA 20 ad)) ([.ref (ad 0), .int p0, .int (nI p1), .int p2] : List Value).toArray s 0 0 (wA 20 ad)) (F0 m 3 ls []) := by
    intro d_1
    induction d_1 with
    | zero =>
      intro k_2 tb1 H locs ls hk1 hP hS hl
      refine lv_iload E.1 E.2.1 dX3_planNow_3 (lv_at hl 0 rfl) ?_
      refine lv_aload_n E.1 E.2.1 dX3_planNow_5 rfl (lv_at hl 1 rfl) ?_
      refine mg_0_1 E hK hP in_3 w_0 dX3_planNow_6 ?_
      refine lv_topi (fun y_3 ey_3 => ?_)
      obtain rfl : y_3 = nI n := ey_3.trans (hn)
      refine lv_icmp_ge (x := nI k_2) (y := nI n) (tgt := 32) E.1 E.2.1 dX3_planNow_9 (by decide) (fun _ => ?_) (fun h9 => absurd (nI_le (a := n) (b := k_2) (by omega) (by omega)) h9)
      refine lv_iconst (v := 0) E.1 E.2.1 dX3_planNow_32 (by decide) ?_
      refine lv_istore (lv' := [(4, .int 0), (0, .ref (ad 0)), (1, .int p0), (2, .int (nI p1)), (3, .int p2)]) E.1 E.2.1 dX3_planNow_33 hl (by decide) rfl (fun ls hl => ?_)
      refine lv_iconst (v := 0) E.1 E.2.1 dX3_planNow_35 (by decide) ?_
      refine lv_istore (lv' := [(5, .int 0), (4, .int 0), (0, .ref (ad 0)), (1, .int p0), (2, .int (nI p1)), (3, .int p2)]) E.1 E.2.1 dX3_planNow_36 hl (by decide) rfl (fun ls hl => ?_)
      refine lv_iconst (v := 0) E.1 E.2.1 dX3_planNow_38 (by decide) ?_
      refine lv_istore (lv' := [(6, .int 0), (5, .int 0), (4, .int 0), (0, .ref (ad 0)), (1, .int p0), (2, .int (nI p1)), (3, .int p2)]) E.1 E.2.1 dX3_planNow_39 hl (by decide) rfl (fun ls hl => ?_)
      have loop4 : ∀ (d_4 k_5 : Nat) (x4_4 : Int32) (x5_4 : Int32) (t4 : Nat → Int32) (tb4 : Nat → Nat → Int32) (H : Heap) (locs : List Loc) (ls : Array Slot), k_5 + d_4 = 2 ^ n → va_P D vwCl (wM cI cB ad g t4 gl b tb4) H → va_S (wA 20 ad) s.heap H locs → lv_has ls 9 [(6, .int (nI k_5)), (4, .int x4_4), (5, .int x5_4), (0, .ref (ad 0)), (1, .int p0), (2, .int (nI p1)), (3, .int p2)] → W p l e (headSpec wsX3_planNow { frames := 4, cells := 0, slots := 0, locals := 92 }).room s m ([.ref (ad 0), .int p0, .int (nI p1), .int p2] : List Value).toArray below meth cd H locs 0 0 (MQ below (va_Qi (fun (r : Int32) (u : SM) => (r, u) = FX3_planNow_L41 g gl b n z c p0 p1 p2 d_4 k_5 x4_4 x5_4 t4 tb4) (fun u t => va_P D vwCl (wM cI cB ad u.1 u.2.1 u.2.2.1 u.2.2.2.1 u.2.2.2.2) t.heap) (wA 20 ad)) ([.ref (ad 0), .int p0, .int (nI p1), .int p2] : List Value).toArray s 0 0 (wA 20 ad)) (F0 m 41 ls []) := by
        intro d_4
        induction d_4 with
        | zero =>
          intro k_5 x4_4 x5_4 t4 tb4 H locs ls hk4 hP hS hl
          refine lv_iload E.1 E.2.1 dX3_planNow_41 (lv_at hl 0 rfl) ?_
          refine lv_iconst (v := 1) E.1 E.2.1 dX3_planNow_43 (by decide) ?_
          refine lv_aload_n E.1 E.2.1 dX3_planNow_44 rfl (lv_at hl 3 rfl) ?_
          refine mg_0_1 E hK hP in_3 w_0 dX3_planNow_45 ?_
          refine lv_topi (fun y_6 ey_6 => ?_)
          obtain rfl : y_6 = nI n := ey_6.trans (hn)
          refine lv_ishl (x := 1) (y := nI n) E.1 E.2.1 dX3_planNow_48 ?_
          refine lv_topi (fun y_7 ey_7 => ?_)
          obtain rfl : y_7 = nI (2 ^ n) := ey_7.trans (shl_n hn6)
          refine lv_icmp_ge (x := nI k_5) (y := nI (2 ^ n)) (tgt := 144) E.1 E.2.1 dX3_planNow_49 (by decide) (fun _ => ?_) (fun h9 => absurd (nI_le (a := (2 ^ n)) (b := k_5) (by omega) (by omega)) h9)
          refine lv_aload_n E.1 E.2.1 dX3_planNow_144 rfl (lv_at hl 3 rfl) ?_
          refine lv_iload E.1 E.2.1 dX3_planNow_145 (lv_at hl 1 rfl) ?_
          refine g_VWi (As := [.int x4_4]) (rest := []) E hK hP hS (fun q h => h) (c_X3_layNeeds l D cI cB ad g t4 gl b tb4 n z c hM hI x4_4) (cwV 1 E.2.2.2.2 gX3_planNow_X3_layNeeds rfl rfl rfl (by decide +kernel) ⟨Nat.le_of_ble_eq_true rfl, Nat.le_of_ble_eq_true rfl⟩) (rm0x hK hP) rfl hl.1 rfl (Nat.le_of_ble_eq_true rfl) dX3_planNow_147 ⟨Nat.zero_le _, Nat.zero_le _⟩ (fun r_9 u_8 H1 locs hp_10 hP1 hq_11 hS => ?_)
          obtain rfl : r_9 = (FX3_layNeeds g t4 gl b tb4 n z c x4_4).1 := congrArg Prod.fst hp_10
          obtain rfl : u_8 = (FX3_layNeeds g t4 gl b tb4 n z c x4_4).2 := congrArg Prod.snd hp_10
          have hP : va_P D vwCl (wM cI cB ad ((FX3_layNeeds g t4 gl b tb4 n z c x4_4).2.1) ((FX3_layNeeds g t4 gl b tb4 n z c x4_4).2.2.1) ((FX3_layNeeds g t4 gl b tb4 n z c x4_4).2.2.2.1) ((FX3_layNeeds g t4 gl b tb4 n z c x4_4).2.2.2.2.1) ((FX3_layNeeds g t4 gl b tb4 n z c x4_4).2.2.2.2.2)) H1 := hP1
          clear hP1
          generalize H1 = H at hP hS ⊢
          rw [show (FX3_layNeeds g t4 gl b tb4 n z c x4_4).2.1 = g from kp_lay_g ..] at hP
          rw [show (FX3_layNeeds g t4 gl b tb4 n z c x4_4).2.2.2.1 = gl from kp_lay_gl ..] at hP
          rw [show (FX3_layNeeds g t4 gl b tb4 n z c x4_4).2.2.2.2.1 = b from kp_lay_b ..] at hP
          rw [show (FX3_layNeeds g t4 gl b tb4 n z c x4_4).2.2.2.2.2 = tb4 from kp_lay_tb ..] at hP
          have hP : va_P D vwCl (wM cI cB ad g ((FX3_layNeeds g t4 gl b tb4 n z c x4_4).2.2.1) gl b tb4) H := hP
          refine lv_pop E.1 E.2.1 dX3_planNow_150 rfl ?_
          refine lv_iload_n E.1 E.2.1 dX3_planNow_151 rfl (lv_at hl 6 rfl) ?_
          refine lv_if_ne (x := p2) (tgt := 163) E.1 E.2.1 dX3_planNow_152 (by decide) (fun h152 => ?_) (fun h152 => ?_)
          · have h152 := h152
            refine lv_iload_n E.1 E.2.1 dX3_planNow_163 rfl (lv_at hl 6 rfl) ?_
            refine lv_iconst (v := 1) E.1 E.2.1 dX3_planNow_164 (by decide) ?_
            refine lv_icmp_ne (x := p2) (y := 1) (tgt := 173) E.1 E.2.1 dX3_planNow_165 (by decide) (fun h165 => ?_) (fun h165 => ?_)
            · have h165 := h165
              refine lv_iload_n E.1 E.2.1 dX3_planNow_173 rfl (lv_at hl 6 rfl) ?_
              refine lv_iconst (v := 2) E.1 E.2.1 dX3_planNow_174 (by decide) ?_
              refine lv_icmp_ne (x := p2) (y := 2) (tgt := 185) E.1 E.2.1 dX3_planNow_175 (by decide) (fun h175 => ?_) (fun h175 => ?_)
              · have h175 := h175
                refine lv_aload_n E.1 E.2.1 dX3_planNow_185 rfl (lv_at hl 3 rfl) ?_
                refine mg_0_22 E hK hP in_3 w_1 dX3_planNow_186 ?_
                exact W.iret (v := ((FX3_layNeeds g t4 gl b tb4 n z c x4_4).2.2.1) 22) E.1 E.2.1 hr (fun tt ht _ => ⟨⟨((FX3_layNeeds g t4 gl b tb4 n z c x4_4).2.2.1) 22, (g, (FX3_layNeeds g t4 gl b tb4 n z c x4_4).2.2.1, gl, b, tb4), rfl, (by rw [FX3_planNow_L41, if_neg h152, if_neg h165, if_neg h175]), (show va_P D vwCl (wM cI cB ad g ((FX3_layNeeds g t4 gl b tb4 n z c x4_4).2.2.1) gl b tb4) tt.heap from by rw [ht]; exact hP)⟩, hS.F ht⟩) hS.2.2 dX3_planNow_189
              · have h175 := h175
                refine lv_aload_n E.1 E.2.1 dX3_planNow_178 rfl (lv_at hl 3 rfl) ?_
                refine mg_0_21 E hK hP in_3 w_2 dX3_planNow_179 ?_
                refine lv_goto (tgt := 189) E.1 E.2.1 dX3_planNow_182 (by decide) ?_
                exact W.iret (v := ((FX3_layNeeds g t4 gl b tb4 n z c x4_4).2.2.1) 21) E.1 E.2.1 hr (fun tt ht _ => ⟨⟨((FX3_layNeeds g t4 gl b tb4 n z c x4_4).2.2.1) 21, (g, (FX3_layNeeds g t4 gl b tb4 n z c x4_4).2.2.1, gl, b, tb4), rfl, (by rw [FX3_planNow_L41, if_neg h152, if_neg h165, if_pos h175]), (show va_P D vwCl (wM cI cB ad g ((FX3_layNeeds g t4 gl b tb4 n z c x4_4).2.2.1) gl b tb4) tt.heap from by rw [ht]; exact hP)⟩, hS.F ht⟩) hS.2.2 dX3_planNow_189
            · have h165 := h165
              refine lv_iload E.1 E.2.1 dX3_planNow_168 (lv_at hl 1 rfl) ?_
              refine lv_goto (tgt := 189) E.1 E.2.1 dX3_planNow_170 (by decide) ?_
              exact W.iret (v := x4_4) E.1 E.2.1 hr (fun tt ht _ => ⟨⟨x4_4, (g, (FX3_layNeeds g t4 gl b tb4 n z c x4_4).2.2.1, gl, b, tb4), rfl, (by rw [FX3_planNow_L41, if_neg h152, if_pos h165]), (show va_P D vwCl (wM cI cB ad g ((FX3_layNeeds g t4 gl b tb4 n z c x4_4).2.2.1) gl b tb4) tt.heap from by rw [ht]; exact hP)⟩, hS.F ht⟩) hS.2.2 dX3_planNow_189
          · have h152 := h152
            refine lv_iload E.1 E.2.1 dX3_planNow_155 (lv_at hl 1 rfl) ?_
            refine g_SR (As := [.int x4_4]) (rest := []) E hK (c_X3_size l D cI cB x4_4) (va_cwS 1 E.2.2.2.2 gX3_planNow_X3_size rfl rfl rfl (by decide +kernel) ⟨Nat.le_of_ble_eq_true rfl, Nat.le_of_ble_eq_true rfl⟩) rfl hl.1 rfl (Nat.le_of_ble_eq_true rfl) dX3_planNow_157 ⟨Nat.zero_le _, Nat.zero_le _⟩ ?_
            refine lv_goto (tgt := 189) E.1 E.2.1 dX3_planNow_160 (by decide) ?_
            exact W.iret (v := FX3_size x4_4) E.1 E.2.1 hr (fun tt ht _ => ⟨⟨FX3_size x4_4, (g, (FX3_layNeeds g t4 gl b tb4 n z c x4_4).2.2.1, gl, b, tb4), rfl, (by rw [FX3_planNow_L41, if_pos h152]), (show va_P D vwCl (wM cI cB ad g ((FX3_layNeeds g t4 gl b tb4 n z c x4_4).2.2.1) gl b tb4) tt.heap from by rw [ht]; exact hP)⟩, hS.F ht⟩) hS.2.2 dX3_planNow_189
        | succ d_4 ih4 =>
          intro k_5 x4_4 x5_4 t4 tb4 H locs ls hk4 hP hS hl
          refine lv_iload E.1 E.2.1 dX3_planNow_41 (lv_at hl 0 rfl) ?_
          refine lv_iconst (v := 1) E.1 E.2.1 dX3_planNow_43 (by decide) ?_
          refine lv_aload_n E.1 E.2.1 dX3_planNow_44 rfl (lv_at hl 3 rfl) ?_
          refine mg_0_1 E hK hP in_3 w_0 dX3_planNow_45 ?_
          refine lv_topi (fun y_12 ey_12 => ?_)
          obtain rfl : y_12 = nI n := ey_12.trans (hn)
          refine lv_ishl (x := 1) (y := nI n) E.1 E.2.1 dX3_planNow_48 ?_
          refine lv_topi (fun y_13 ey_13 => ?_)
          obtain rfl : y_13 = nI (2 ^ n) := ey_13.trans (shl_n hn6)
          refine lv_icmp_ge (x := nI k_5) (y := nI (2 ^ n)) (tgt := 144) E.1 E.2.1 dX3_planNow_49 (by decide) (fun h9 => absurd h9 (nI_ge (a := k_5) (b := (2 ^ n)) (by omega) (by omega))) (fun _ => ?_)
          refine lv_aload_n E.1 E.2.1 dX3_planNow_52 rfl (lv_at hl 3 rfl) ?_
          refine lv_iload E.1 E.2.1 dX3_planNow_53 (lv_at hl 0 rfl) ?_
          refine g_VWi (As := [.int (nI k_5)]) (rest := []) E hK hP hS (fun q h => h) (c_X3_layNeeds l D cI cB ad g t4 gl b tb4 n z c hM hI (nI k_5)) (cwV 1 E.2.2.2.2 gX3_planNow_X3_layNeeds rfl rfl rfl (by decide +kernel) ⟨Nat.le_of_ble_eq_true rfl, Nat.le_of_ble_eq_true rfl⟩) (rm0x hK hP) rfl hl.1 rfl (Nat.le_of_ble_eq_true rfl) dX3_planNow_55 ⟨Nat.zero_le _, Nat.zero_le _⟩ (fun r_15 u_14 H1 locs hp_16 hP1 hq_17 hS => ?_)
          obtain rfl : r_15 = (FX3_layNeeds g t4 gl b tb4 n z c (nI k_5)).1 := congrArg Prod.fst hp_16
          obtain rfl : u_14 = (FX3_layNeeds g t4 gl b tb4 n z c (nI k_5)).2 := congrArg Prod.snd hp_16
          have hP : va_P D vwCl (wM cI cB ad ((FX3_layNeeds g t4 gl b tb4 n z c (nI k_5)).2.1) ((FX3_layNeeds g t4 gl b tb4 n z c (nI k_5)).2.2.1) ((FX3_layNeeds g t4 gl b tb4 n z c (nI k_5)).2.2.2.1) ((FX3_layNeeds g t4 gl b tb4 n z c (nI k_5)).2.2.2.2.1) ((FX3_layNeeds g t4 gl b tb4 n z c (nI k_5)).2.2.2.2.2)) H1 := hP1
          clear hP1
          generalize H1 = H at hP hS ⊢
          rw [show (FX3_layNeeds g t4 gl b tb4 n z c (nI k_5)).2.1 = g from kp_lay_g ..] at hP
          rw [show (FX3_layNeeds g t4 gl b tb4 n z c (nI k_5)).2.2.2.1 = gl from kp_lay_gl ..] at hP
          rw [show (FX3_layNeeds g t4 gl b tb4 n z c (nI k_5)).2.2.2.2.1 = b from kp_lay_b ..] at hP
          rw [show (FX3_layNeeds g t4 gl b tb4 n z c (nI k_5)).2.2.2.2.2 = tb4 from kp_lay_tb ..] at hP
          have hP : va_P D vwCl (wM cI cB ad g ((FX3_layNeeds g t4 gl b tb4 n z c (nI k_5)).2.2.1) gl b tb4) H := hP
          refine lv_if_eq (x := (FX3_layNeeds g t4 gl b tb4 n z c (nI k_5)).1) (tgt := 73) E.1 E.2.1 dX3_planNow_58 (by decide) (fun h58 => ?_) (fun h58 => ?_)
          · have h58 := h58
            refine lv_iconst (v := 0) E.1 E.2.1 dX3_planNow_73 (by decide) ?_
            refine lv_istore (lv' := [(7, .int 0), (6, .int (nI k_5)), (4, .int x4_4), (5, .int x5_4), (0, .ref (ad 0)), (1, .int p0), (2, .int (nI p1)), (3, .int p2)]) E.1 E.2.1 dX3_planNow_74 hl (by decide) rfl (fun ls hl => ?_)
            refine lv_iload E.1 E.2.1 dX3_planNow_76 (lv_at hl 1 rfl) ?_
            refine g_SR (As := [.int (nI k_5)]) (rest := []) E hK (c_X3_size l D cI cB (nI k_5)) (va_cwS 1 E.2.2.2.2 gX3_planNow_X3_size rfl rfl rfl (by decide +kernel) ⟨Nat.le_of_ble_eq_true rfl, Nat.le_of_ble_eq_true rfl⟩) rfl hl.1 rfl (Nat.le_of_ble_eq_true rfl) dX3_planNow_78 ⟨Nat.zero_le _, Nat.zero_le _⟩ ?_
            refine lv_iload E.1 E.2.1 dX3_planNow_81 (lv_at hl 2 rfl) ?_
            refine g_SR (As := [.int x4_4]) (rest := [.int (FX3_size (nI k_5))]) E hK (c_X3_size l D cI cB x4_4) (va_cwS 1 E.2.2.2.2 gX3_planNow_X3_size rfl rfl rfl (by decide +kernel) ⟨Nat.le_of_ble_eq_true rfl, Nat.le_of_ble_eq_true rfl⟩) rfl hl.1 rfl (Nat.le_of_ble_eq_true rfl) dX3_planNow_83 ⟨Nat.zero_le _, Nat.zero_le _⟩ ?_
            refine lv_icmp_gt (x := FX3_size (nI k_5)) (y := FX3_size x4_4) (tgt := 111) E.1 E.2.1 dX3_planNow_86 (by decide) (fun h86 => ?_) (fun h86 => ?_)
            · have h86 := h86
              refine lv_iconst (v := 1) E.1 E.2.1 dX3_planNow_111 (by decide) ?_
              refine lv_goto (tgt := 116) E.1 E.2.1 dX3_planNow_112 (by decide) ?_
              refine lv_istore (lv' := [(8, .int 1), (7, .int 0), (6, .int (nI k_5)), (4, .int x4_4), (5, .int x5_4), (0, .ref (ad 0)), (1, .int p0), (2, .int (nI p1)), (3, .int p2)]) E.1 E.2.1 dX3_planNow_116 hl (by decide) rfl (fun ls hl => ?_)
              refine lv_iload E.1 E.2.1 dX3_planNow_118 (lv_at hl 1 rfl) ?_
              refine lv_if_eq (x := 0) (tgt := 138) E.1 E.2.1 dX3_planNow_120 (by decide) (fun _ => ?_) (fun h9 => absurd (by decide) h9)
              refine lv_iinc (v := nI (k_5 + 1)) (k := 2) (lv' := [(6, .int (nI (k_5 + 1))), (8, .int 1), (7, .int 0), (4, .int x4_4), (5, .int x5_4), (0, .ref (ad 0)), (1, .int p0), (2, .int (nI p1)), (3, .int p2)]) E.1 E.2.1 dX3_planNow_138 hl rfl (nI_1 k_5) (by decide) rfl (fun ls hl => ?_)
              refine lv_goto (tgt := 41) E.1 E.2.1 dX3_planNow_141 (by decide) ?_
              rw [show FX3_planNow_L41 g gl b n z c p0 p1 p2 (d_4 + 1) k_5 x4_4 x5_4 t4 tb4 = FX3_planNow_L41 g gl b n z c p0 p1 p2 d_4 (k_5 + 1) x4_4 x5_4 ((FX3_layNeeds g t4 gl b tb4 n z c (nI k_5)).2.2.1) tb4 from by rw [FX3_planNow_L41, if_pos h58, if_pos h86]]
              exact ih4 (k_5 + 1) x4_4 x5_4 ((FX3_layNeeds g t4 gl b tb4 n z c (nI k_5)).2.2.1) tb4 _ _ ls (by omega) hP hS (lv_sub hl [0, 3, 4, 5, 6, 7, 8] rfl)
            · have h86 := h86
              refine lv_iload E.1 E.2.1 dX3_planNow_89 (lv_at hl 1 rfl) ?_
              refine g_SR (As := [.int (nI k_5)]) (rest := []) E hK (c_X3_size l D cI cB (nI k_5)) (va_cwS 1 E.2.2.2.2 gX3_planNow_X3_size rfl rfl rfl (by decide +kernel) ⟨Nat.le_of_ble_eq_true rfl, Nat.le_of_ble_eq_true rfl⟩) rfl hl.1 rfl (Nat.le_of_ble_eq_true rfl) dX3_planNow_91 ⟨Nat.zero_le _, Nat.zero_le _⟩ ?_
              refine lv_iload E.1 E.2.1 dX3_planNow_94 (lv_at hl 2 rfl) ?_
              refine g_SR (As := [.int x4_4]) (rest := [.int (FX3_size (nI k_5))]) E hK (c_X3_size l D cI cB x4_4) (va_cwS 1 E.2.2.2.2 gX3_planNow_X3_size rfl rfl rfl (by decide +kernel) ⟨Nat.le_of_ble_eq_true rfl, Nat.le_of_ble_eq_true rfl⟩) rfl hl.1 rfl (Nat.le_of_ble_eq_true rfl) dX3_planNow_96 ⟨Nat.zero_le _, Nat.zero_le _⟩ ?_
              refine lv_icmp_ne (x := FX3_size (nI k_5)) (y := FX3_size x4_4) (tgt := 115) E.1 E.2.1 dX3_planNow_99 (by decide) (fun h99 => ?_) (fun h99 => ?_)
              · have h99 := h99
                refine lv_iconst (v := 0) E.1 E.2.1 dX3_planNow_115 (by decide) ?_
                refine lv_istore (lv' := [(8, .int 0), (7, .int 0), (6, .int (nI k_5)), (4, .int x4_4), (5, .int x5_4), (0, .ref (ad 0)), (1, .int p0), (2, .int (nI p1)), (3, .int p2)]) E.1 E.2.1 dX3_planNow_116 hl (by decide) rfl (fun ls hl => ?_)
                refine lv_iload E.1 E.2.1 dX3_planNow_118 (lv_at hl 1 rfl) ?_
                refine lv_if_eq (x := 0) (tgt := 138) E.1 E.2.1 dX3_planNow_120 (by decide) (fun _ => ?_) (fun h9 => absurd (by decide) h9)
                refine lv_iinc (v := nI (k_5 + 1)) (k := 2) (lv' := [(6, .int (nI (k_5 + 1))), (8, .int 0), (7, .int 0), (4, .int x4_4), (5, .int x5_4), (0, .ref (ad 0)), (1, .int p0), (2, .int (nI p1)), (3, .int p2)]) E.1 E.2.1 dX3_planNow_138 hl rfl (nI_1 k_5) (by decide) rfl (fun ls hl => ?_)
                refine lv_goto (tgt := 41) E.1 E.2.1 dX3_planNow_141 (by decide) ?_
                rw [show FX3_planNow_L41 g gl b n z c p0 p1 p2 (d_4 + 1) k_5 x4_4 x5_4 t4 tb4 = FX3_planNow_L41 g gl b n z c p0 p1 p2 d_4 (k_5 + 1) x4_4 x5_4 ((FX3_layNeeds g t4 gl b tb4 n z c (nI k_5)).2.2.1) tb4 from by rw [FX3_planNow_L41, if_pos h58, if_neg h86, if_neg h99]]
                exact ih4 (k_5 + 1) x4_4 x5_4 ((FX3_layNeeds g t4 gl b tb4 n z c (nI k_5)).2.2.1) tb4 _ _ ls (by omega) hP hS (lv_sub hl [0, 3, 4, 5, 6, 7, 8] rfl)
              · have h99 := h99
                refine lv_aload_n E.1 E.2.1 dX3_planNow_102 rfl (lv_at hl 4 rfl) ?_
                refine mg_0_22 E hK hP in_3 w_1 dX3_planNow_103 ?_
                refine lv_iload E.1 E.2.1 dX3_planNow_106 (lv_at hl 3 rfl) ?_
                refine lv_icmp_ge (x := ((FX3_layNeeds g t4 gl b tb4 n z c (nI k_5)).2.2.1) 22) (y := x5_4) (tgt := 115) E.1 E.2.1 dX3_planNow_108 (by decide) (fun h108 => ?_) (fun h108 => ?_)
                · have h108 := h108
                  refine lv_iconst (v := 0) E.1 E.2.1 dX3_planNow_115 (by decide) ?_
                  refine lv_istore (lv' := [(8, .int 0), (7, .int 0), (6, .int (nI k_5)), (4, .int x4_4), (5, .int x5_4), (0, .ref (ad 0)), (1, .int p0), (2, .int (nI p1)), (3, .int p2)]) E.1 E.2.1 dX3_planNow_116 hl (by decide) rfl (fun ls hl => ?_)
                  refine lv_iload E.1 E.2.1 dX3_planNow_118 (lv_at hl 1 rfl) ?_
                  refine lv_if_eq (x := 0) (tgt := 138) E.1 E.2.1 dX3_planNow_120 (by decide) (fun _ => ?_) (fun h9 => absurd (by decide) h9)
                  refine lv_iinc (v := nI (k_5 + 1)) (k := 2) (lv' := [(6, .int (nI (k_5 + 1))), (8, .int 0), (7, .int 0), (4, .int x4_4), (5, .int x5_4), (0, .ref (ad 0)), (1, .int p0), (2, .int (nI p1)), (3, .int p2)]) E.1 E.2.1 dX3_planNow_138 hl rfl (nI_1 k_5) (by decide) rfl (fun ls hl => ?_)
                  refine lv_goto (tgt := 41) E.1 E.2.1 dX3_planNow_141 (by decide) ?_
                  rw [show FX3_planNow_L41 g gl b n z c p0 p1 p2 (d_4 + 1) k_5 x4_4 x5_4 t4 tb4 = FX3_planNow_L41 g gl b n z c p0 p1 p2 d_4 (k_5 + 1) x4_4 x5_4 ((FX3_layNeeds g t4 gl b tb4 n z c (nI k_5)).2.2.1) tb4 from by rw [FX3_planNow_L41, if_pos h58, if_neg h86, if_pos h99, if_pos h108]]
                  exact ih4 (k_5 + 1) x4_4 x5_4 ((FX3_layNeeds g t4 gl b tb4 n z c (nI k_5)).2.2.1) tb4 _ _ ls (by omega) hP hS (lv_sub hl [0, 3, 4, 5, 6, 7, 8] rfl)
                · have h108 := h108
                  refine lv_iconst (v := 1) E.1 E.2.1 dX3_planNow_111 (by decide) ?_
                  refine lv_goto (tgt := 116) E.1 E.2.1 dX3_planNow_112 (by decide) ?_
                  refine lv_istore (lv' := [(8, .int 1), (7, .int 0), (6, .int (nI k_5)), (4, .int x4_4), (5, .int x5_4), (0, .ref (ad 0)), (1, .int p0), (2, .int (nI p1)), (3, .int p2)]) E.1 E.2.1 dX3_planNow_116 hl (by decide) rfl (fun ls hl => ?_)
                  refine lv_iload E.1 E.2.1 dX3_planNow_118 (lv_at hl 1 rfl) ?_
                  refine lv_if_eq (x := 0) (tgt := 138) E.1 E.2.1 dX3_planNow_120 (by decide) (fun _ => ?_) (fun h9 => absurd (by decide) h9)
                  refine lv_iinc (v := nI (k_5 + 1)) (k := 2) (lv' := [(6, .int (nI (k_5 + 1))), (8, .int 1), (7, .int 0), (4, .int x4_4), (5, .int x5_4), (0, .ref (ad 0)), (1, .int p0), (2, .int (nI p1)), (3, .int p2)]) E.1 E.2.1 dX3_planNow_138 hl rfl (nI_1 k_5) (by decide) rfl (fun ls hl => ?_)
                  refine lv_goto (tgt := 41) E.1 E.2.1 dX3_planNow_141 (by decide) ?_
                  rw [show FX3_planNow_L41 g gl b n z c p0 p1 p2 (d_4 + 1) k_5 x4_4 x5_4 t4 tb4 = FX3_planNow_L41 g gl b n z c p0 p1 p2 d_4 (k_5 + 1) x4_4 x5_4 ((FX3_layNeeds g t4 gl b tb4 n z c (nI k_5)).2.2.1) tb4 from by rw [FX3_planNow_L41, if_pos h58, if_neg h86, if_pos h99, if_neg h108]]
                  exact ih4 (k_5 + 1) x4_4 x5_4 ((FX3_layNeeds g t4 gl b tb4 n z c (nI k_5)).2.2.1) tb4 _ _ ls (by omega) hP hS (lv_sub hl [0, 3, 4, 5, 6, 7, 8] rfl)
          · have h58 := h58
            refine lv_aload_n E.1 E.2.1 dX3_planNow_61 rfl (lv_at hl 3 rfl) ?_
            refine mg_0_21 E hK hP in_3 w_2 dX3_planNow_62 ?_
            refine lv_iload_n E.1 E.2.1 dX3_planNow_65 rfl (lv_at hl 4 rfl) ?_
            refine lv_icmp_gt (x := ((FX3_layNeeds g t4 gl b tb4 n z c (nI k_5)).2.2.1) 21) (y := p0) (tgt := 73) E.1 E.2.1 dX3_planNow_66 (by decide) (fun h66 => ?_) (fun h66 => ?_)
            · have h66 := h66
              refine lv_iconst (v := 0) E.1 E.2.1 dX3_planNow_73 (by decide) ?_
              refine lv_istore (lv' := [(7, .int 0), (6, .int (nI k_5)), (4, .int x4_4), (5, .int x5_4), (0, .ref (ad 0)), (1, .int p0), (2, .int (nI p1)), (3, .int p2)]) E.1 E.2.1 dX3_planNow_74 hl (by decide) rfl (fun ls hl => ?_)
              refine lv_iload E.1 E.2.1 dX3_planNow_76 (lv_at hl 1 rfl) ?_
              refine g_SR (As := [.int (nI k_5)]) (rest := []) E hK (c_X3_size l D cI cB (nI k_5)) (va_cwS 1 E.2.2.2.2 gX3_planNow_X3_size rfl rfl rfl (by decide +kernel) ⟨Nat.le_of_ble_eq_true rfl, Nat.le_of_ble_eq_true rfl⟩) rfl hl.1 rfl (Nat.le_of_ble_eq_true rfl) dX3_planNow_78 ⟨Nat.zero_le _, Nat.zero_le _⟩ ?_
              refine lv_iload E.1 E.2.1 dX3_planNow_81 (lv_at hl 2 rfl) ?_
              refine g_SR (As := [.int x4_4]) (rest := [.int (FX3_size (nI k_5))]) E hK (c_X3_size l D cI cB x4_4) (va_cwS 1 E.2.2.2.2 gX3_planNow_X3_size rfl rfl rfl (by decide +kernel) ⟨Nat.le_of_ble_eq_true rfl, Nat.le_of_ble_eq_true rfl⟩) rfl hl.1 rfl (Nat.le_of_ble_eq_true rfl) dX3_planNow_83 ⟨Nat.zero_le _, Nat.zero_le _⟩ ?_
              refine lv_icmp_gt (x := FX3_size (nI k_5)) (y := FX3_size x4_4) (tgt := 111) E.1 E.2.1 dX3_planNow_86 (by decide) (fun h86 => ?_) (fun h86 => ?_)
              · have h86 := h86
                refine lv_iconst (v := 1) E.1 E.2.1 dX3_planNow_111 (by decide) ?_
                refine lv_goto (tgt := 116) E.1 E.2.1 dX3_planNow_112 (by decide) ?_
                refine lv_istore (lv' := [(8, .int 1), (7, .int 0), (6, .int (nI k_5)), (4, .int x4_4), (5, .int x5_4), (0, .ref (ad 0)), (1, .int p0), (2, .int (nI p1)), (3, .int p2)]) E.1 E.2.1 dX3_planNow_116 hl (by decide) rfl (fun ls hl => ?_)
                refine lv_iload E.1 E.2.1 dX3_planNow_118 (lv_at hl 1 rfl) ?_
                refine lv_if_eq (x := 0) (tgt := 138) E.1 E.2.1 dX3_planNow_120 (by decide) (fun _ => ?_) (fun h9 => absurd (by decide) h9)
                refine lv_iinc (v := nI (k_5 + 1)) (k := 2) (lv' := [(6, .int (nI (k_5 + 1))), (8, .int 1), (7, .int 0), (4, .int x4_4), (5, .int x5_4), (0, .ref (ad 0)), (1, .int p0), (2, .int (nI p1)), (3, .int p2)]) E.1 E.2.1 dX3_planNow_138 hl rfl (nI_1 k_5) (by decide) rfl (fun ls hl => ?_)
                refine lv_goto (tgt := 41) E.1 E.2.1 dX3_planNow_141 (by decide) ?_
                rw [show FX3_planNow_L41 g gl b n z c p0 p1 p2 (d_4 + 1) k_5 x4_4 x5_4 t4 tb4 = FX3_planNow_L41 g gl b n z c p0 p1 p2 d_4 (k_5 + 1) x4_4 x5_4 ((FX3_layNeeds g t4 gl b tb4 n z c (nI k_5)).2.2.1) tb4 from by rw [FX3_planNow_L41, if_neg h58, if_pos h66, if_pos h86]]
                exact ih4 (k_5 + 1) x4_4 x5_4 ((FX3_layNeeds g t4 gl b tb4 n z c (nI k_5)).2.2.1) tb4 _ _ ls (by omega) hP hS (lv_sub hl [0, 3, 4, 5, 6, 7, 8] rfl)
              · have h86 := h86
                refine lv_iload E.1 E.2.1 dX3_planNow_89 (lv_at hl 1 rfl) ?_
                refine g_SR (As := [.int (nI k_5)]) (rest := []) E hK (c_X3_size l D cI cB (nI k_5)) (va_cwS 1 E.2.2.2.2 gX3_planNow_X3_size rfl rfl rfl (by decide +kernel) ⟨Nat.le_of_ble_eq_true rfl, Nat.le_of_ble_eq_true rfl⟩) rfl hl.1 rfl (Nat.le_of_ble_eq_true rfl) dX3_planNow_91 ⟨Nat.zero_le _, Nat.zero_le _⟩ ?_
                refine lv_iload E.1 E.2.1 dX3_planNow_94 (lv_at hl 2 rfl) ?_
                refine g_SR (As := [.int x4_4]) (rest := [.int (FX3_size (nI k_5))]) E hK (c_X3_size l D cI cB x4_4) (va_cwS 1 E.2.2.2.2 gX3_planNow_X3_size rfl rfl rfl (by decide +kernel) ⟨Nat.le_of_ble_eq_true rfl, Nat.le_of_ble_eq_true rfl⟩) rfl hl.1 rfl (Nat.le_of_ble_eq_true rfl) dX3_planNow_96 ⟨Nat.zero_le _, Nat.zero_le _⟩ ?_
                refine lv_icmp_ne (x := FX3_size (nI k_5)) (y := FX3_size x4_4) (tgt := 115) E.1 E.2.1 dX3_planNow_99 (by decide) (fun h99 => ?_) (fun h99 => ?_)
                · have h99 := h99
                  refine lv_iconst (v := 0) E.1 E.2.1 dX3_planNow_115 (by decide) ?_
                  refine lv_istore (lv' := [(8, .int 0), (7, .int 0), (6, .int (nI k_5)), (4, .int x4_4), (5, .int x5_4), (0, .ref (ad 0)), (1, .int p0), (2, .int (nI p1)), (3, .int p2)]) E.1 E.2.1 dX3_planNow_116 hl (by decide) rfl (fun ls hl => ?_)
                  refine lv_iload E.1 E.2.1 dX3_planNow_118 (lv_at hl 1 rfl) ?_
                  refine lv_if_eq (x := 0) (tgt := 138) E.1 E.2.1 dX3_planNow_120 (by decide) (fun _ => ?_) (fun h9 => absurd (by decide) h9)
                  refine lv_iinc (v := nI (k_5 + 1)) (k := 2) (lv' := [(6, .int (nI (k_5 + 1))), (8, .int 0), (7, .int 0), (4, .int x4_4), (5, .int x5_4), (0, .ref (ad 0)), (1, .int p0), (2, .int (nI p1)), (3, .int p2)]) E.1 E.2.1 dX3_planNow_138 hl rfl (nI_1 k_5) (by decide) rfl (fun ls hl => ?_)
                  refine lv_goto (tgt := 41) E.1 E.2.1 dX3_planNow_141 (by decide) ?_
                  rw [show FX3_planNow_L41 g gl b n z c p0 p1 p2 (d_4 + 1) k_5 x4_4 x5_4 t4 tb4 = FX3_planNow_L41 g gl b n z c p0 p1 p2 d_4 (k_5 + 1) x4_4 x5_4 ((FX3_layNeeds g t4 gl b tb4 n z c (nI k_5)).2.2.1) tb4 from by rw [FX3_planNow_L41, if_neg h58, if_pos h66, if_neg h86, if_neg h99]]
                  exact ih4 (k_5 + 1) x4_4 x5_4 ((FX3_layNeeds g t4 gl b tb4 n z c (nI k_5)).2.2.1) tb4 _ _ ls (by omega) hP hS (lv_sub hl [0, 3, 4, 5, 6, 7, 8] rfl)
                · have h99 := h99
                  refine lv_aload_n E.1 E.2.1 dX3_planNow_102 rfl (lv_at hl 4 rfl) ?_
                  refine mg_0_22 E hK hP in_3 w_1 dX3_planNow_103 ?_
                  refine lv_iload E.1 E.2.1 dX3_planNow_106 (lv_at hl 3 rfl) ?_
                  refine lv_icmp_ge (x := ((FX3_layNeeds g t4 gl b tb4 n z c (nI k_5)).2.2.1) 22) (y := x5_4) (tgt := 115) E.1 E.2.1 dX3_planNow_108 (by decide) (fun h108 => ?_) (fun h108 => ?_)
                  · have h108 := h108
                    refine lv_iconst (v := 0) E.1 E.2.1 dX3_planNow_115 (by decide) ?_
                    refine lv_istore (lv' := [(8, .int 0), (7, .int 0), (6, .int (nI k_5)), (4, .int x4_4), (5, .int x5_4), (0, .ref (ad 0)), (1, .int p0), (2, .int (nI p1)), (3, .int p2)]) E.1 E.2.1 dX3_planNow_116 hl (by decide) rfl (fun ls hl => ?_)
                    refine lv_iload E.1 E.2.1 dX3_planNow_118 (lv_at hl 1 rfl) ?_
                    refine lv_if_eq (x := 0) (tgt := 138) E.1 E.2.1 dX3_planNow_120 (by decide) (fun _ => ?_) (fun h9 => absurd (by decide) h9)
                    refine lv_iinc (v := nI (k_5 + 1)) (k := 2) (lv' := [(6, .int (nI (k_5 + 1))), (8, .int 0), (7, .int 0), (4, .int x4_4), (5, .int x5_4), (0, .ref (ad 0)), (1, .int p0), (2, .int (nI p1)), (3, .int p2)]) E.1 E.2.1 dX3_planNow_138 hl rfl (nI_1 k_5) (by decide) rfl (fun ls hl => ?_)
                    refine lv_goto (tgt := 41) E.1 E.2.1 dX3_planNow_141 (by decide) ?_
                    rw [show FX3_planNow_L41 g gl b n z c p0 p1 p2 (d_4 + 1) k_5 x4_4 x5_4 t4 tb4 = FX3_planNow_L41 g gl b n z c p0 p1 p2 d_4 (k_5 + 1) x4_4 x5_4 ((FX3_layNeeds g t4 gl b tb4 n z c (nI k_5)).2.2.1) tb4 from by rw [FX3_planNow_L41, if_neg h58, if_pos h66, if_neg h86, if_pos h99, if_pos h108]]
                    exact ih4 (k_5 + 1) x4_4 x5_4 ((FX3_layNeeds g t4 gl b tb4 n z c (nI k_5)).2.2.1) tb4 _ _ ls (by omega) hP hS (lv_sub hl [0, 3, 4, 5, 6, 7, 8] rfl)
                  · have h108 := h108
                    refine lv_iconst (v := 1) E.1 E.2.1 dX3_planNow_111 (by decide) ?_
                    refine lv_goto (tgt := 116) E.1 E.2.1 dX3_planNow_112 (by decide) ?_
                    refine lv_istore (lv' := [(8, .int 1), (7, .int 0), (6, .int (nI k_5)), (4, .int x4_4), (5, .int x5_4), (0, .ref (ad 0)), (1, .int p0), (2, .int (nI p1)), (3, .int p2)]) E.1 E.2.1 dX3_planNow_116 hl (by decide) rfl (fun ls hl => ?_)
                    refine lv_iload E.1 E.2.1 dX3_planNow_118 (lv_at hl 1 rfl) ?_
                    refine lv_if_eq (x := 0) (tgt := 138) E.1 E.2.1 dX3_planNow_120 (by decide) (fun _ => ?_) (fun h9 => absurd (by decide) h9)
                    refine lv_iinc (v := nI (k_5 + 1)) (k := 2) (lv' := [(6, .int (nI (k_5 + 1))), (8, .int 1), (7, .int 0), (4, .int x4_4), (5, .int x5_4), (0, .ref (ad 0)), (1, .int p0), (2, .int (nI p1)), (3, .int p2)]) E.1 E.2.1 dX3_planNow_138 hl rfl (nI_1 k_5) (by decide) rfl (fun ls hl => ?_)
                    refine lv_goto (tgt := 41) E.1 E.2.1 dX3_planNow_141 (by decide) ?_
                    rw [show FX3_planNow_L41 g gl b n z c p0 p1 p2 (d_4 + 1) k_5 x4_4 x5_4 t4 tb4 = FX3_planNow_L41 g gl b n z c p0 p1 p2 d_4 (k_5 + 1) x4_4 x5_4 ((FX3_layNeeds g t4 gl b tb4 n z c (nI k_5)).2.2.1) tb4 from by rw [FX3_planNow_L41, if_neg h58, if_pos h66, if_neg h86, if_pos h99, if_neg h108]]
                    exact ih4 (k_5 + 1) x4_4 x5_4 ((FX3_layNeeds g t4 gl b tb4 n z c (nI k_5)).2.2.1) tb4 _ _ ls (by omega) hP hS (lv_sub hl [0, 3, 4, 5, 6, 7, 8] rfl)
            · have h66 := h66
              refine lv_iconst (v := 1) E.1 E.2.1 dX3_planNow_69 (by decide) ?_
              refine lv_goto (tgt := 74) E.1 E.2.1 dX3_planNow_70 (by decide) ?_
              refine lv_istore (lv' := [(7, .int 1), (6, .int (nI k_5)), (4, .int x4_4), (5, .int x5_4), (0, .ref (ad 0)), (1, .int p0), (2, .int (nI p1)), (3, .int p2)]) E.1 E.2.1 dX3_planNow_74 hl (by decide) rfl (fun ls hl => ?_)
              refine lv_iload E.1 E.2.1 dX3_planNow_76 (lv_at hl 1 rfl) ?_
              refine g_SR (As := [.int (nI k_5)]) (rest := []) E hK (c_X3_size l D cI cB (nI k_5)) (va_cwS 1 E.2.2.2.2 gX3_planNow_X3_size rfl rfl rfl (by decide +kernel) ⟨Nat.le_of_ble_eq_true rfl, Nat.le_of_ble_eq_true rfl⟩) rfl hl.1 rfl (Nat.le_of_ble_eq_true rfl) dX3_planNow_78 ⟨Nat.zero_le _, Nat.zero_le _⟩ ?_
              refine lv_iload E.1 E.2.1 dX3_planNow_81 (lv_at hl 2 rfl) ?_
              refine g_SR (As := [.int x4_4]) (rest := [.int (FX3_size (nI k_5))]) E hK (c_X3_size l D cI cB x4_4) (va_cwS 1 E.2.2.2.2 gX3_planNow_X3_size rfl rfl rfl (by decide +kernel) ⟨Nat.le_of_ble_eq_true rfl, Nat.le_of_ble_eq_true rfl⟩) rfl hl.1 rfl (Nat.le_of_ble_eq_true rfl) dX3_planNow_83 ⟨Nat.zero_le _, Nat.zero_le _⟩ ?_
              refine lv_icmp_gt (x := FX3_size (nI k_5)) (y := FX3_size x4_4) (tgt := 111) E.1 E.2.1 dX3_planNow_86 (by decide) (fun h86 => ?_) (fun h86 => ?_)
              · have h86 := h86
                refine lv_iconst (v := 1) E.1 E.2.1 dX3_planNow_111 (by decide) ?_
                refine lv_goto (tgt := 116) E.1 E.2.1 dX3_planNow_112 (by decide) ?_
                refine lv_istore (lv' := [(8, .int 1), (7, .int 1), (6, .int (nI k_5)), (4, .int x4_4), (5, .int x5_4), (0, .ref (ad 0)), (1, .int p0), (2, .int (nI p1)), (3, .int p2)]) E.1 E.2.1 dX3_planNow_116 hl (by decide) rfl (fun ls hl => ?_)
                refine lv_iload E.1 E.2.1 dX3_planNow_118 (lv_at hl 1 rfl) ?_
                refine lv_if_eq (x := 1) (tgt := 138) E.1 E.2.1 dX3_planNow_120 (by decide) (fun h9 => absurd h9 (by decide)) (fun _ => ?_)
                refine lv_iload E.1 E.2.1 dX3_planNow_123 (lv_at hl 0 rfl) ?_
                refine lv_if_eq (x := 1) (tgt := 138) E.1 E.2.1 dX3_planNow_125 (by decide) (fun h9 => absurd h9 (by decide)) (fun _ => ?_)
                refine lv_iload E.1 E.2.1 dX3_planNow_128 (lv_at hl 2 rfl) ?_
                refine lv_istore (lv' := [(4, .int (nI k_5)), (8, .int 1), (7, .int 1), (6, .int (nI k_5)), (5, .int x5_4), (0, .ref (ad 0)), (1, .int p0), (2, .int (nI p1)), (3, .int p2)]) E.1 E.2.1 dX3_planNow_130 hl (by decide) rfl (fun ls hl => ?_)
                refine lv_aload_n E.1 E.2.1 dX3_planNow_132 rfl (lv_at hl 5 rfl) ?_
                refine mg_0_22 E hK hP in_3 w_1 dX3_planNow_133 ?_
                refine lv_istore (lv' := [(5, .int (((FX3_layNeeds g t4 gl b tb4 n z c (nI k_5)).2.2.1) 22)), (4, .int (nI k_5)), (8, .int 1), (7, .int 1), (6, .int (nI k_5)), (0, .ref (ad 0)), (1, .int p0), (2, .int (nI p1)), (3, .int p2)]) E.1 E.2.1 dX3_planNow_136 hl (by decide) rfl (fun ls hl => ?_)
                refine lv_iinc (v := nI (k_5 + 1)) (k := 4) (lv' := [(6, .int (nI (k_5 + 1))), (5, .int (((FX3_layNeeds g t4 gl b tb4 n z c (nI k_5)).2.2.1) 22)), (4, .int (nI k_5)), (8, .int 1), (7, .int 1), (0, .ref (ad 0)), (1, .int p0), (2, .int (nI p1)), (3, .int p2)]) E.1 E.2.1 dX3_planNow_138 hl rfl (nI_1 k_5) (by decide) rfl (fun ls hl => ?_)
                refine lv_goto (tgt := 41) E.1 E.2.1 dX3_planNow_141 (by decide) ?_
                rw [show FX3_planNow_L41 g gl b n z c p0 p1 p2 (d_4 + 1) k_5 x4_4 x5_4 t4 tb4 = FX3_planNow_L41 g gl b n z c p0 p1 p2 d_4 (k_5 + 1) (nI k_5) (((FX3_layNeeds g t4 gl b tb4 n z c (nI k_5)).2.2.1) 22) ((FX3_layNeeds g t4 gl b tb4 n z c (nI k_5)).2.2.1) tb4 from by rw [FX3_planNow_L41, if_neg h58, if_neg h66, if_pos h86]]
                exact ih4 (k_5 + 1) (nI k_5) (((FX3_layNeeds g t4 gl b tb4 n z c (nI k_5)).2.2.1) 22) ((FX3_layNeeds g t4 gl b tb4 n z c (nI k_5)).2.2.1) tb4 _ _ ls (by omega) hP hS (lv_sub hl [0, 2, 1, 5, 6, 7, 8] rfl)
              · have h86 := h86
                refine lv_iload E.1 E.2.1 dX3_planNow_89 (lv_at hl 1 rfl) ?_
                refine g_SR (As := [.int (nI k_5)]) (rest := []) E hK (c_X3_size l D cI cB (nI k_5)) (va_cwS 1 E.2.2.2.2 gX3_planNow_X3_size rfl rfl rfl (by decide +kernel) ⟨Nat.le_of_ble_eq_true rfl, Nat.le_of_ble_eq_true rfl⟩) rfl hl.1 rfl (Nat.le_of_ble_eq_true rfl) dX3_planNow_91 ⟨Nat.zero_le _, Nat.zero_le _⟩ ?_
                refine lv_iload E.1 E.2.1 dX3_planNow_94 (lv_at hl 2 rfl) ?_
                refine g_SR (As := [.int x4_4]) (rest := [.int (FX3_size (nI k_5))]) E hK (c_X3_size l D cI cB x4_4) (va_cwS 1 E.2.2.2.2 gX3_planNow_X3_size rfl rfl rfl (by decide +kernel) ⟨Nat.le_of_ble_eq_true rfl, Nat.le_of_ble_eq_true rfl⟩) rfl hl.1 rfl (Nat.le_of_ble_eq_true rfl) dX3_planNow_96 ⟨Nat.zero_le _, Nat.zero_le _⟩ ?_
                refine lv_icmp_ne (x := FX3_size (nI k_5)) (y := FX3_size x4_4) (tgt := 115) E.1 E.2.1 dX3_planNow_99 (by decide) (fun h99 => ?_) (fun h99 => ?_)
                · have h99 := h99
                  refine lv_iconst (v := 0) E.1 E.2.1 dX3_planNow_115 (by decide) ?_
                  refine lv_istore (lv' := [(8, .int 0), (7, .int 1), (6, .int (nI k_5)), (4, .int x4_4), (5, .int x5_4), (0, .ref (ad 0)), (1, .int p0), (2, .int (nI p1)), (3, .int p2)]) E.1 E.2.1 dX3_planNow_116 hl (by decide) rfl (fun ls hl => ?_)
                  refine lv_iload E.1 E.2.1 dX3_planNow_118 (lv_at hl 1 rfl) ?_
                  refine lv_if_eq (x := 1) (tgt := 138) E.1 E.2.1 dX3_planNow_120 (by decide) (fun h9 => absurd h9 (by decide)) (fun _ => ?_)
                  refine lv_iload E.1 E.2.1 dX3_planNow_123 (lv_at hl 0 rfl) ?_
                  refine lv_if_eq (x := 0) (tgt := 138) E.1 E.2.1 dX3_planNow_125 (by decide) (fun _ => ?_) (fun h9 => absurd (by decide) h9)
                  refine lv_iinc (v := nI (k_5 + 1)) (k := 2) (lv' := [(6, .int (nI (k_5 + 1))), (8, .int 0), (7, .int 1), (4, .int x4_4), (5, .int x5_4), (0, .ref (ad 0)), (1, .int p0), (2, .int (nI p1)), (3, .int p2)]) E.1 E.2.1 dX3_planNow_138 hl rfl (nI_1 k_5) (by decide) rfl (fun ls hl => ?_)
                  refine lv_goto (tgt := 41) E.1 E.2.1 dX3_planNow_141 (by decide) ?_
                  rw [show FX3_planNow_L41 g gl b n z c p0 p1 p2 (d_4 + 1) k_5 x4_4 x5_4 t4 tb4 = FX3_planNow_L41 g gl b n z c p0 p1 p2 d_4 (k_5 + 1) x4_4 x5_4 ((FX3_layNeeds g t4 gl b tb4 n z c (nI k_5)).2.2.1) tb4 from by rw [FX3_planNow_L41, if_neg h58, if_neg h66, if_neg h86, if_neg h99]]
                  exact ih4 (k_5 + 1) x4_4 x5_4 ((FX3_layNeeds g t4 gl b tb4 n z c (nI k_5)).2.2.1) tb4 _ _ ls (by omega) hP hS (lv_sub hl [0, 3, 4, 5, 6, 7, 8] rfl)
                · have h99 := h99
                  refine lv_aload_n E.1 E.2.1 dX3_planNow_102 rfl (lv_at hl 4 rfl) ?_
                  refine mg_0_22 E hK hP in_3 w_1 dX3_planNow_103 ?_
                  refine lv_iload E.1 E.2.1 dX3_planNow_106 (lv_at hl 3 rfl) ?_
                  refine lv_icmp_ge (x := ((FX3_layNeeds g t4 gl b tb4 n z c (nI k_5)).2.2.1) 22) (y := x5_4) (tgt := 115) E.1 E.2.1 dX3_planNow_108 (by decide) (fun h108 => ?_) (fun h108 => ?_)
                  · have h108 := h108
                    refine lv_iconst (v := 0) E.1 E.2.1 dX3_planNow_115 (by decide) ?_
                    refine lv_istore (lv' := [(8, .int 0), (7, .int 1), (6, .int (nI k_5)), (4, .int x4_4), (5, .int x5_4), (0, .ref (ad 0)), (1, .int p0), (2, .int (nI p1)), (3, .int p2)]) E.1 E.2.1 dX3_planNow_116 hl (by decide) rfl (fun ls hl => ?_)
                    refine lv_iload E.1 E.2.1 dX3_planNow_118 (lv_at hl 1 rfl) ?_
                    refine lv_if_eq (x := 1) (tgt := 138) E.1 E.2.1 dX3_planNow_120 (by decide) (fun h9 => absurd h9 (by decide)) (fun _ => ?_)
                    refine lv_iload E.1 E.2.1 dX3_planNow_123 (lv_at hl 0 rfl) ?_
                    refine lv_if_eq (x := 0) (tgt := 138) E.1 E.2.1 dX3_planNow_125 (by decide) (fun _ => ?_) (fun h9 => absurd (by decide) h9)
                    refine lv_iinc (v := nI (k_5 + 1)) (k := 2) (lv' := [(6, .int (nI (k_5 + 1))), (8, .int 0), (7, .int 1), (4, .int x4_4), (5, .int x5_4), (0, .ref (ad 0)), (1, .int p0), (2, .int (nI p1)), (3, .int p2)]) E.1 E.2.1 dX3_planNow_138 hl rfl (nI_1 k_5) (by decide) rfl (fun ls hl => ?_)
                    refine lv_goto (tgt := 41) E.1 E.2.1 dX3_planNow_141 (by decide) ?_
                    rw [show FX3_planNow_L41 g gl b n z c p0 p1 p2 (d_4 + 1) k_5 x4_4 x5_4 t4 tb4 = FX3_planNow_L41 g gl b n z c p0 p1 p2 d_4 (k_5 + 1) x4_4 x5_4 ((FX3_layNeeds g t4 gl b tb4 n z c (nI k_5)).2.2.1) tb4 from by rw [FX3_planNow_L41, if_neg h58, if_neg h66, if_neg h86, if_pos h99, if_pos h108]]
                    exact ih4 (k_5 + 1) x4_4 x5_4 ((FX3_layNeeds g t4 gl b tb4 n z c (nI k_5)).2.2.1) tb4 _ _ ls (by omega) hP hS (lv_sub hl [0, 3, 4, 5, 6, 7, 8] rfl)
                  · have h108 := h108
                    refine lv_iconst (v := 1) E.1 E.2.1 dX3_planNow_111 (by decide) ?_
                    refine lv_goto (tgt := 116) E.1 E.2.1 dX3_planNow_112 (by decide) ?_
                    refine lv_istore (lv' := [(8, .int 1), (7, .int 1), (6, .int (nI k_5)), (4, .int x4_4), (5, .int x5_4), (0, .ref (ad 0)), (1, .int p0), (2, .int (nI p1)), (3, .int p2)]) E.1 E.2.1 dX3_planNow_116 hl (by decide) rfl (fun ls hl => ?_)
                    refine lv_iload E.1 E.2.1 dX3_planNow_118 (lv_at hl 1 rfl) ?_
                    refine lv_if_eq (x := 1) (tgt := 138) E.1 E.2.1 dX3_planNow_120 (by decide) (fun h9 => absurd h9 (by decide)) (fun _ => ?_)
                    refine lv_iload E.1 E.2.1 dX3_planNow_123 (lv_at hl 0 rfl) ?_
                    refine lv_if_eq (x := 1) (tgt := 138) E.1 E.2.1 dX3_planNow_125 (by decide) (fun h9 => absurd h9 (by decide)) (fun _ => ?_)
                    refine lv_iload E.1 E.2.1 dX3_planNow_128 (lv_at hl 2 rfl) ?_
                    refine lv_istore (lv' := [(4, .int (nI k_5)), (8, .int 1), (7, .int 1), (6, .int (nI k_5)), (5, .int x5_4), (0, .ref (ad 0)), (1, .int p0), (2, .int (nI p1)), (3, .int p2)]) E.1 E.2.1 dX3_planNow_130 hl (by decide) rfl (fun ls hl => ?_)
                    refine lv_aload_n E.1 E.2.1 dX3_planNow_132 rfl (lv_at hl 5 rfl) ?_
                    refine mg_0_22 E hK hP in_3 w_1 dX3_planNow_133 ?_
                    refine lv_istore (lv' := [(5, .int (((FX3_layNeeds g t4 gl b tb4 n z c (nI k_5)).2.2.1) 22)), (4, .int (nI k_5)), (8, .int 1), (7, .int 1), (6, .int (nI k_5)), (0, .ref (ad 0)), (1, .int p0), (2, .int (nI p1)), (3, .int p2)]) E.1 E.2.1 dX3_planNow_136 hl (by decide) rfl (fun ls hl => ?_)
                    refine lv_iinc (v := nI (k_5 + 1)) (k := 4) (lv' := [(6, .int (nI (k_5 + 1))), (5, .int (((FX3_layNeeds g t4 gl b tb4 n z c (nI k_5)).2.2.1) 22)), (4, .int (nI k_5)), (8, .int 1), (7, .int 1), (0, .ref (ad 0)), (1, .int p0), (2, .int (nI p1)), (3, .int p2)]) E.1 E.2.1 dX3_planNow_138 hl rfl (nI_1 k_5) (by decide) rfl (fun ls hl => ?_)
                    refine lv_goto (tgt := 41) E.1 E.2.1 dX3_planNow_141 (by decide) ?_
                    rw [show FX3_planNow_L41 g gl b n z c p0 p1 p2 (d_4 + 1) k_5 x4_4 x5_4 t4 tb4 = FX3_planNow_L41 g gl b n z c p0 p1 p2 d_4 (k_5 + 1) (nI k_5) (((FX3_layNeeds g t4 gl b tb4 n z c (nI k_5)).2.2.1) 22) ((FX3_layNeeds g t4 gl b tb4 n z c (nI k_5)).2.2.1) tb4 from by rw [FX3_planNow_L41, if_neg h58, if_neg h66, if_neg h86, if_pos h99, if_neg h108]]
                    exact ih4 (k_5 + 1) (nI k_5) (((FX3_layNeeds g t4 gl b tb4 n z c (nI k_5)).2.2.1) 22) ((FX3_layNeeds g t4 gl b tb4 n z c (nI k_5)).2.2.1) tb4 _ _ ls (by omega) hP hS (lv_sub hl [0, 2, 1, 5, 6, 7, 8] rfl)
      rw [show FX3_planNow_L3 g t gl b n z c p0 p1 p2 0 k_2 tb1 = FX3_planNow_L41 g gl b n z c p0 p1 p2 (2 ^ n) 0 0 0 t tb1 from by rw [FX3_planNow_L3]]
      have hl : lv_has ls 9 [(6, .int (nI 0)), (4, .int 0), (5, .int 0), (0, .ref (ad 0)), (1, .int p0), (2, .int (nI p1)), (3, .int p2)] := lv_sub hl [0, 2, 1, 3, 4, 5, 6] rfl
      exact loop4 _ _ 0 0 t tb1 _ _ ls (by omega) hP hS (lv_sub hl [0, 1, 2, 3, 4, 5, 6] rfl)
    | succ d_1 ih1 =>
      intro k_2 tb1 H locs ls hk1 hP hS hl
      refine lv_iload E.1 E.2.1 dX3_planNow_3 (lv_at hl 0 rfl) ?_
      refine lv_aload_n E.1 E.2.1 dX3_planNow_5 rfl (lv_at hl 1 rfl) ?_
      refine mg_0_1 E hK hP in_3 w_0 dX3_planNow_6 ?_
      refine lv_topi (fun y_18 ey_18 => ?_)
      obtain rfl : y_18 = nI n := ey_18.trans (hn)
      refine lv_icmp_ge (x := nI k_2) (y := nI n) (tgt := 32) E.1 E.2.1 dX3_planNow_9 (by decide) (fun h9 => absurd h9 (nI_ge (a := k_2) (b := n) (by omega) (by omega))) (fun _ => ?_)
      refine lv_aload_n E.1 E.2.1 dX3_planNow_12 rfl (lv_at hl 1 rfl) ?_
      refine mg_0_20 E hK hP in_3 w_3 dX3_planNow_13 ?_
      refine lv_iload E.1 E.2.1 dX3_planNow_16 (lv_at hl 0 rfl) ?_
      refine lv_aload_n E.1 E.2.1 dX3_planNow_18 rfl (lv_at hl 1 rfl) ?_
      refine lv_iload E.1 E.2.1 dX3_planNow_19 (lv_at hl 0 rfl) ?_
      refine lv_iload_n E.1 E.2.1 dX3_planNow_21 rfl (lv_at hl 3 rfl) ?_
      refine g_VR (As := [.int (nI k_2), .int (nI p1)]) (rest := [.int (nI k_2), .ref (ad 11)]) E hK hP (c_X3_needOf l D cI cB ad g t gl b tb1 n z c hM (nI k_2) p1 (vp_in_nI (by omega) (by omega)) (by omega)) (cwV 2 E.2.2.2.2 gX3_planNow_X3_needOf rfl rfl rfl (by decide +kernel) ⟨Nat.le_of_ble_eq_true rfl, Nat.le_of_ble_eq_true rfl⟩) (rm0x hK hP) rfl hl.1 rfl (Nat.le_of_ble_eq_true rfl) dX3_planNow_22 ⟨Nat.zero_le _, Nat.zero_le _⟩ ?_
      refine ms_11 (v := FX3_needOf g b tb1 n z c (nI k_2) p1) (i := nI k_2) E hK hP hI hS (vp_in_nI (by omega) (by omega)) dX3_planNow_25 (fun H locs hP hS => ?_)
      rw [nI_clamp (show k_2 < 2 ^ 31 by omega)] at hP
      have hP : va_P D vwCl (wM cI cB ad g t gl b (uA tb1 11 (upd (tb1 11) k_2 (FX3_needOf g b tb1 n z c (nI k_2) p1)))) H := hP
      refine lv_iinc (v := nI (k_2 + 1)) (k := 0) (lv' := [(4, .int (nI (k_2 + 1))), (0, .ref (ad 0)), (1, .int p0), (2, .int (nI p1)), (3, .int p2)]) E.1 E.2.1 dX3_planNow_26 hl rfl (nI_1 k_2) (by decide) rfl (fun ls hl => ?_)
      refine lv_goto (tgt := 3) E.1 E.2.1 dX3_planNow_29 (by decide) ?_
      rw [show FX3_planNow_L3 g t gl b n z c p0 p1 p2 (d_1 + 1) k_2 tb1 = FX3_planNow_L3 g t gl b n z c p0 p1 p2 d_1 (k_2 + 1) (uA tb1 11 (upd (tb1 11) k_2 (FX3_needOf g b tb1 n z c (nI k_2) p1))) from by rw [FX3_planNow_L3]]
      exact ih1 (k_2 + 1) (uA tb1 11 (upd (tb1 11) k_2 (FX3_needOf g b tb1 n z c (nI k_2) p1))) _ _ ls (by omega) hP hS (lv_sub hl [0, 1, 2, 3, 4] rfl)
  rw [show FX3_planNow g t gl b tb n z c p0 p1 p2 = FX3_planNow_L3 g t gl b n z c p0 p1 p2 n 0 tb from by rw [FX3_planNow]]
  have hl : lv_has ls 9 [(4, .int (nI 0)), (0, .ref (ad 0)), (1, .int p0), (2, .int (nI p1)), (3, .int p2)] := lv_sub hl [0, 1, 2, 3, 4] rfl
  exact loop1 _ _ tb _ _ ls (by omega) hP hS (lv_sub hl [0, 1, 2, 3, 4] rfl)
theorem kp_planNow_L (g : Nat → Int32) (gl : Nat → Int64) (b : Nat → Nat → Int32) (n z c : Nat) (p0 : Int32) (p1 : Nat) (p2 : Int32) : ∀ (d k : Nat) (x y : Int32) (t : Nat → Int32) (tb : Nat → Nat → Int32), Kr g gl b (FX3_planNow_L41 g gl b n z c p0 p1 p2 d k x y t tb) := by
  intro d
  induction d with
  | zero =>
    intro k x y t tb
    rw [FX3_planNow_L41]
    repeat' first | refine ite_P (P := Kr g gl b) (fun _ => ?_) (fun _ => ?_) | exact ⟨rfl, rfl, rfl⟩
  | succ d ih =>
    intro k x y t tb
    rw [FX3_planNow_L41]
    repeat' first | refine ite_P (P := Kr g gl b) (fun _ => ?_) (fun _ => ?_) | exact ih _ _ _ _ _
theorem kp_planNow_L3 (g t : Nat → Int32) (gl : Nat → Int64) (b : Nat → Nat → Int32) (n z c : Nat) (p0 : Int32) (p1 : Nat) (p2 : Int32) : ∀ (d k : Nat) (tb : Nat → Nat → Int32), Kr g gl b (FX3_planNow_L3 g t gl b n z c p0 p1 p2 d k tb) := by
  intro d
  induction d with
  | zero => intro k tb; rw [FX3_planNow_L3]; exact kp_planNow_L ..
  | succ d ih => intro k tb; rw [FX3_planNow_L3]; exact ih _ _
theorem kp_planNow_g (g t : Nat → Int32) (gl : Nat → Int64) (b tb : Nat → Nat → Int32) (n z c : Nat) (p0 : Int32) (p1 : Nat) (p2 : Int32) : (FX3_planNow g t gl b tb n z c p0 p1 p2).2.1 = g := (kp_planNow_L3 g t gl b n z c p0 p1 p2 n 0 tb).1
theorem kp_planNow_gl (g t : Nat → Int32) (gl : Nat → Int64) (b tb : Nat → Nat → Int32) (n z c : Nat) (p0 : Int32) (p1 : Nat) (p2 : Int32) : (FX3_planNow g t gl b tb n z c p0 p1 p2).2.2.2.1 = gl := (kp_planNow_L3 g t gl b n z c p0 p1 p2 n 0 tb).2.1
theorem kp_planNow_b (g t : Nat → Int32) (gl : Nat → Int64) (b tb : Nat → Nat → Int32) (n z c : Nat) (p0 : Int32) (p1 : Nat) (p2 : Int32) : (FX3_planNow g t gl b tb n z c p0 p1 p2).2.2.2.2.1 = b := (kp_planNow_L3 g t gl b n z c p0 p1 p2 n 0 tb).2.2

def FX3_plan (g : Nat → Int32) (t : Nat → Int32) (gl : Nat → Int64) (b : Nat → Nat → Int32) (tb : Nat → Nat → Int32) (n : Nat) (z : Nat) (c : Nat) (p0 : Int32) (p1 : Int32) (p2 : Int32) : Int32 × SM := (if FX3_within p0 0 60 = 0 then ((-102), g, t, gl, b, tb) else (if FX3_within p1 0 9 = 0 then ((-102), g, t, gl, b, tb) else (if FX3_within p2 0 3 = 0 then ((-102), g, t, gl, b, tb) else (if nI n = 0 then ((-103), g, t, gl, b, tb) else ((FX3_planNow g t gl b tb n z c p0 p1.toNatClampNeg p2).1, (FX3_planNow g t gl b tb n z c p0 p1.toNatClampNeg p2).2.1, (FX3_planNow g t gl b tb n z c p0 p1.toNatClampNeg p2).2.2.1, (FX3_planNow g t gl b tb n z c p0 p1.toNatClampNeg p2).2.2.2.1, (FX3_planNow g t gl b tb n z c p0 p1.toNatClampNeg p2).2.2.2.2.1, (FX3_planNow g t gl b tb n z c p0 p1.toNatClampNeg p2).2.2.2.2.2)))))
set_option maxHeartbeats 4000000 in
set_option maxRecDepth 100000 in
/-- plan -/
theorem c_X3_plan (l : Launch) (D : va_G) (cI cB : ClassId) (ad : Nat → Nat) (g t : Nat → Int32) (gl : Nat → Int64) (b tb : Nat → Nat → Int32) (n z c : Nat) (hM : IM n z c g b) (hI : wI 20 ad) (p0 : Int32) (p1 : Int32) (p2 : Int32) : Met l yX3_plan wsX3_plan ({ frames := 5, cells := 0, slots := 0, locals := 120 }) (GPc D cI cB (wM cI cB ad g t gl b tb) [.ref (ad 0), .int p0, .int p1, .int p2]) (va_Qi (fun (r : Int32) (u : SM) => (r, u) = FX3_plan g t gl b tb n z c p0 p1 p2) (fun u t => va_P D vwCl (wM cI cB ad u.1 u.2.1 u.2.2.1 u.2.2.2.1 u.2.2.2.2) t.heap) (wA 20 ad)) 0 0 (wA 20 ad) := by
  refine Met.ofW (cc := cX3_plan) (maxL := 4) (ret := (some .int)) (by decide) rfl ?_
  intro p e s m args below meth cd s₁ B hml hv
  obtain ⟨rfl, hP, hK⟩ := hv
  have hts := atoms_spec (ws := wsX3_plan) B.pre
  have E : CallFix p m cd cX3_plan 4 s _ wsX3_plan RX3 := ⟨B.exec, B.bytes, hml, findClass_of_methodNamed B.named, hts⟩
  have hr := B.returns
  have hlocks := B.notSynchronized
  have h2n := pow6 (n := n) (by have := hM.2.1; omega)
  obtain ⟨hn, hn6, hz, hz21, hc, hc6, hfs⟩ := id hM
  have hS : va_S (wA 20 ad) s.heap s.heap [] := va_S.rf
  have in_3 : ∀ w ∈ wsX30, w ∈ wsX3_plan := fun _ h => List.mem_cons_of_mem _ (List.mem_append_right _ h)
  have w_0 : (Cond.fieldLink RX3 94 "SnowTermModel" "sites" "I").before _ s = true := hts _ (by decide +kernel)
  have hl := lv_entry ([.ref (ad 0), .int p0, .int p1, .int p2]) (n := 4) (Nat.le_of_ble_eq_true rfl)
  rw [lg_entry_eq]
  generalize (lg_sl ([.ref (ad 0), .int p0, .int p1, .int p2]) ++ List.replicate (4 - (lg_sl ([.ref (ad 0), .int p0, .int p1, .int p2])).length) Slot.unset).toArray = ls at hl ⊢
  have hl : lv_has ls 4 [(0, .ref (ad 0)), (1, .int p0), (2, .int p1), (3, .int p2)] := hl
  refine lv_iload_n E.1 E.2.1 dX3_plan_0 rfl (lv_at hl 1 rfl) ?_
  refine lv_iconst (v := 0) E.1 E.2.1 dX3_plan_1 (by decide) ?_
  refine lv_bipush (v := 60) E.1 E.2.1 dX3_plan_2 (by decide) ?_
  refine g_SR (As := [.int p0, .int 0, .int 60]) (rest := []) E hK (c_X3_within l D cI cB p0 0 60) (va_cwS 3 E.2.2.2.2 gX3_plan_X3_within rfl rfl rfl (by decide +kernel) ⟨Nat.le_of_ble_eq_true rfl, Nat.le_of_ble_eq_true rfl⟩) rfl hl.1 rfl (Nat.le_of_ble_eq_true rfl) dX3_plan_4 ⟨Nat.zero_le _, Nat.zero_le _⟩ ?_
  refine lv_if_eq (x := FX3_within p0 0 60) (tgt := 29) E.1 E.2.1 dX3_plan_7 (by decide) (fun h7 => ?_) (fun h7 => ?_)
  · have h7 := h7
    refine lv_bipush (v := (-102)) E.1 E.2.1 dX3_plan_29 (by decide) ?_
    exact W.iret (v := (-102)) E.1 E.2.1 hr (fun tt ht _ => ⟨⟨(-102), (g, t, gl, b, tb), rfl, (by rw [FX3_plan, if_pos h7]), (show va_P D vwCl (wM cI cB ad g t gl b tb) tt.heap from by rw [ht]; exact hP)⟩, hS.F ht⟩) hS.2.2 dX3_plan_31
  · have h7 := h7
    refine lv_iload_n E.1 E.2.1 dX3_plan_10 rfl (lv_at hl 2 rfl) ?_
    refine lv_iconst (v := 0) E.1 E.2.1 dX3_plan_11 (by decide) ?_
    refine lv_bipush (v := 9) E.1 E.2.1 dX3_plan_12 (by decide) ?_
    refine g_SR (As := [.int p1, .int 0, .int 9]) (rest := []) E hK (c_X3_within l D cI cB p1 0 9) (va_cwS 3 E.2.2.2.2 gX3_plan_X3_within rfl rfl rfl (by decide +kernel) ⟨Nat.le_of_ble_eq_true rfl, Nat.le_of_ble_eq_true rfl⟩) rfl hl.1 rfl (Nat.le_of_ble_eq_true rfl) dX3_plan_14 ⟨Nat.zero_le _, Nat.zero_le _⟩ ?_
    refine lv_if_eq (x := FX3_within p1 0 9) (tgt := 29) E.1 E.2.1 dX3_plan_17 (by decide) (fun h17 => ?_) (fun h17 => ?_)
    · have h17 := h17
      refine lv_bipush (v := (-102)) E.1 E.2.1 dX3_plan_29 (by decide) ?_
      exact W.iret (v := (-102)) E.1 E.2.1 hr (fun tt ht _ => ⟨⟨(-102), (g, t, gl, b, tb), rfl, (by rw [FX3_plan, if_neg h7, if_pos h17]), (show va_P D vwCl (wM cI cB ad g t gl b tb) tt.heap from by rw [ht]; exact hP)⟩, hS.F ht⟩) hS.2.2 dX3_plan_31
    · have h17 := h17
      refine lv_iload_n E.1 E.2.1 dX3_plan_20 rfl (lv_at hl 3 rfl) ?_
      refine lv_iconst (v := 0) E.1 E.2.1 dX3_plan_21 (by decide) ?_
      refine lv_iconst (v := 3) E.1 E.2.1 dX3_plan_22 (by decide) ?_
      refine g_SR (As := [.int p2, .int 0, .int 3]) (rest := []) E hK (c_X3_within l D cI cB p2 0 3) (va_cwS 3 E.2.2.2.2 gX3_plan_X3_within rfl rfl rfl (by decide +kernel) ⟨Nat.le_of_ble_eq_true rfl, Nat.le_of_ble_eq_true rfl⟩) rfl hl.1 rfl (Nat.le_of_ble_eq_true rfl) dX3_plan_23 ⟨Nat.zero_le _, Nat.zero_le _⟩ ?_
      refine lv_if_ne (x := FX3_within p2 0 3) (tgt := 32) E.1 E.2.1 dX3_plan_26 (by decide) (fun h26 => ?_) (fun h26 => ?_)
      · have h26 := h26
        refine lv_aload_n E.1 E.2.1 dX3_plan_32 rfl (lv_at hl 0 rfl) ?_
        refine mg_0_1 E hK hP in_3 w_0 dX3_plan_33 ?_
        refine lv_topi (fun y_1 ey_1 => ?_)
        obtain rfl : y_1 = nI n := ey_1.trans (hn)
        refine lv_if_ne (x := nI n) (tgt := 44) E.1 E.2.1 dX3_plan_36 (by decide) (fun h36 => ?_) (fun h36 => ?_)
        · have h36 := h36
          refine lv_aload_n E.1 E.2.1 dX3_plan_44 rfl (lv_at hl 0 rfl) ?_
          refine lv_iload_n E.1 E.2.1 dX3_plan_45 rfl (lv_at hl 1 rfl) ?_
          refine lv_iload_n E.1 E.2.1 dX3_plan_46 rfl (lv_at hl 2 rfl) ?_
          refine lv_topi (fun y_2 ey_2 => ?_)
          obtain rfl : y_2 = nI p1.toNatClampNeg := ey_2.trans (nI_cl (within_t h17).1)
          refine lv_iload_n E.1 E.2.1 dX3_plan_47 rfl (lv_at hl 3 rfl) ?_
          refine g_VWi (As := [.int p0, .int (nI p1.toNatClampNeg), .int p2]) (rest := []) E hK hP hS (fun q h => h) (c_X3_planNow l D cI cB ad g t gl b tb n z c hM hI p0 p1.toNatClampNeg p2 (cl_lt _)) (cwV 3 E.2.2.2.2 gX3_plan_X3_planNow rfl rfl rfl (by decide +kernel) ⟨Nat.le_of_ble_eq_true rfl, Nat.le_of_ble_eq_true rfl⟩) (rm0x hK hP) rfl hl.1 rfl (Nat.le_of_ble_eq_true rfl) dX3_plan_48 ⟨Nat.zero_le _, Nat.zero_le _⟩ (fun r_4 u_3 H1 locs hp_5 hP1 hq_6 hS => ?_)
          obtain rfl : r_4 = (FX3_planNow g t gl b tb n z c p0 p1.toNatClampNeg p2).1 := congrArg Prod.fst hp_5
          obtain rfl : u_3 = (FX3_planNow g t gl b tb n z c p0 p1.toNatClampNeg p2).2 := congrArg Prod.snd hp_5
          have hP : va_P D vwCl (wM cI cB ad ((FX3_planNow g t gl b tb n z c p0 p1.toNatClampNeg p2).2.1) ((FX3_planNow g t gl b tb n z c p0 p1.toNatClampNeg p2).2.2.1) ((FX3_planNow g t gl b tb n z c p0 p1.toNatClampNeg p2).2.2.2.1) ((FX3_planNow g t gl b tb n z c p0 p1.toNatClampNeg p2).2.2.2.2.1) ((FX3_planNow g t gl b tb n z c p0 p1.toNatClampNeg p2).2.2.2.2.2)) H1 := hP1
          clear hP1
          generalize H1 = H at hP hS ⊢
          exact W.iret (v := (FX3_planNow g t gl b tb n z c p0 p1.toNatClampNeg p2).1) E.1 E.2.1 hr (fun tt ht _ => ⟨⟨(FX3_planNow g t gl b tb n z c p0 p1.toNatClampNeg p2).1, ((FX3_planNow g t gl b tb n z c p0 p1.toNatClampNeg p2).2.1, (FX3_planNow g t gl b tb n z c p0 p1.toNatClampNeg p2).2.2.1, (FX3_planNow g t gl b tb n z c p0 p1.toNatClampNeg p2).2.2.2.1, (FX3_planNow g t gl b tb n z c p0 p1.toNatClampNeg p2).2.2.2.2.1, (FX3_planNow g t gl b tb n z c p0 p1.toNatClampNeg p2).2.2.2.2.2), rfl, (by rw [FX3_plan, if_neg h7, if_neg h17, if_neg h26, if_neg h36]), (show va_P D vwCl (wM cI cB ad ((FX3_planNow g t gl b tb n z c p0 p1.toNatClampNeg p2).2.1) ((FX3_planNow g t gl b tb n z c p0 p1.toNatClampNeg p2).2.2.1) ((FX3_planNow g t gl b tb n z c p0 p1.toNatClampNeg p2).2.2.2.1) ((FX3_planNow g t gl b tb n z c p0 p1.toNatClampNeg p2).2.2.2.2.1) ((FX3_planNow g t gl b tb n z c p0 p1.toNatClampNeg p2).2.2.2.2.2)) tt.heap from by rw [ht]; exact hP)⟩, hS.F ht⟩) hS.2.2 dX3_plan_51
        · have h36 := h36
          refine lv_bipush (v := (-103)) E.1 E.2.1 dX3_plan_39 (by decide) ?_
          refine lv_goto (tgt := 51) E.1 E.2.1 dX3_plan_41 (by decide) ?_
          exact W.iret (v := (-103)) E.1 E.2.1 hr (fun tt ht _ => ⟨⟨(-103), (g, t, gl, b, tb), rfl, (by rw [FX3_plan, if_neg h7, if_neg h17, if_neg h26, if_pos h36]), (show va_P D vwCl (wM cI cB ad g t gl b tb) tt.heap from by rw [ht]; exact hP)⟩, hS.F ht⟩) hS.2.2 dX3_plan_51
      · have h26 := h26
        refine lv_bipush (v := (-102)) E.1 E.2.1 dX3_plan_29 (by decide) ?_
        exact W.iret (v := (-102)) E.1 E.2.1 hr (fun tt ht _ => ⟨⟨(-102), (g, t, gl, b, tb), rfl, (by rw [FX3_plan, if_neg h7, if_neg h17, if_pos h26]), (show va_P D vwCl (wM cI cB ad g t gl b tb) tt.heap from by rw [ht]; exact hP)⟩, hS.F ht⟩) hS.2.2 dX3_plan_31
def FX3_draw (g : Nat → Int32) (t : Nat → Int32) (gl : Nat → Int64) (b : Nat → Nat → Int32) (tb : Nat → Nat → Int32) (n : Nat) (z : Nat) (c : Nat) (p0 : Int32) : Int32 × SM := ((((((1103515245 * (gl 23)) + 12345) &&& 2147483647) / 65536) - ((((1103515245 * (gl 23)) + 12345) &&& 2147483647) / 65536) / p0.toInt64 * p0.toInt64).toInt32, g, t, uL gl 23 (((1103515245 * (gl 23)) + 12345) &&& 2147483647), b, tb)
set_option maxHeartbeats 4000000 in
set_option maxRecDepth 100000 in
/-- a draw -/
theorem c_X3_draw (l : Launch) (D : va_G) (cI cB : ClassId) (ad : Nat → Nat) (g t : Nat → Int32) (gl : Nat → Int64) (b tb : Nat → Nat → Int32) (n z c : Nat) (hM : IM n z c g b) (hI : wI 20 ad) (p0 : Int32) (hd : ¬ p0.toInt64 = 0) : Met l yX3_draw wsX3_draw ({ frames := 0, cells := 0, slots := 0, locals := 0 }) (GPc D cI cB (wM cI cB ad g t gl b tb) [.ref (ad 0), .int p0]) (va_Qi (fun (r : Int32) (u : SM) => (r, u) = FX3_draw g t gl b tb n z c p0) (fun u t => va_P D vwCl (wM cI cB ad u.1 u.2.1 u.2.2.1 u.2.2.2.1 u.2.2.2.2) t.heap) (wA 20 ad)) 0 0 (wA 20 ad) := by
  refine Met.ofW (cc := cX3_draw) (maxL := 2) (ret := (some .int)) (by decide) rfl ?_
  intro p e s m args below meth cd s₁ B hml hv
  obtain ⟨rfl, hP, hK⟩ := hv
  have hts := atoms_spec (ws := wsX3_draw) B.pre
  have E : CallFix p m cd cX3_draw 2 s _ wsX3_draw RX3 := ⟨B.exec, B.bytes, hml, findClass_of_methodNamed B.named, hts⟩
  have hr := B.returns
  have hlocks := B.notSynchronized
  have h2n := pow6 (n := n) (by have := hM.2.1; omega)
  obtain ⟨hn, hn6, hz, hz21, hc, hc6, hfs⟩ := id hM
  have hS : va_S (wA 20 ad) s.heap s.heap [] := va_S.rf
  have in_3 : ∀ w ∈ wsX30, w ∈ wsX3_draw := fun _ h => List.mem_cons_of_mem _ (List.mem_append_right _ h)
  have w_0 : (Cond.constantLong RX3 187 1103515245).before _ s = true := hts _ (by decide +kernel)
  have w_1 : (Cond.fieldLink RX3 189 "SnowTermModel" "seedNow" "J").before _ s = true := hts _ (by decide +kernel)
  have w_2 : (Cond.constantLong RX3 193 12345).before _ s = true := hts _ (by decide +kernel)
  have w_3 : (Cond.constantLong RX3 195 2147483647).before _ s = true := hts _ (by decide +kernel)
  have w_4 : (Cond.constantLong RX3 197 65536).before _ s = true := hts _ (by decide +kernel)
  have hl := lv_entry ([.ref (ad 0), .int p0]) (n := 2) (Nat.le_of_ble_eq_true rfl)
  rw [lg_entry_eq]
  generalize (lg_sl ([.ref (ad 0), .int p0]) ++ List.replicate (2 - (lg_sl ([.ref (ad 0), .int p0])).length) Slot.unset).toArray = ls at hl ⊢
  have hl : lv_has ls 2 [(0, .ref (ad 0)), (1, .int p0)] := hl
  refine lv_aload_n E.1 E.2.1 dX3_draw_0 rfl (lv_at hl 0 rfl) ?_
  refine lv_ldc2 (v := 1103515245) E.1 E.2.1 E.2.2.2.1 w_0 dX3_draw_1 ?_
  refine lv_aload_n E.1 E.2.1 dX3_draw_4 rfl (lv_at hl 0 rfl) ?_
  refine mg_0_23 E hK hP in_3 w_1 dX3_draw_5 ?_
  refine lv_lmul (x := 1103515245) (y := gl 23) E.1 E.2.1 dX3_draw_8 ?_
  refine lv_ldc2 (v := 12345) E.1 E.2.1 E.2.2.2.1 w_2 dX3_draw_9 ?_
  refine lv_ladd (x := 1103515245 * (gl 23)) (y := 12345) E.1 E.2.1 dX3_draw_12 ?_
  refine lv_ldc2 (v := 2147483647) E.1 E.2.1 E.2.2.2.1 w_3 dX3_draw_13 ?_
  refine lv_land (x := (1103515245 * (gl 23)) + 12345) (y := 2147483647) E.1 E.2.1 dX3_draw_16 ?_
  refine mp_0_23 (v := ((1103515245 * (gl 23)) + 12345) &&& 2147483647) E hK hP in_3 w_1 hI hS dX3_draw_17 (fun H locs hP hS => ?_)
  refine lv_aload_n E.1 E.2.1 dX3_draw_20 rfl (lv_at hl 0 rfl) ?_
  refine mg_0_23 E hK hP in_3 w_1 dX3_draw_21 ?_
  refine lv_topl (fun y_1 ey_1 => ?_)
  obtain rfl : y_1 = ((1103515245 * (gl 23)) + 12345) &&& 2147483647 := ey_1.trans (rfl)
  refine lv_ldc2 (v := 65536) E.1 E.2.1 E.2.2.2.1 w_4 dX3_draw_24 ?_
  refine lv_ldiv (x := ((1103515245 * (gl 23)) + 12345) &&& 2147483647) (y := 65536) E.1 E.2.1 dX3_draw_27 (by decide) ?_
  refine lv_iload_n E.1 E.2.1 dX3_draw_28 rfl (lv_at hl 1 rfl) ?_
  refine lv_i2l E.1 E.2.1 dX3_draw_29 rfl ?_
  refine lv_lrem (x := (((1103515245 * (gl 23)) + 12345) &&& 2147483647) / 65536) (y := p0.toInt64) E.1 E.2.1 dX3_draw_30 (hd) ?_
  refine lv_l2i E.1 E.2.1 dX3_draw_31 rfl ?_
  exact W.iret (v := (((((1103515245 * (gl 23)) + 12345) &&& 2147483647) / 65536) - ((((1103515245 * (gl 23)) + 12345) &&& 2147483647) / 65536) / p0.toInt64 * p0.toInt64).toInt32) E.1 E.2.1 hr (fun tt ht _ => ⟨⟨(((((1103515245 * (gl 23)) + 12345) &&& 2147483647) / 65536) - ((((1103515245 * (gl 23)) + 12345) &&& 2147483647) / 65536) / p0.toInt64 * p0.toInt64).toInt32, (g, t, uL gl 23 (((1103515245 * (gl 23)) + 12345) &&& 2147483647), b, tb), rfl, (by rw [FX3_draw]), (show va_P D vwCl (wM cI cB ad g t (uL gl 23 (((1103515245 * (gl 23)) + 12345) &&& 2147483647)) b tb) tt.heap from by rw [ht]; exact hP)⟩, hS.F ht⟩) hS.2.2 dX3_draw_32
theorem kp_draw_g (g t : Nat → Int32) (gl : Nat → Int64) (b tb : Nat → Nat → Int32) (n z c : Nat) (p0 : Int32) : (FX3_draw g t gl b tb n z c p0).2.1 = g := rfl
theorem kp_draw_t (g t : Nat → Int32) (gl : Nat → Int64) (b tb : Nat → Nat → Int32) (n z c : Nat) (p0 : Int32) : (FX3_draw g t gl b tb n z c p0).2.2.1 = t := rfl
theorem kp_draw_b (g t : Nat → Int32) (gl : Nat → Int64) (b tb : Nat → Nat → Int32) (n z c : Nat) (p0 : Int32) : (FX3_draw g t gl b tb n z c p0).2.2.2.2.1 = b := rfl
theorem kp_draw_tb (g t : Nat → Int32) (gl : Nat → Int64) (b tb : Nat → Nat → Int32) (n z c : Nat) (p0 : Int32) : (FX3_draw g t gl b tb n z c p0).2.2.2.2.2 = tb := rfl
theorem mask31 (x : Int64) : ∃ k : Nat, k < 2 ^ 31 ∧ x &&& 2147483647 = lN k := by
  refine ⟨x.toBitVec.toNat % 2 ^ 31, Nat.mod_lt _ (by decide), ?_⟩
  have hx : (x &&& 2147483647).toBitVec = (lN (x.toBitVec.toNat % 2 ^ 31)).toBitVec := by
    apply BitVec.eq_of_toNat_eq
    have h1 : (x &&& 2147483647).toBitVec.toNat = x.toBitVec.toNat &&& 2147483647 := rfl
    rw [h1, show (2147483647 : Nat) = 2 ^ 31 - 1 by decide, Nat.and_two_pow_sub_one_eq_mod]
    show _ = (BitVec.ofNat 64 (x.toBitVec.toNat % 2 ^ 31)).toNat
    rw [BitVec.toNat_ofNat]
    have h9 := Nat.mod_lt x.toBitVec.toNat (show 0 < 2 ^ 31 by decide)
    exact (Nat.mod_eq_of_lt (by omega)).symm
  exact Int64.toBitVec_inj.mp hx
theorem nI64_ne {n : Nat} (h0 : 0 < n) (h6 : n ≤ 6) : ¬ (nI n).toInt64 = 0 := by
  rcases (show n = 1 ∨ n = 2 ∨ n = 3 ∨ n = 4 ∨ n = 5 ∨ n = 6 by omega) with rfl | rfl | rfl | rfl | rfl | rfl <;> decide
theorem draw_val {g t : Nat → Int32} {gl : Nat → Int64} {b tb : Nat → Nat → Int32} {n z c m : Nat} (h0 : 0 < m) (h6 : m < 2 ^ 31) : ∃ j : Nat, j < m ∧ (FX3_draw g t gl b tb n z c (nI m)).1 = nI j := by
  obtain ⟨k, hk, e⟩ := mask31 ((1103515245 * (gl 23)) + 12345)
  refine ⟨k / 65536 % m, Nat.mod_lt _ h0, ?_⟩
  show (((((1103515245 * (gl 23)) + 12345) &&& 2147483647) / 65536) - ((((1103515245 * (gl 23)) + 12345) &&& 2147483647) / 65536) / (nI m).toInt64 * (nI m).toInt64).toInt32 = _
  rw [e, nI_l h6, show (65536 : Int64) = lN 65536 from rfl, pk_lDiv (by omega) (by decide) (by decide), pk_lRem (by omega) h0 (by omega), lN_i]
theorem draw_in {g t : Nat → Int32} {gl : Nat → Int64} {b tb : Nat → Nat → Int32} {n z c : Nat} (h0 : 0 < n) (h6 : n ≤ 6) : vp_in (FX3_draw g t gl b tb n z c (nI n)).1 6 := by
  obtain ⟨j, hj, e⟩ := draw_val (g := g) (t := t) (gl := gl) (b := b) (tb := tb) (n := n) (z := z) (c := c) (m := n) h0 (by omega)
  rw [e]
  exact vp_in_nI (by omega) (by omega)
theorem n_pos {n : Nat} (h : ¬ nI n = 0) : 0 < n := by
  rcases Nat.eq_zero_or_pos n with rfl | q
  · exact absurd rfl h
  · exact q

def FX3_wintersNow_L114 (g : Nat → Int32) (t : Nat → Int32) (n : Nat) (z : Nat) (c : Nat) (p0 : Nat) (p1 : Int32) (p2 : Int32) : Nat → Nat → Int32 → Int32 → (Nat → Int64) → (Nat → Nat → Int32) → (Nat → Nat → Int32) → Int32 × SM
  | 0, k_6, x5_5, x4_5, gl5, b5, tb5 => (if p2 = 0 then (x4_5, g, t, gl5, b5, tb5) else (if p2 = 1 then (x5_5, g, t, gl5, b5, tb5) else ((gl5 23).toInt32, g, t, gl5, b5, tb5)))
  | d_5 + 1, k_6, x5_5, x4_5, gl5, b5, tb5 => FX3_wintersNow_L114 g t n z c p0 p1 p2 d_5 (k_6 + 1) x5_5 x4_5 gl5 (uA b5 3 (upd (b5 3) k_6 (tb5 12 k_6))) tb5
def FX3_wintersNow_L42 (g : Nat → Int32) (t : Nat → Int32) (n : Nat) (z : Nat) (c : Nat) (p0 : Nat) (p1 : Int32) (p2 : Int32) : Nat → Nat → Int32 → (Nat → Int64) → (Nat → Nat → Int32) → (Nat → Nat → Int32) → Int32 × SM
  | 0, k_4, x4_3, gl3, b3, tb3 => FX3_wintersNow_L114 g t n z c p0 p1 p2 6 0 (FX3_snowAll g b3 tb3 n z c) x4_3 gl3 b3 tb3
  | d_3 + 1, k_4, x4_3, gl3, b3, tb3 => FX3_wintersNow_L42 g t n z c p0 p1 p2 d_3 (k_4 + 1) (x4_3 + (FX3_keptNow g ((FX3_melt g t ((FX3_draw g t ((FX3_draw g t gl3 b3 tb3 n z c 5).2.2.2.1) b3 tb3 n z c (nI n)).2.2.2.1) (uA b3 3 (upd (b3 3) ((FX3_draw g t ((FX3_draw g t gl3 b3 tb3 n z c 5).2.2.2.1) b3 tb3 n z c (nI n)).1).toNatClampNeg (FX3_atMost ((b3 3 ((FX3_draw g t ((FX3_draw g t gl3 b3 tb3 n z c 5).2.2.2.1) b3 tb3 n z c (nI n)).1).toNatClampNeg) + 1)))) tb3 n z c ((FX3_draw g t gl3 b3 tb3 n z c 5).1)).2.2.2.1) tb3 n z c)) ((FX3_draw g t ((FX3_draw g t gl3 b3 tb3 n z c 5).2.2.2.1) b3 tb3 n z c (nI n)).2.2.2.1) ((FX3_melt g t ((FX3_draw g t ((FX3_draw g t gl3 b3 tb3 n z c 5).2.2.2.1) b3 tb3 n z c (nI n)).2.2.2.1) (uA b3 3 (upd (b3 3) ((FX3_draw g t ((FX3_draw g t gl3 b3 tb3 n z c 5).2.2.2.1) b3 tb3 n z c (nI n)).1).toNatClampNeg (FX3_atMost ((b3 3 ((FX3_draw g t ((FX3_draw g t gl3 b3 tb3 n z c 5).2.2.2.1) b3 tb3 n z c (nI n)).1).toNatClampNeg) + 1)))) tb3 n z c ((FX3_draw g t gl3 b3 tb3 n z c 5).1)).2.2.2.1) tb3
def FX3_wintersNow_L3 (g : Nat → Int32) (t : Nat → Int32) (gl : Nat → Int64) (b : Nat → Nat → Int32) (n : Nat) (z : Nat) (c : Nat) (p0 : Nat) (p1 : Int32) (p2 : Int32) : Nat → Nat → (Nat → Nat → Int32) → Int32 × SM
  | 0, k_2, tb1 => FX3_wintersNow_L42 g t n z c p0 p1 p2 p0 0 0 (uL gl 23 p1.toInt64) b tb1
  | d_1 + 1, k_2, tb1 => FX3_wintersNow_L3 g t gl b n z c p0 p1 p2 d_1 (k_2 + 1) (uA tb1 12 (upd (tb1 12) k_2 (b 3 k_2)))
def FX3_wintersNow (g : Nat → Int32) (t : Nat → Int32) (gl : Nat → Int64) (b : Nat → Nat → Int32) (tb : Nat → Nat → Int32) (n : Nat) (z : Nat) (c : Nat) (p0 : Nat) (p1 : Int32) (p2 : Int32) : Int32 × SM := FX3_wintersNow_L3 g t gl b n z c p0 p1 p2 6 0 tb
set_option maxHeartbeats 4000000 in
set_option maxRecDepth 100000 in
/-- winters -/
theorem c_X3_wintersNow (l : Launch) (D : va_G) (cI cB : ClassId) (ad : Nat → Nat) (g t : Nat → Int32) (gl : Nat → Int64) (b tb : Nat → Nat → Int32) (n z c : Nat) (hM : IM n z c g b) (hI : wI 20 ad) (p0 : Nat) (p1 : Int32) (p2 : Int32) (hq : p0 < 2 ^ 31) (hn0 : 0 < n) : Met l yX3_wintersNow wsX3_wintersNow ({ frames := 3, cells := 0, slots := 0, locals := 65 }) (GPc D cI cB (wM cI cB ad g t gl b tb) [.ref (ad 0), .int (nI p0), .int p1, .int p2]) (va_Qi (fun (r : Int32) (u : SM) => (r, u) = FX3_wintersNow g t gl b tb n z c p0 p1 p2) (fun u t => va_P D vwCl (wM cI cB ad u.1 u.2.1 u.2.2.1 u.2.2.2.1 u.2.2.2.2) t.heap) (wA 20 ad)) 0 0 (wA 20 ad) := by
  refine Met.ofW (cc := cX3_wintersNow) (maxL := 8) (ret := (some .int)) (by decide) rfl ?_
  intro p e s m args below meth cd s₁ B hml hv
  obtain ⟨rfl, hP, hK⟩ := hv
  have hts := atoms_spec (ws := wsX3_wintersNow) B.pre
  have E : CallFix p m cd cX3_wintersNow 8 s _ wsX3_wintersNow RX3 := ⟨B.exec, B.bytes, hml, findClass_of_methodNamed B.named, hts⟩
  have hr := B.returns
  have hlocks := B.notSynchronized
  have h2n := pow6 (n := n) (by have := hM.2.1; omega)
  obtain ⟨hn, hn6, hz, hz21, hc, hc6, hfs⟩ := id hM
  have hS : va_S (wA 20 ad) s.heap s.heap [] := va_S.rf
  have in_3 : ∀ w ∈ wsX30, w ∈ wsX3_wintersNow := fun _ h => List.mem_cons_of_mem _ (List.mem_append_right _ h)
  have w_0 : (Cond.fieldLink RX3 189 "SnowTermModel" "seedNow" "J").before _ s = true := hts _ (by decide +kernel)
  have w_1 : (Cond.fieldLink RX3 16 "SnowTermModel" "deepOf" "[I").before _ s = true := hts _ (by decide +kernel)
  have w_2 : (Cond.fieldLink RX3 44 "SnowTermModel" "savedDeep" "[I").before _ s = true := hts _ (by decide +kernel)
  have w_3 : (Cond.fieldLink RX3 94 "SnowTermModel" "sites" "I").before _ s = true := hts _ (by decide +kernel)
  have hl := lv_entry ([.ref (ad 0), .int (nI p0), .int p1, .int p2]) (n := 8) (Nat.le_of_ble_eq_true rfl)
  rw [lg_entry_eq]
  generalize (lg_sl ([.ref (ad 0), .int (nI p0), .int p1, .int p2]) ++ List.replicate (8 - (lg_sl ([.ref (ad 0), .int (nI p0), .int p1, .int p2])).length) Slot.unset).toArray = ls at hl ⊢
  have hl : lv_has ls 8 [(0, .ref (ad 0)), (1, .int (nI p0)), (2, .int p1), (3, .int p2)] := hl
  refine lv_iconst (v := 0) E.1 E.2.1 dX3_wintersNow_0 (by decide) ?_
  refine lv_istore (lv' := [(4, .int 0), (0, .ref (ad 0)), (1, .int (nI p0)), (2, .int p1), (3, .int p2)]) E.1 E.2.1 dX3_wintersNow_1 hl (by decide) rfl (fun ls hl => ?_)
  have loop1 : ∀ (d_1 k_2 : Nat) (tb1 : Nat → Nat → Int32) (H : Heap) (locs : List Loc) (ls : Array Slot), k_2 + d_1 = 6 → va_P D vwCl (wM cI cB ad g t gl b tb1) H → va_S (wA 20 ad) s.heap H locs → lv_has ls 8 [(4, .int (nI k_2)), (0, .ref (ad 0)), (1, .int (nI p0)), (2, .int p1), (3, .int p2)] → W p l e (headSpec wsX3_wintersNow { frames := 3, cells := 0, slots := 0, locals := 65 }).room s m ([.ref (ad 0), .int (nI p0), .int p1, .int p2] : List Value).toArray below meth cd H locs 0 0 (MQ below (va_Qi (fun (r : Int32) (u : SM) => (r, u) = FX3_wintersNow_L3 g t gl b n z c p0 p1 p2 d_1 k_2 tb1) (fun u t => va_P D vwCl (wM cI cB ad u.1 u.2.1 u.2.2.1 u.2.2.2.1 u.2.2.2.2) t.heap) (wA 20 ad)) ([.ref (ad 0), .int (nI p0), .int p1, .int p2] : List Value).toArray s 0 0 (wA 20 ad)) (F0 m 3 ls []) := by
    intro d_1
    induction d_1 with
    | zero =>
      intro k_2 tb1 H locs ls hk1 hP hS hl
      refine lv_iload E.1 E.2.1 dX3_wintersNow_3 (lv_at hl 0 rfl) ?_
      refine lv_bipush (v := 6) E.1 E.2.1 dX3_wintersNow_5 (by decide) ?_
      refine lv_icmp_ge (x := nI k_2) (y := 6) (tgt := 30) E.1 E.2.1 dX3_wintersNow_7 (by decide) (fun _ => ?_) (fun h9 => absurd (nI_le (a := 6) (b := k_2) (by omega) (by omega)) h9)
      refine lv_aload_n E.1 E.2.1 dX3_wintersNow_30 rfl (lv_at hl 1 rfl) ?_
      refine lv_iload_n E.1 E.2.1 dX3_wintersNow_31 rfl (lv_at hl 3 rfl) ?_
      refine lv_i2l E.1 E.2.1 dX3_wintersNow_32 rfl ?_
      refine mp_0_23 (v := p1.toInt64) E hK hP in_3 w_0 hI hS dX3_wintersNow_33 (fun H locs hP hS => ?_)
      refine lv_iconst (v := 0) E.1 E.2.1 dX3_wintersNow_36 (by decide) ?_
      refine lv_istore (lv' := [(4, .int 0), (0, .ref (ad 0)), (1, .int (nI p0)), (2, .int p1), (3, .int p2)]) E.1 E.2.1 dX3_wintersNow_37 hl (by decide) rfl (fun ls hl => ?_)
      refine lv_iconst (v := 0) E.1 E.2.1 dX3_wintersNow_39 (by decide) ?_
      refine lv_istore (lv' := [(5, .int 0), (4, .int 0), (0, .ref (ad 0)), (1, .int (nI p0)), (2, .int p1), (3, .int p2)]) E.1 E.2.1 dX3_wintersNow_40 hl (by decide) rfl (fun ls hl => ?_)
      have loop3 : ∀ (d_3 k_4 : Nat) (x4_3 : Int32) (gl3 : Nat → Int64) (b3 : Nat → Nat → Int32) (tb3 : Nat → Nat → Int32) (H : Heap) (locs : List Loc) (ls : Array Slot), k_4 + d_3 = p0 → IM n z c g b3 → va_P D vwCl (wM cI cB ad g t gl3 b3 tb3) H → va_S (wA 20 ad) s.heap H locs → lv_has ls 8 [(5, .int (nI k_4)), (4, .int x4_3), (0, .ref (ad 0)), (1, .int (nI p0)), (2, .int p1), (3, .int p2)] → W p l e (headSpec wsX3_wintersNow { frames := 3, cells := 0, slots := 0, locals := 65 }).room s m ([.ref (ad 0), .int (nI p0), .int p1, .int p2] : List Value).toArray below meth cd H locs 0 0 (MQ below (va_Qi (fun (r : Int32) (u : SM) => (r, u) = FX3_wintersNow_L42 g t n z c p0 p1 p2 d_3 k_4 x4_3 gl3 b3 tb3) (fun u t => va_P D vwCl (wM cI cB ad u.1 u.2.1 u.2.2.1 u.2.2.2.1 u.2.2.2.2) t.heap) (wA 20 ad)) ([.ref (ad 0), .int (nI p0), .int p1, .int p2] : List Value).toArray s 0 0 (wA 20 ad)) (F0 m 42 ls []) := by
        intro d_3
        induction d_3 with
        | zero =>
          intro k_4 x4_3 gl3 b3 tb3 H locs ls hk3 hinv hP hS hl
          refine lv_iload E.1 E.2.1 dX3_wintersNow_42 (lv_at hl 0 rfl) ?_
          refine lv_iload_n E.1 E.2.1 dX3_wintersNow_44 rfl (lv_at hl 3 rfl) ?_
          refine lv_icmp_ge (x := nI k_4) (y := nI p0) (tgt := 105) E.1 E.2.1 dX3_wintersNow_45 (by decide) (fun _ => ?_) (fun h9 => absurd (nI_le (a := p0) (b := k_4) (by omega) (by omega)) h9)
          refine lv_aload_n E.1 E.2.1 dX3_wintersNow_105 rfl (lv_at hl 2 rfl) ?_
          refine g_VR (As := []) (rest := []) E hK hP (c_X3_snowAll l D cI cB ad g t gl3 b3 tb3 n z c hinv) (cwV 0 E.2.2.2.2 gX3_wintersNow_X3_snowAll rfl rfl rfl (by decide +kernel) ⟨Nat.le_of_ble_eq_true rfl, Nat.le_of_ble_eq_true rfl⟩) (rm0x hK hP) rfl hl.1 rfl (Nat.le_of_ble_eq_true rfl) dX3_wintersNow_106 ⟨Nat.zero_le _, Nat.zero_le _⟩ ?_
          refine lv_istore (lv' := [(5, .int (FX3_snowAll g b3 tb3 n z c)), (4, .int x4_3), (0, .ref (ad 0)), (1, .int (nI p0)), (2, .int p1), (3, .int p2)]) E.1 E.2.1 dX3_wintersNow_109 hl (by decide) rfl (fun ls hl => ?_)
          refine lv_iconst (v := 0) E.1 E.2.1 dX3_wintersNow_111 (by decide) ?_
          refine lv_istore (lv' := [(6, .int 0), (5, .int (FX3_snowAll g b3 tb3 n z c)), (4, .int x4_3), (0, .ref (ad 0)), (1, .int (nI p0)), (2, .int p1), (3, .int p2)]) E.1 E.2.1 dX3_wintersNow_112 hl (by decide) rfl (fun ls hl => ?_)
          have loop5 : ∀ (d_5 k_6 : Nat) (x5_5 : Int32) (x4_5 : Int32) (gl5 : Nat → Int64) (b5 : Nat → Nat → Int32) (tb5 : Nat → Nat → Int32) (H : Heap) (locs : List Loc) (ls : Array Slot), k_6 + d_5 = 6 → IM n z c g b5 → va_P D vwCl (wM cI cB ad g t gl5 b5 tb5) H → va_S (wA 20 ad) s.heap H locs → lv_has ls 8 [(6, .int (nI k_6)), (5, .int x5_5), (4, .int x4_5), (0, .ref (ad 0)), (1, .int (nI p0)), (2, .int p1), (3, .int p2)] → W p l e (headSpec wsX3_wintersNow { frames := 3, cells := 0, slots := 0, locals := 65 }).room s m ([.ref (ad 0), .int (nI p0), .int p1, .int p2] : List Value).toArray below meth cd H locs 0 0 (MQ below (va_Qi (fun (r : Int32) (u : SM) => (r, u) = FX3_wintersNow_L114 g t n z c p0 p1 p2 d_5 k_6 x5_5 x4_5 gl5 b5 tb5) (fun u t => va_P D vwCl (wM cI cB ad u.1 u.2.1 u.2.2.1 u.2.2.2.1 u.2.2.2.2) t.heap) (wA 20 ad)) ([.ref (ad 0), .int (nI p0), .int p1, .int p2] : List Value).toArray s 0 0 (wA 20 ad)) (F0 m 114 ls []) := by
            intro d_5
            induction d_5 with
            | zero =>
              intro k_6 x5_5 x4_5 gl5 b5 tb5 H locs ls hk5 hinv hP hS hl
              refine lv_iload E.1 E.2.1 dX3_wintersNow_114 (lv_at hl 0 rfl) ?_
              refine lv_bipush (v := 6) E.1 E.2.1 dX3_wintersNow_116 (by decide) ?_
              refine lv_icmp_ge (x := nI k_6) (y := 6) (tgt := 141) E.1 E.2.1 dX3_wintersNow_118 (by decide) (fun _ => ?_) (fun h9 => absurd (nI_le (a := 6) (b := k_6) (by omega) (by omega)) h9)
              refine lv_iload_n E.1 E.2.1 dX3_wintersNow_141 rfl (lv_at hl 6 rfl) ?_
              refine lv_if_ne (x := p2) (tgt := 150) E.1 E.2.1 dX3_wintersNow_142 (by decide) (fun h142 => ?_) (fun h142 => ?_)
              · have h142 := h142
                refine lv_iload_n E.1 E.2.1 dX3_wintersNow_150 rfl (lv_at hl 6 rfl) ?_
                refine lv_iconst (v := 1) E.1 E.2.1 dX3_wintersNow_151 (by decide) ?_
                refine lv_icmp_ne (x := p2) (y := 1) (tgt := 160) E.1 E.2.1 dX3_wintersNow_152 (by decide) (fun h152 => ?_) (fun h152 => ?_)
                · have h152 := h152
                  refine lv_aload_n E.1 E.2.1 dX3_wintersNow_160 rfl (lv_at hl 3 rfl) ?_
                  refine mg_0_23 E hK hP in_3 w_0 dX3_wintersNow_161 ?_
                  refine lv_l2i E.1 E.2.1 dX3_wintersNow_164 rfl ?_
                  exact W.iret (v := (gl5 23).toInt32) E.1 E.2.1 hr (fun tt ht _ => ⟨⟨(gl5 23).toInt32, (g, t, gl5, b5, tb5), rfl, (by rw [FX3_wintersNow_L114, if_neg h142, if_neg h152]), (show va_P D vwCl (wM cI cB ad g t gl5 b5 tb5) tt.heap from by rw [ht]; exact hP)⟩, hS.F ht⟩) hS.2.2 dX3_wintersNow_165
                · have h152 := h152
                  refine lv_iload E.1 E.2.1 dX3_wintersNow_155 (lv_at hl 1 rfl) ?_
                  refine lv_goto (tgt := 165) E.1 E.2.1 dX3_wintersNow_157 (by decide) ?_
                  exact W.iret (v := x5_5) E.1 E.2.1 hr (fun tt ht _ => ⟨⟨x5_5, (g, t, gl5, b5, tb5), rfl, (by rw [FX3_wintersNow_L114, if_neg h142, if_pos h152]), (show va_P D vwCl (wM cI cB ad g t gl5 b5 tb5) tt.heap from by rw [ht]; exact hP)⟩, hS.F ht⟩) hS.2.2 dX3_wintersNow_165
              · have h142 := h142
                refine lv_iload E.1 E.2.1 dX3_wintersNow_145 (lv_at hl 2 rfl) ?_
                refine lv_goto (tgt := 165) E.1 E.2.1 dX3_wintersNow_147 (by decide) ?_
                exact W.iret (v := x4_5) E.1 E.2.1 hr (fun tt ht _ => ⟨⟨x4_5, (g, t, gl5, b5, tb5), rfl, (by rw [FX3_wintersNow_L114, if_pos h142]), (show va_P D vwCl (wM cI cB ad g t gl5 b5 tb5) tt.heap from by rw [ht]; exact hP)⟩, hS.F ht⟩) hS.2.2 dX3_wintersNow_165
            | succ d_5 ih5 =>
              intro k_6 x5_5 x4_5 gl5 b5 tb5 H locs ls hk5 hinv hP hS hl
              refine lv_iload E.1 E.2.1 dX3_wintersNow_114 (lv_at hl 0 rfl) ?_
              refine lv_bipush (v := 6) E.1 E.2.1 dX3_wintersNow_116 (by decide) ?_
              refine lv_icmp_ge (x := nI k_6) (y := 6) (tgt := 141) E.1 E.2.1 dX3_wintersNow_118 (by decide) (fun h9 => absurd h9 (nI_ge (a := k_6) (b := 6) (by omega) (by omega))) (fun _ => ?_)
              refine lv_aload_n E.1 E.2.1 dX3_wintersNow_121 rfl (lv_at hl 3 rfl) ?_
              refine mg_0_4 E hK hP in_3 w_1 dX3_wintersNow_122 ?_
              refine lv_iload E.1 E.2.1 dX3_wintersNow_125 (lv_at hl 0 rfl) ?_
              refine lv_aload_n E.1 E.2.1 dX3_wintersNow_127 rfl (lv_at hl 3 rfl) ?_
              refine mg_0_24 E hK hP in_3 w_2 dX3_wintersNow_128 ?_
              refine lv_iload E.1 E.2.1 dX3_wintersNow_131 (lv_at hl 0 rfl) ?_
              refine ml_12 (i := nI k_6) E hK hP (vp_in_nI (by omega) (by omega)) dX3_wintersNow_133 ?_
              refine lv_topi (fun y_7 ey_7 => ?_)
              obtain rfl : y_7 = tb5 12 k_6 := ey_7.trans (by rw [nI_clamp (show k_6 < 2 ^ 31 by omega)] <;> rfl)
              refine ms_3 (v := tb5 12 k_6) (i := nI k_6) E hK hP hI hS (vp_in_nI (by omega) (by omega)) dX3_wintersNow_134 (fun H locs hP hS => ?_)
              rw [nI_clamp (show k_6 < 2 ^ 31 by omega)] at hP
              have hP : va_P D vwCl (wM cI cB ad g t gl5 (uA b5 3 (upd (b5 3) k_6 (tb5 12 k_6))) tb5) H := hP
              refine lv_iinc (v := nI (k_6 + 1)) (k := 0) (lv' := [(6, .int (nI (k_6 + 1))), (5, .int x5_5), (4, .int x4_5), (0, .ref (ad 0)), (1, .int (nI p0)), (2, .int p1), (3, .int p2)]) E.1 E.2.1 dX3_wintersNow_135 hl rfl (nI_1 k_6) (by decide) rfl (fun ls hl => ?_)
              refine lv_goto (tgt := 114) E.1 E.2.1 dX3_wintersNow_138 (by decide) ?_
              rw [show FX3_wintersNow_L114 g t n z c p0 p1 p2 (d_5 + 1) k_6 x5_5 x4_5 gl5 b5 tb5 = FX3_wintersNow_L114 g t n z c p0 p1 p2 d_5 (k_6 + 1) x5_5 x4_5 gl5 (uA b5 3 (upd (b5 3) k_6 (tb5 12 k_6))) tb5 from by rw [FX3_wintersNow_L114]]
              exact ih5 (k_6 + 1) x5_5 x4_5 gl5 (uA b5 3 (upd (b5 3) k_6 (tb5 12 k_6))) tb5 _ _ ls (by omega) ((IM_a hinv (by decide))) hP hS (lv_sub hl [0, 1, 2, 3, 4, 5, 6] rfl)
          rw [show FX3_wintersNow_L42 g t n z c p0 p1 p2 0 k_4 x4_3 gl3 b3 tb3 = FX3_wintersNow_L114 g t n z c p0 p1 p2 6 0 (FX3_snowAll g b3 tb3 n z c) x4_3 gl3 b3 tb3 from by rw [FX3_wintersNow_L42]]
          have hl : lv_has ls 8 [(6, .int (nI 0)), (5, .int (FX3_snowAll g b3 tb3 n z c)), (4, .int x4_3), (0, .ref (ad 0)), (1, .int (nI p0)), (2, .int p1), (3, .int p2)] := lv_sub hl [0, 1, 2, 3, 4, 5, 6] rfl
          exact loop5 _ _ (FX3_snowAll g b3 tb3 n z c) x4_3 gl3 b3 tb3 _ _ ls (by omega) (hinv) hP hS (lv_sub hl [0, 1, 2, 3, 4, 5, 6] rfl)
        | succ d_3 ih3 =>
          intro k_4 x4_3 gl3 b3 tb3 H locs ls hk3 hinv hP hS hl
          refine lv_iload E.1 E.2.1 dX3_wintersNow_42 (lv_at hl 0 rfl) ?_
          refine lv_iload_n E.1 E.2.1 dX3_wintersNow_44 rfl (lv_at hl 3 rfl) ?_
          refine lv_icmp_ge (x := nI k_4) (y := nI p0) (tgt := 105) E.1 E.2.1 dX3_wintersNow_45 (by decide) (fun h9 => absurd h9 (nI_ge (a := k_4) (b := p0) (by omega) (by omega))) (fun _ => ?_)
          refine lv_aload_n E.1 E.2.1 dX3_wintersNow_48 rfl (lv_at hl 2 rfl) ?_
          refine lv_iconst (v := 5) E.1 E.2.1 dX3_wintersNow_49 (by decide) ?_
          refine g_VWi (As := [.int 5]) (rest := []) E hK hP hS (fun q h => h) (c_X3_draw l D cI cB ad g t gl3 b3 tb3 n z c hinv hI 5 (by decide)) (cwV 1 E.2.2.2.2 gX3_wintersNow_X3_draw rfl rfl rfl (by decide +kernel) ⟨Nat.le_of_ble_eq_true rfl, Nat.le_of_ble_eq_true rfl⟩) (rm0x hK hP) rfl hl.1 rfl (Nat.le_of_ble_eq_true rfl) dX3_wintersNow_50 ⟨Nat.zero_le _, Nat.zero_le _⟩ (fun r_9 u_8 H1 locs hp_10 hP1 hq_11 hS => ?_)
          obtain rfl : r_9 = (FX3_draw g t gl3 b3 tb3 n z c 5).1 := congrArg Prod.fst hp_10
          obtain rfl : u_8 = (FX3_draw g t gl3 b3 tb3 n z c 5).2 := congrArg Prod.snd hp_10
          have hP : va_P D vwCl (wM cI cB ad ((FX3_draw g t gl3 b3 tb3 n z c 5).2.1) ((FX3_draw g t gl3 b3 tb3 n z c 5).2.2.1) ((FX3_draw g t gl3 b3 tb3 n z c 5).2.2.2.1) ((FX3_draw g t gl3 b3 tb3 n z c 5).2.2.2.2.1) ((FX3_draw g t gl3 b3 tb3 n z c 5).2.2.2.2.2)) H1 := hP1
          clear hP1
          generalize H1 = H at hP hS ⊢
          rw [show (FX3_draw g t gl3 b3 tb3 n z c 5).2.1 = g from kp_draw_g ..] at hP
          rw [show (FX3_draw g t gl3 b3 tb3 n z c 5).2.2.1 = t from kp_draw_t ..] at hP
          rw [show (FX3_draw g t gl3 b3 tb3 n z c 5).2.2.2.2.1 = b3 from kp_draw_b ..] at hP
          rw [show (FX3_draw g t gl3 b3 tb3 n z c 5).2.2.2.2.2 = tb3 from kp_draw_tb ..] at hP
          have hP : va_P D vwCl (wM cI cB ad g t ((FX3_draw g t gl3 b3 tb3 n z c 5).2.2.2.1) b3 tb3) H := hP
          refine lv_istore (lv' := [(6, .int ((FX3_draw g t gl3 b3 tb3 n z c 5).1)), (5, .int (nI k_4)), (4, .int x4_3), (0, .ref (ad 0)), (1, .int (nI p0)), (2, .int p1), (3, .int p2)]) E.1 E.2.1 dX3_wintersNow_53 hl (by decide) rfl (fun ls hl => ?_)
          refine lv_aload_n E.1 E.2.1 dX3_wintersNow_55 rfl (lv_at hl 3 rfl) ?_
          refine lv_aload_n E.1 E.2.1 dX3_wintersNow_56 rfl (lv_at hl 3 rfl) ?_
          refine mg_0_1 E hK hP in_3 w_3 dX3_wintersNow_57 ?_
          refine lv_topi (fun y_12 ey_12 => ?_)
          obtain rfl : y_12 = nI n := ey_12.trans (hn)
          refine g_VWi (As := [.int (nI n)]) (rest := []) E hK hP hS (fun q h => h) (c_X3_draw l D cI cB ad g t ((FX3_draw g t gl3 b3 tb3 n z c 5).2.2.2.1) b3 tb3 n z c hinv hI (nI n) (nI64_ne hn0 hn6)) (cwV 1 E.2.2.2.2 gX3_wintersNow_X3_draw rfl rfl rfl (by decide +kernel) ⟨Nat.le_of_ble_eq_true rfl, Nat.le_of_ble_eq_true rfl⟩) (rm0x hK hP) rfl hl.1 rfl (Nat.le_of_ble_eq_true rfl) dX3_wintersNow_60 ⟨Nat.zero_le _, Nat.zero_le _⟩ (fun r_14 u_13 H1 locs hp_15 hP1 hq_16 hS => ?_)
          obtain rfl : r_14 = (FX3_draw g t ((FX3_draw g t gl3 b3 tb3 n z c 5).2.2.2.1) b3 tb3 n z c (nI n)).1 := congrArg Prod.fst hp_15
          obtain rfl : u_13 = (FX3_draw g t ((FX3_draw g t gl3 b3 tb3 n z c 5).2.2.2.1) b3 tb3 n z c (nI n)).2 := congrArg Prod.snd hp_15
          have hP : va_P D vwCl (wM cI cB ad ((FX3_draw g t ((FX3_draw g t gl3 b3 tb3 n z c 5).2.2.2.1) b3 tb3 n z c (nI n)).2.1) ((FX3_draw g t ((FX3_draw g t gl3 b3 tb3 n z c 5).2.2.2.1) b3 tb3 n z c (nI n)).2.2.1) ((FX3_draw g t ((FX3_draw g t gl3 b3 tb3 n z c 5).2.2.2.1) b3 tb3 n z c (nI n)).2.2.2.1) ((FX3_draw g t ((FX3_draw g t gl3 b3 tb3 n z c 5).2.2.2.1) b3 tb3 n z c (nI n)).2.2.2.2.1) ((FX3_draw g t ((FX3_draw g t gl3 b3 tb3 n z c 5).2.2.2.1) b3 tb3 n z c (nI n)).2.2.2.2.2)) H1 := hP1
          clear hP1
          generalize H1 = H at hP hS ⊢
          rw [show (FX3_draw g t ((FX3_draw g t gl3 b3 tb3 n z c 5).2.2.2.1) b3 tb3 n z c (nI n)).2.1 = g from kp_draw_g ..] at hP
          rw [show (FX3_draw g t ((FX3_draw g t gl3 b3 tb3 n z c 5).2.2.2.1) b3 tb3 n z c (nI n)).2.2.1 = t from kp_draw_t ..] at hP
          rw [show (FX3_draw g t ((FX3_draw g t gl3 b3 tb3 n z c 5).2.2.2.1) b3 tb3 n z c (nI n)).2.2.2.2.1 = b3 from kp_draw_b ..] at hP
          rw [show (FX3_draw g t ((FX3_draw g t gl3 b3 tb3 n z c 5).2.2.2.1) b3 tb3 n z c (nI n)).2.2.2.2.2 = tb3 from kp_draw_tb ..] at hP
          have hP : va_P D vwCl (wM cI cB ad g t ((FX3_draw g t ((FX3_draw g t gl3 b3 tb3 n z c 5).2.2.2.1) b3 tb3 n z c (nI n)).2.2.2.1) b3 tb3) H := hP
          refine lv_istore (lv' := [(7, .int ((FX3_draw g t ((FX3_draw g t gl3 b3 tb3 n z c 5).2.2.2.1) b3 tb3 n z c (nI n)).1)), (6, .int ((FX3_draw g t gl3 b3 tb3 n z c 5).1)), (5, .int (nI k_4)), (4, .int x4_3), (0, .ref (ad 0)), (1, .int (nI p0)), (2, .int p1), (3, .int p2)]) E.1 E.2.1 dX3_wintersNow_63 hl (by decide) rfl (fun ls hl => ?_)
          refine lv_aload_n E.1 E.2.1 dX3_wintersNow_65 rfl (lv_at hl 4 rfl) ?_
          refine mg_0_4 E hK hP in_3 w_1 dX3_wintersNow_66 ?_
          refine lv_iload E.1 E.2.1 dX3_wintersNow_69 (lv_at hl 0 rfl) ?_
          refine lv_aload_n E.1 E.2.1 dX3_wintersNow_71 rfl (lv_at hl 4 rfl) ?_
          refine mg_0_4 E hK hP in_3 w_1 dX3_wintersNow_72 ?_
          refine lv_iload E.1 E.2.1 dX3_wintersNow_75 (lv_at hl 0 rfl) ?_
          refine ml_3 (i := (FX3_draw g t ((FX3_draw g t gl3 b3 tb3 n z c 5).2.2.2.1) b3 tb3 n z c (nI n)).1) E hK hP (draw_in hn0 hn6) dX3_wintersNow_77 ?_
          refine lv_iconst (v := 1) E.1 E.2.1 dX3_wintersNow_78 (by decide) ?_
          refine lv_iadd (x := b3 3 ((FX3_draw g t ((FX3_draw g t gl3 b3 tb3 n z c 5).2.2.2.1) b3 tb3 n z c (nI n)).1).toNatClampNeg) (y := 1) E.1 E.2.1 dX3_wintersNow_79 ?_
          refine g_SR (As := [.int ((b3 3 ((FX3_draw g t ((FX3_draw g t gl3 b3 tb3 n z c 5).2.2.2.1) b3 tb3 n z c (nI n)).1).toNatClampNeg) + 1)]) (rest := [.int ((FX3_draw g t ((FX3_draw g t gl3 b3 tb3 n z c 5).2.2.2.1) b3 tb3 n z c (nI n)).1), .ref (ad 3)]) E hK (c_X3_atMost l D cI cB ((b3 3 ((FX3_draw g t ((FX3_draw g t gl3 b3 tb3 n z c 5).2.2.2.1) b3 tb3 n z c (nI n)).1).toNatClampNeg) + 1)) (va_cwS 1 E.2.2.2.2 gX3_wintersNow_X3_atMost rfl rfl rfl (by decide +kernel) ⟨Nat.le_of_ble_eq_true rfl, Nat.le_of_ble_eq_true rfl⟩) rfl hl.1 rfl (Nat.le_of_ble_eq_true rfl) dX3_wintersNow_80 ⟨Nat.zero_le _, Nat.zero_le _⟩ ?_
          refine ms_3 (v := FX3_atMost ((b3 3 ((FX3_draw g t ((FX3_draw g t gl3 b3 tb3 n z c 5).2.2.2.1) b3 tb3 n z c (nI n)).1).toNatClampNeg) + 1)) (i := (FX3_draw g t ((FX3_draw g t gl3 b3 tb3 n z c 5).2.2.2.1) b3 tb3 n z c (nI n)).1) E hK hP hI hS (draw_in hn0 hn6) dX3_wintersNow_83 (fun H locs hP hS => ?_)
          have hP : va_P D vwCl (wM cI cB ad g t ((FX3_draw g t ((FX3_draw g t gl3 b3 tb3 n z c 5).2.2.2.1) b3 tb3 n z c (nI n)).2.2.2.1) (uA b3 3 (upd (b3 3) ((FX3_draw g t ((FX3_draw g t gl3 b3 tb3 n z c 5).2.2.2.1) b3 tb3 n z c (nI n)).1).toNatClampNeg (FX3_atMost ((b3 3 ((FX3_draw g t ((FX3_draw g t gl3 b3 tb3 n z c 5).2.2.2.1) b3 tb3 n z c (nI n)).1).toNatClampNeg) + 1)))) tb3) H := hP
          refine lv_aload_n E.1 E.2.1 dX3_wintersNow_84 rfl (lv_at hl 4 rfl) ?_
          refine lv_iload E.1 E.2.1 dX3_wintersNow_85 (lv_at hl 1 rfl) ?_
          refine g_VWv (As := [.int ((FX3_draw g t gl3 b3 tb3 n z c 5).1)]) (rest := []) E hK hP hS (fun q h => h) (c_X3_melt l D cI cB ad g t ((FX3_draw g t ((FX3_draw g t gl3 b3 tb3 n z c 5).2.2.2.1) b3 tb3 n z c (nI n)).2.2.2.1) (uA b3 3 (upd (b3 3) ((FX3_draw g t ((FX3_draw g t gl3 b3 tb3 n z c 5).2.2.2.1) b3 tb3 n z c (nI n)).1).toNatClampNeg (FX3_atMost ((b3 3 ((FX3_draw g t ((FX3_draw g t gl3 b3 tb3 n z c 5).2.2.2.1) b3 tb3 n z c (nI n)).1).toNatClampNeg) + 1)))) tb3 n z c (IM_a hinv (by decide)) hI ((FX3_draw g t gl3 b3 tb3 n z c 5).1)) (cwV 1 E.2.2.2.2 gX3_wintersNow_X3_melt rfl rfl rfl (by decide +kernel) ⟨Nat.le_of_ble_eq_true rfl, Nat.le_of_ble_eq_true rfl⟩) (rm0x hK hP) rfl hl.1 rfl (Nat.le_of_ble_eq_true rfl) dX3_wintersNow_87 ⟨Nat.zero_le _, Nat.zero_le _⟩ (fun u_17 H1 locs hp_19 hP1 hq_20 hS => ?_)
          obtain rfl : u_17 = FX3_melt g t ((FX3_draw g t ((FX3_draw g t gl3 b3 tb3 n z c 5).2.2.2.1) b3 tb3 n z c (nI n)).2.2.2.1) (uA b3 3 (upd (b3 3) ((FX3_draw g t ((FX3_draw g t gl3 b3 tb3 n z c 5).2.2.2.1) b3 tb3 n z c (nI n)).1).toNatClampNeg (FX3_atMost ((b3 3 ((FX3_draw g t ((FX3_draw g t gl3 b3 tb3 n z c 5).2.2.2.1) b3 tb3 n z c (nI n)).1).toNatClampNeg) + 1)))) tb3 n z c ((FX3_draw g t gl3 b3 tb3 n z c 5).1) := hp_19
          have hP : va_P D vwCl (wM cI cB ad ((FX3_melt g t ((FX3_draw g t ((FX3_draw g t gl3 b3 tb3 n z c 5).2.2.2.1) b3 tb3 n z c (nI n)).2.2.2.1) (uA b3 3 (upd (b3 3) ((FX3_draw g t ((FX3_draw g t gl3 b3 tb3 n z c 5).2.2.2.1) b3 tb3 n z c (nI n)).1).toNatClampNeg (FX3_atMost ((b3 3 ((FX3_draw g t ((FX3_draw g t gl3 b3 tb3 n z c 5).2.2.2.1) b3 tb3 n z c (nI n)).1).toNatClampNeg) + 1)))) tb3 n z c ((FX3_draw g t gl3 b3 tb3 n z c 5).1)).1) ((FX3_melt g t ((FX3_draw g t ((FX3_draw g t gl3 b3 tb3 n z c 5).2.2.2.1) b3 tb3 n z c (nI n)).2.2.2.1) (uA b3 3 (upd (b3 3) ((FX3_draw g t ((FX3_draw g t gl3 b3 tb3 n z c 5).2.2.2.1) b3 tb3 n z c (nI n)).1).toNatClampNeg (FX3_atMost ((b3 3 ((FX3_draw g t ((FX3_draw g t gl3 b3 tb3 n z c 5).2.2.2.1) b3 tb3 n z c (nI n)).1).toNatClampNeg) + 1)))) tb3 n z c ((FX3_draw g t gl3 b3 tb3 n z c 5).1)).2.1) ((FX3_melt g t ((FX3_draw g t ((FX3_draw g t gl3 b3 tb3 n z c 5).2.2.2.1) b3 tb3 n z c (nI n)).2.2.2.1) (uA b3 3 (upd (b3 3) ((FX3_draw g t ((FX3_draw g t gl3 b3 tb3 n z c 5).2.2.2.1) b3 tb3 n z c (nI n)).1).toNatClampNeg (FX3_atMost ((b3 3 ((FX3_draw g t ((FX3_draw g t gl3 b3 tb3 n z c 5).2.2.2.1) b3 tb3 n z c (nI n)).1).toNatClampNeg) + 1)))) tb3 n z c ((FX3_draw g t gl3 b3 tb3 n z c 5).1)).2.2.1) ((FX3_melt g t ((FX3_draw g t ((FX3_draw g t gl3 b3 tb3 n z c 5).2.2.2.1) b3 tb3 n z c (nI n)).2.2.2.1) (uA b3 3 (upd (b3 3) ((FX3_draw g t ((FX3_draw g t gl3 b3 tb3 n z c 5).2.2.2.1) b3 tb3 n z c (nI n)).1).toNatClampNeg (FX3_atMost ((b3 3 ((FX3_draw g t ((FX3_draw g t gl3 b3 tb3 n z c 5).2.2.2.1) b3 tb3 n z c (nI n)).1).toNatClampNeg) + 1)))) tb3 n z c ((FX3_draw g t gl3 b3 tb3 n z c 5).1)).2.2.2.1) ((FX3_melt g t ((FX3_draw g t ((FX3_draw g t gl3 b3 tb3 n z c 5).2.2.2.1) b3 tb3 n z c (nI n)).2.2.2.1) (uA b3 3 (upd (b3 3) ((FX3_draw g t ((FX3_draw g t gl3 b3 tb3 n z c 5).2.2.2.1) b3 tb3 n z c (nI n)).1).toNatClampNeg (FX3_atMost ((b3 3 ((FX3_draw g t ((FX3_draw g t gl3 b3 tb3 n z c 5).2.2.2.1) b3 tb3 n z c (nI n)).1).toNatClampNeg) + 1)))) tb3 n z c ((FX3_draw g t gl3 b3 tb3 n z c 5).1)).2.2.2.2)) H1 := hP1
          clear hP1
          generalize H1 = H at hP hS ⊢
          rw [show (FX3_melt g t ((FX3_draw g t ((FX3_draw g t gl3 b3 tb3 n z c 5).2.2.2.1) b3 tb3 n z c (nI n)).2.2.2.1) (uA b3 3 (upd (b3 3) ((FX3_draw g t ((FX3_draw g t gl3 b3 tb3 n z c 5).2.2.2.1) b3 tb3 n z c (nI n)).1).toNatClampNeg (FX3_atMost ((b3 3 ((FX3_draw g t ((FX3_draw g t gl3 b3 tb3 n z c 5).2.2.2.1) b3 tb3 n z c (nI n)).1).toNatClampNeg) + 1)))) tb3 n z c ((FX3_draw g t gl3 b3 tb3 n z c 5).1)).1 = g from kp_meltM_g ..] at hP
          rw [show (FX3_melt g t ((FX3_draw g t ((FX3_draw g t gl3 b3 tb3 n z c 5).2.2.2.1) b3 tb3 n z c (nI n)).2.2.2.1) (uA b3 3 (upd (b3 3) ((FX3_draw g t ((FX3_draw g t gl3 b3 tb3 n z c 5).2.2.2.1) b3 tb3 n z c (nI n)).1).toNatClampNeg (FX3_atMost ((b3 3 ((FX3_draw g t ((FX3_draw g t gl3 b3 tb3 n z c 5).2.2.2.1) b3 tb3 n z c (nI n)).1).toNatClampNeg) + 1)))) tb3 n z c ((FX3_draw g t gl3 b3 tb3 n z c 5).1)).2.1 = t from kp_meltM_t ..] at hP
          rw [show (FX3_melt g t ((FX3_draw g t ((FX3_draw g t gl3 b3 tb3 n z c 5).2.2.2.1) b3 tb3 n z c (nI n)).2.2.2.1) (uA b3 3 (upd (b3 3) ((FX3_draw g t ((FX3_draw g t gl3 b3 tb3 n z c 5).2.2.2.1) b3 tb3 n z c (nI n)).1).toNatClampNeg (FX3_atMost ((b3 3 ((FX3_draw g t ((FX3_draw g t gl3 b3 tb3 n z c 5).2.2.2.1) b3 tb3 n z c (nI n)).1).toNatClampNeg) + 1)))) tb3 n z c ((FX3_draw g t gl3 b3 tb3 n z c 5).1)).2.2.1 = (FX3_draw g t ((FX3_draw g t gl3 b3 tb3 n z c 5).2.2.2.1) b3 tb3 n z c (nI n)).2.2.2.1 from kp_meltM_gl ..] at hP
          rw [show (FX3_melt g t ((FX3_draw g t ((FX3_draw g t gl3 b3 tb3 n z c 5).2.2.2.1) b3 tb3 n z c (nI n)).2.2.2.1) (uA b3 3 (upd (b3 3) ((FX3_draw g t ((FX3_draw g t gl3 b3 tb3 n z c 5).2.2.2.1) b3 tb3 n z c (nI n)).1).toNatClampNeg (FX3_atMost ((b3 3 ((FX3_draw g t ((FX3_draw g t gl3 b3 tb3 n z c 5).2.2.2.1) b3 tb3 n z c (nI n)).1).toNatClampNeg) + 1)))) tb3 n z c ((FX3_draw g t gl3 b3 tb3 n z c 5).1)).2.2.2.2 = tb3 from kp_meltM_tb ..] at hP
          have hP : va_P D vwCl (wM cI cB ad g t ((FX3_draw g t ((FX3_draw g t gl3 b3 tb3 n z c 5).2.2.2.1) b3 tb3 n z c (nI n)).2.2.2.1) ((FX3_melt g t ((FX3_draw g t ((FX3_draw g t gl3 b3 tb3 n z c 5).2.2.2.1) b3 tb3 n z c (nI n)).2.2.2.1) (uA b3 3 (upd (b3 3) ((FX3_draw g t ((FX3_draw g t gl3 b3 tb3 n z c 5).2.2.2.1) b3 tb3 n z c (nI n)).1).toNatClampNeg (FX3_atMost ((b3 3 ((FX3_draw g t ((FX3_draw g t gl3 b3 tb3 n z c 5).2.2.2.1) b3 tb3 n z c (nI n)).1).toNatClampNeg) + 1)))) tb3 n z c ((FX3_draw g t gl3 b3 tb3 n z c 5).1)).2.2.2.1) tb3) H := hP
          refine lv_iload E.1 E.2.1 dX3_wintersNow_90 (lv_at hl 3 rfl) ?_
          refine lv_aload_n E.1 E.2.1 dX3_wintersNow_92 rfl (lv_at hl 4 rfl) ?_
          refine g_VR (As := []) (rest := [.int x4_3]) E hK hP (c_X3_keptNow l D cI cB ad g t ((FX3_draw g t ((FX3_draw g t gl3 b3 tb3 n z c 5).2.2.2.1) b3 tb3 n z c (nI n)).2.2.2.1) ((FX3_melt g t ((FX3_draw g t ((FX3_draw g t gl3 b3 tb3 n z c 5).2.2.2.1) b3 tb3 n z c (nI n)).2.2.2.1) (uA b3 3 (upd (b3 3) ((FX3_draw g t ((FX3_draw g t gl3 b3 tb3 n z c 5).2.2.2.1) b3 tb3 n z c (nI n)).1).toNatClampNeg (FX3_atMost ((b3 3 ((FX3_draw g t ((FX3_draw g t gl3 b3 tb3 n z c 5).2.2.2.1) b3 tb3 n z c (nI n)).1).toNatClampNeg) + 1)))) tb3 n z c ((FX3_draw g t gl3 b3 tb3 n z c 5).1)).2.2.2.1) tb3 n z c (melt_IM (IM_a hinv (by decide)))) (cwV 0 E.2.2.2.2 gX3_wintersNow_X3_keptNow rfl rfl rfl (by decide +kernel) ⟨Nat.le_of_ble_eq_true rfl, Nat.le_of_ble_eq_true rfl⟩) (rm0x hK hP) rfl hl.1 rfl (Nat.le_of_ble_eq_true rfl) dX3_wintersNow_93 ⟨Nat.zero_le _, Nat.zero_le _⟩ ?_
          refine lv_iadd (x := x4_3) (y := FX3_keptNow g ((FX3_melt g t ((FX3_draw g t ((FX3_draw g t gl3 b3 tb3 n z c 5).2.2.2.1) b3 tb3 n z c (nI n)).2.2.2.1) (uA b3 3 (upd (b3 3) ((FX3_draw g t ((FX3_draw g t gl3 b3 tb3 n z c 5).2.2.2.1) b3 tb3 n z c (nI n)).1).toNatClampNeg (FX3_atMost ((b3 3 ((FX3_draw g t ((FX3_draw g t gl3 b3 tb3 n z c 5).2.2.2.1) b3 tb3 n z c (nI n)).1).toNatClampNeg) + 1)))) tb3 n z c ((FX3_draw g t gl3 b3 tb3 n z c 5).1)).2.2.2.1) tb3 n z c) E.1 E.2.1 dX3_wintersNow_96 ?_
          refine lv_istore (lv' := [(4, .int (x4_3 + (FX3_keptNow g ((FX3_melt g t ((FX3_draw g t ((FX3_draw g t gl3 b3 tb3 n z c 5).2.2.2.1) b3 tb3 n z c (nI n)).2.2.2.1) (uA b3 3 (upd (b3 3) ((FX3_draw g t ((FX3_draw g t gl3 b3 tb3 n z c 5).2.2.2.1) b3 tb3 n z c (nI n)).1).toNatClampNeg (FX3_atMost ((b3 3 ((FX3_draw g t ((FX3_draw g t gl3 b3 tb3 n z c 5).2.2.2.1) b3 tb3 n z c (nI n)).1).toNatClampNeg) + 1)))) tb3 n z c ((FX3_draw g t gl3 b3 tb3 n z c 5).1)).2.2.2.1) tb3 n z c))), (7, .int ((FX3_draw g t ((FX3_draw g t gl3 b3 tb3 n z c 5).2.2.2.1) b3 tb3 n z c (nI n)).1)), (6, .int ((FX3_draw g t gl3 b3 tb3 n z c 5).1)), (5, .int (nI k_4)), (0, .ref (ad 0)), (1, .int (nI p0)), (2, .int p1), (3, .int p2)]) E.1 E.2.1 dX3_wintersNow_97 hl (by decide) rfl (fun ls hl => ?_)
          refine lv_iinc (v := nI (k_4 + 1)) (k := 3) (lv' := [(5, .int (nI (k_4 + 1))), (4, .int (x4_3 + (FX3_keptNow g ((FX3_melt g t ((FX3_draw g t ((FX3_draw g t gl3 b3 tb3 n z c 5).2.2.2.1) b3 tb3 n z c (nI n)).2.2.2.1) (uA b3 3 (upd (b3 3) ((FX3_draw g t ((FX3_draw g t gl3 b3 tb3 n z c 5).2.2.2.1) b3 tb3 n z c (nI n)).1).toNatClampNeg (FX3_atMost ((b3 3 ((FX3_draw g t ((FX3_draw g t gl3 b3 tb3 n z c 5).2.2.2.1) b3 tb3 n z c (nI n)).1).toNatClampNeg) + 1)))) tb3 n z c ((FX3_draw g t gl3 b3 tb3 n z c 5).1)).2.2.2.1) tb3 n z c))), (7, .int ((FX3_draw g t ((FX3_draw g t gl3 b3 tb3 n z c 5).2.2.2.1) b3 tb3 n z c (nI n)).1)), (6, .int ((FX3_draw g t gl3 b3 tb3 n z c 5).1)), (0, .ref (ad 0)), (1, .int (nI p0)), (2, .int p1), (3, .int p2)]) E.1 E.2.1 dX3_wintersNow_99 hl rfl (nI_1 k_4) (by decide) rfl (fun ls hl => ?_)
          refine lv_goto (tgt := 42) E.1 E.2.1 dX3_wintersNow_102 (by decide) ?_
          rw [show FX3_wintersNow_L42 g t n z c p0 p1 p2 (d_3 + 1) k_4 x4_3 gl3 b3 tb3 = FX3_wintersNow_L42 g t n z c p0 p1 p2 d_3 (k_4 + 1) (x4_3 + (FX3_keptNow g ((FX3_melt g t ((FX3_draw g t ((FX3_draw g t gl3 b3 tb3 n z c 5).2.2.2.1) b3 tb3 n z c (nI n)).2.2.2.1) (uA b3 3 (upd (b3 3) ((FX3_draw g t ((FX3_draw g t gl3 b3 tb3 n z c 5).2.2.2.1) b3 tb3 n z c (nI n)).1).toNatClampNeg (FX3_atMost ((b3 3 ((FX3_draw g t ((FX3_draw g t gl3 b3 tb3 n z c 5).2.2.2.1) b3 tb3 n z c (nI n)).1).toNatClampNeg) + 1)))) tb3 n z c ((FX3_draw g t gl3 b3 tb3 n z c 5).1)).2.2.2.1) tb3 n z c)) ((FX3_draw g t ((FX3_draw g t gl3 b3 tb3 n z c 5).2.2.2.1) b3 tb3 n z c (nI n)).2.2.2.1) ((FX3_melt g t ((FX3_draw g t ((FX3_draw g t gl3 b3 tb3 n z c 5).2.2.2.1) b3 tb3 n z c (nI n)).2.2.2.1) (uA b3 3 (upd (b3 3) ((FX3_draw g t ((FX3_draw g t gl3 b3 tb3 n z c 5).2.2.2.1) b3 tb3 n z c (nI n)).1).toNatClampNeg (FX3_atMost ((b3 3 ((FX3_draw g t ((FX3_draw g t gl3 b3 tb3 n z c 5).2.2.2.1) b3 tb3 n z c (nI n)).1).toNatClampNeg) + 1)))) tb3 n z c ((FX3_draw g t gl3 b3 tb3 n z c 5).1)).2.2.2.1) tb3 from by rw [FX3_wintersNow_L42]]
          exact ih3 (k_4 + 1) (x4_3 + (FX3_keptNow g ((FX3_melt g t ((FX3_draw g t ((FX3_draw g t gl3 b3 tb3 n z c 5).2.2.2.1) b3 tb3 n z c (nI n)).2.2.2.1) (uA b3 3 (upd (b3 3) ((FX3_draw g t ((FX3_draw g t gl3 b3 tb3 n z c 5).2.2.2.1) b3 tb3 n z c (nI n)).1).toNatClampNeg (FX3_atMost ((b3 3 ((FX3_draw g t ((FX3_draw g t gl3 b3 tb3 n z c 5).2.2.2.1) b3 tb3 n z c (nI n)).1).toNatClampNeg) + 1)))) tb3 n z c ((FX3_draw g t gl3 b3 tb3 n z c 5).1)).2.2.2.1) tb3 n z c)) ((FX3_draw g t ((FX3_draw g t gl3 b3 tb3 n z c 5).2.2.2.1) b3 tb3 n z c (nI n)).2.2.2.1) ((FX3_melt g t ((FX3_draw g t ((FX3_draw g t gl3 b3 tb3 n z c 5).2.2.2.1) b3 tb3 n z c (nI n)).2.2.2.1) (uA b3 3 (upd (b3 3) ((FX3_draw g t ((FX3_draw g t gl3 b3 tb3 n z c 5).2.2.2.1) b3 tb3 n z c (nI n)).1).toNatClampNeg (FX3_atMost ((b3 3 ((FX3_draw g t ((FX3_draw g t gl3 b3 tb3 n z c 5).2.2.2.1) b3 tb3 n z c (nI n)).1).toNatClampNeg) + 1)))) tb3 n z c ((FX3_draw g t gl3 b3 tb3 n z c 5).1)).2.2.2.1) tb3 _ _ ls (by omega) ((melt_IM (IM_a hinv (by decide)))) hP hS (lv_sub hl [0, 1, 4, 5, 6, 7] rfl)
      rw [show FX3_wintersNow_L3 g t gl b n z c p0 p1 p2 0 k_2 tb1 = FX3_wintersNow_L42 g t n z c p0 p1 p2 p0 0 0 (uL gl 23 p1.toInt64) b tb1 from by rw [FX3_wintersNow_L3]]
      have hl : lv_has ls 8 [(5, .int (nI 0)), (4, .int 0), (0, .ref (ad 0)), (1, .int (nI p0)), (2, .int p1), (3, .int p2)] := lv_sub hl [0, 1, 2, 3, 4, 5] rfl
      exact loop3 _ _ 0 (uL gl 23 p1.toInt64) b tb1 _ _ ls (by omega) (hM) hP hS (lv_sub hl [0, 1, 2, 3, 4, 5] rfl)
    | succ d_1 ih1 =>
      intro k_2 tb1 H locs ls hk1 hP hS hl
      refine lv_iload E.1 E.2.1 dX3_wintersNow_3 (lv_at hl 0 rfl) ?_
      refine lv_bipush (v := 6) E.1 E.2.1 dX3_wintersNow_5 (by decide) ?_
      refine lv_icmp_ge (x := nI k_2) (y := 6) (tgt := 30) E.1 E.2.1 dX3_wintersNow_7 (by decide) (fun h9 => absurd h9 (nI_ge (a := k_2) (b := 6) (by omega) (by omega))) (fun _ => ?_)
      refine lv_aload_n E.1 E.2.1 dX3_wintersNow_10 rfl (lv_at hl 1 rfl) ?_
      refine mg_0_24 E hK hP in_3 w_2 dX3_wintersNow_11 ?_
      refine lv_iload E.1 E.2.1 dX3_wintersNow_14 (lv_at hl 0 rfl) ?_
      refine lv_aload_n E.1 E.2.1 dX3_wintersNow_16 rfl (lv_at hl 1 rfl) ?_
      refine mg_0_4 E hK hP in_3 w_1 dX3_wintersNow_17 ?_
      refine lv_iload E.1 E.2.1 dX3_wintersNow_20 (lv_at hl 0 rfl) ?_
      refine ml_3 (i := nI k_2) E hK hP (vp_in_nI (by omega) (by omega)) dX3_wintersNow_22 ?_
      refine lv_topi (fun y_21 ey_21 => ?_)
      obtain rfl : y_21 = b 3 k_2 := ey_21.trans (by rw [nI_clamp (show k_2 < 2 ^ 31 by omega)] <;> rfl)
      refine ms_12 (v := b 3 k_2) (i := nI k_2) E hK hP hI hS (vp_in_nI (by omega) (by omega)) dX3_wintersNow_23 (fun H locs hP hS => ?_)
      rw [nI_clamp (show k_2 < 2 ^ 31 by omega)] at hP
      have hP : va_P D vwCl (wM cI cB ad g t gl b (uA tb1 12 (upd (tb1 12) k_2 (b 3 k_2)))) H := hP
      refine lv_iinc (v := nI (k_2 + 1)) (k := 0) (lv' := [(4, .int (nI (k_2 + 1))), (0, .ref (ad 0)), (1, .int (nI p0)), (2, .int p1), (3, .int p2)]) E.1 E.2.1 dX3_wintersNow_24 hl rfl (nI_1 k_2) (by decide) rfl (fun ls hl => ?_)
      refine lv_goto (tgt := 3) E.1 E.2.1 dX3_wintersNow_27 (by decide) ?_
      rw [show FX3_wintersNow_L3 g t gl b n z c p0 p1 p2 (d_1 + 1) k_2 tb1 = FX3_wintersNow_L3 g t gl b n z c p0 p1 p2 d_1 (k_2 + 1) (uA tb1 12 (upd (tb1 12) k_2 (b 3 k_2))) from by rw [FX3_wintersNow_L3]]
      exact ih1 (k_2 + 1) (uA tb1 12 (upd (tb1 12) k_2 (b 3 k_2))) _ _ ls (by omega) hP hS (lv_sub hl [0, 1, 2, 3, 4] rfl)
  rw [show FX3_wintersNow g t gl b tb n z c p0 p1 p2 = FX3_wintersNow_L3 g t gl b n z c p0 p1 p2 6 0 tb from by rw [FX3_wintersNow]]
  have hl : lv_has ls 8 [(4, .int (nI 0)), (0, .ref (ad 0)), (1, .int (nI p0)), (2, .int p1), (3, .int p2)] := lv_sub hl [0, 1, 2, 3, 4] rfl
  exact loop1 _ _ tb _ _ ls (by omega) hP hS (lv_sub hl [0, 1, 2, 3, 4] rfl)
