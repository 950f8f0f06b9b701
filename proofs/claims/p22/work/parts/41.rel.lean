/-- site by site the two are one, and in range -/
def Sites (n : Nat) (a b : Nat → Nat → Int32) : Prop := ∀ i : Nat, i < n → (a 2 i = b 1 i ∧ a 3 i = b 2 i ∧ a 9 i = b 3 i ∧ a 10 i = b 4 i ∧ a 11 i = b 6 i ∧ a 12 i = b 5 i) ∧ Rg 0 4 (b 1 i) ∧ Rg 1 9 (b 2 i) ∧ Rg 0 30 (b 3 i) ∧ Rg 0 30 (b 4 i) ∧ Rg 0 9 (b 6 i) ∧ Rg 0 99 (b 5 i)
def Nums (q : Nat) (f g : Nat → Int32) : Prop := (f 5 = g 8 ∧ f 4 = g 9 ∧ f 6 = g 11 ∧ f 7 = g 10 ∧ f 1 = g 0) ∧ Rg 0 9 (g 8) ∧ ∃ v u : Nat, v ≤ q ∧ g 0 = nI v ∧ u ≤ v ∧ g 26 = nI u
def ImA (n : Nat) (a b : Nat → Nat → Int32) : Prop := ∀ i : Nat, i < n → (a 17 i = b 13 i ∧ a 18 i = b 14 i ∧ a 19 i = b 16 i ∧ a 20 i = b 15 i) ∧ Rg 0 30 (b 13 i) ∧ Rg 0 30 (b 14 i) ∧ Rg 0 9 (b 16 i) ∧ Rg 0 99 (b 15 i)
def Ims (n : Nat) (f g : Nat → Int32) (a b : Nat → Nat → Int32) : Prop := (f 2 = 0 ∧ (g 25 = 0 ∨ ¬ g 26 = g 0)) ∨ (f 2 = 1 ∧ (¬ g 25 = 0 ∧ g 26 = g 0) ∧ (f 9 = g 28 ∧ f 10 = g 27 ∧ f 11 = g 30 ∧ f 12 = g 29 ∧ f 13 = g 31) ∧ Rg 0 9 (g 27) ∧ ImA n a b)
def RC (q n z c : Nat) (f : Nat → Int32) (a : Nat → Nat → Int32) (g : Nat → Int32) (b : Nat → Nat → Int32) : Prop := XI f z ∧ MI g b z ∧ IX n z c f ∧ IM n z c g b ∧ PR z a b ∧ Sites n a b ∧ Nums q f g ∧ Ims n f g a b
def RR (q : Nat) (f : Nat → Int32) (a : Nat → Nat → Int32) (g : Nat → Int32) (b : Nat → Nat → Int32) : Prop := ∃ n z c : Nat, RC q n z c f a g b
theorem Nums_mono {q : Nat} {f g : Nat → Int32} (h : Nums q f g) : Nums (q + 1) f g := by
  obtain ⟨h1, h2, v, u, h3, h4, h5, h6⟩ := h
  exact ⟨h1, h2, v, u, by omega, h4, h5, h6⟩
theorem RR_mono {q : Nat} {f g : Nat → Int32} {a b : Nat → Nat → Int32} (h : RR q f a g b) : RR (q + 1) f a g b := by
  obtain ⟨n, z, c, h1, h2, h3, h4, h5, h6, h7, h8⟩ := h
  exact ⟨n, z, c, h1, h2, h3, h4, h5, h6, Nums_mono h7, h8⟩
theorem upd_rg {f : Nat → Int32} {lo hi j i : Nat} {v : Int32} (hv : Rg lo hi v) (hf : Rg lo hi (f i)) : Rg lo hi (upd f j v i) := by
  by_cases e : i = j
  · subst e; rw [pk_us]; exact hv
  · rw [pk_un e]; exact hf
theorem upd_eq {f g : Nat → Int32} {j i : Nat} {v : Int32} (h : f i = g i) : upd f j v i = upd g j v i := by
  by_cases e : i = j
  · subst e; rw [pk_us, pk_us]
  · rw [pk_un e, pk_un e]; exact h
theorem Sites_feet {n j : Nat} {a b : Nat → Nat → Int32} {v : Int32} (hs : Sites n a b) (hv : Rg 0 9 v) : Sites n (uA a 11 (upd (a 11) j v)) (uA b 6 (upd (b 6) j v)) := fun i hi => by
  obtain ⟨⟨h1, h2, h3, h4, h5, h6⟩, g1, g2, g3, g4, g5, g6⟩ := hs i hi
  exact ⟨⟨h1, h2, h3, h4, upd_eq h5, h6⟩, g1, g2, g3, g4, upd_rg hv g5, g6⟩
theorem Sites_bring {n j : Nat} {a b : Nat → Nat → Int32} {v w : Int32} (hs : Sites n a b) (hv : Rg 0 99 v) (hw : Rg 0 30 w) : Sites n (uA (uA a 12 (upd (a 12) j v)) 9 (upd (a 9) j w)) (uA (uA b 5 (upd (b 5) j v)) 3 (upd (b 3) j w)) := fun i hi => by
  obtain ⟨⟨h1, h2, h3, h4, h5, h6⟩, g1, g2, g3, g4, g5, g6⟩ := hs i hi
  exact ⟨⟨h1, h2, upd_eq h3, h4, h5, upd_eq h6⟩, g1, g2, upd_rg hw g3, g4, g5, upd_rg hv g6⟩
section RRM
variable {f g t : Nat → Int32} {gl : Nat → Int64} {a ta b tb : Nat → Nat → Int32} {q n z c : Nat}
theorem rr_tread {p0 p1 : Int32} (h : RC q n z c f a g b) : (FX2_tread f a ta n z c p0 p1).1 = (FX3_tread g t gl b tb n z c p0 p1).1 ∧ RR (q + 1) (FX2_tread f a ta n z c p0 p1).2.1 (FX2_tread f a ta n z c p0 p1).2.2.1 (FX3_tread g t gl b tb n z c p0 p1).2.1 (FX3_tread g t gl b tb n z c p0 p1).2.2.2.2.1 := by
  obtain ⟨hxi, hmi, hX, hM, hp, hs, hn, hi⟩ := id h
  have same : RR (q + 1) f a g b := RR_mono ⟨n, z, c, h⟩
  rw [FX2_tread, FX3_tread, ← site_eq (f := f) (a := a) (ta := ta) hX.2.1 p0, show FX3_within p1 0 9 = FX2_isWithin p1 0 9 from rfl]
  by_cases h1 : FX2_isSite f a ta n z c p0 = 0
  · rw [if_pos h1, if_pos h1]; exact ⟨rfl, same⟩
  · rw [if_neg h1, if_neg h1]
    by_cases h2 : FX2_isWithin p1 0 9 = 0
    · rw [if_pos h2, if_pos h2]; exact ⟨rfl, same⟩
    · rw [if_neg h2, if_neg h2]
      have hn6 := hX.2.1
      obtain ⟨j, hj, rfl⟩ := site_j hX.2.1 h1
      rw [nI_clamp (show j < 2 ^ 31 by omega)]
      exact ⟨(hs j hj).1.2.2.2.2.1, n, z, c, hxi, MI_a hmi (by decide), hX, IM_a hM (by decide), hp, Sites_feet hs (within_rg (lo := 0) (hi := 9) (by omega) (by omega) h2), Nums_mono hn, hi⟩
theorem rr_sun {p0 : Int32} (h : RC q n z c f a g b) : (FX2_sun f a ta n z c p0).1 = (FX3_sun g t gl b tb n z c p0).1 ∧ RR (q + 1) (FX2_sun f a ta n z c p0).2.1 (FX2_sun f a ta n z c p0).2.2.1 (FX3_sun g t gl b tb n z c p0).2.1 (FX3_sun g t gl b tb n z c p0).2.2.2.2.1 := by
  obtain ⟨hxi, hmi, hX, hM, hp, hs, hn, hi⟩ := id h
  have same : RR (q + 1) f a g b := RR_mono ⟨n, z, c, h⟩
  rw [FX2_sun, FX3_sun, show FX3_within p0 0 9 = FX2_isWithin p0 0 9 from rfl]
  by_cases h1 : FX2_isWithin p0 0 9 = 0
  · rw [if_pos h1, if_pos h1]; exact ⟨rfl, same⟩
  · rw [if_neg h1, if_neg h1]
    by_cases h2 : nI n = 0
    · rw [if_pos h2, if_pos h2]; exact ⟨rfl, same⟩
    · rw [if_neg h2, if_neg h2]
      obtain ⟨⟨n1, n2, n3, n4, n5⟩, n6, n7⟩ := Nums_mono hn
      exact ⟨n1, n, z, c, XI_u hxi (by decide), MI_u hmi (by decide), IX_u hX (by decide), IM_u hM (by decide), hp, hs, ⟨⟨rfl, n2, n3, n4, n5⟩, within_rg (lo := 0) (hi := 9) (by omega) (by omega) h1, n7⟩, hi⟩
theorem rr_bring {p0 p1 : Int32} (h : RC q n z c f a g b) : (FX2_bring f a ta n z c p0 p1).1 = (FX3_bring g t gl b tb n z c p0 p1).1 ∧ RR (q + 1) (FX2_bring f a ta n z c p0 p1).2.1 (FX2_bring f a ta n z c p0 p1).2.2.1 (FX3_bring g t gl b tb n z c p0 p1).2.1 (FX3_bring g t gl b tb n z c p0 p1).2.2.2.2.1 := by
  obtain ⟨hxi, hmi, hX, hM, hp, hs, hn, hi⟩ := id h
  have same : RR (q + 1) f a g b := RR_mono ⟨n, z, c, h⟩
  rw [FX2_bring, FX3_bring, ← site_eq (f := f) (a := a) (ta := ta) hX.2.1 p0, show FX3_within p1 1 9 = FX2_isWithin p1 1 9 from rfl]
  by_cases h1 : FX2_isSite f a ta n z c p0 = 0
  · rw [if_pos h1, if_pos h1]; exact ⟨rfl, same⟩
  · rw [if_neg h1, if_neg h1]
    by_cases h2 : FX2_isWithin p1 1 9 = 0
    · rw [if_pos h2, if_pos h2]; exact ⟨rfl, same⟩
    · rw [if_neg h2, if_neg h2]
      have hn6 := hX.2.1
      obtain ⟨j, hj, rfl⟩ := site_j hX.2.1 h1
      obtain ⟨w, hw1, hw2, rfl⟩ := within_rg (lo := 1) (hi := 9) (by omega) (by omega) h2
      obtain ⟨⟨-, -, e3, -, -, e6⟩, -, -, ⟨dv, hd1, hd2, hd3⟩, -, -, ⟨v, hv1, hv2, hv3⟩⟩ := hs j hj
      rw [nI_clamp (show j < 2 ^ 31 by omega), e3, e6, hd3, hv3, deepX_n (by omega) (by omega), atM_n (by omega) (by omega)]
      by_cases h3 : nI v + nI w ≤ 99
      · rw [if_pos h3, if_pos h3]
        rw [nI_add] at h3
        have hvw : v + w ≤ 99 := (nI_leI (a := v + w) (b := 99) (by omega) (by omega)).mp h3
        obtain ⟨⟨n1, n2, n3, n4, n5⟩, n6, n7⟩ := Nums_mono hn
        refine ⟨by rw [pk_us, pk_us], n, z, c, XI_u hxi (by decide), MI_u (MI_a (MI_a hmi (by decide)) (by decide)) (by decide), IX_u hX (by decide), IM_u (IM_a (IM_a hM (by decide)) (by decide)) (by decide), hp, Sites_bring hs ⟨v + w, by omega, hvw, nI_add v w⟩ ⟨min (dv + w) 30, by omega, by omega, rfl⟩, ⟨⟨n1, n2, ?_, n4, n5⟩, n6, n7⟩, hi⟩
        show f 6 + nI w * FX2_priceAt (nI j) = g 11 + nI w * (nI j + 1)
        rw [n3]
        rfl
      · rw [if_neg h3, if_neg h3]; exact ⟨rfl, same⟩
theorem rr_forget (h : RC q n z c f a g b) : (FX2_forget f a ta n z c).1 = (FX3_forget g t gl b tb n z c).1 ∧ RR (q + 1) (FX2_forget f a ta n z c).2.1 (FX2_forget f a ta n z c).2.2.1 (FX3_forget g t gl b tb n z c).2.1 (FX3_forget g t gl b tb n z c).2.2.2.2.1 := by
  obtain ⟨hxi, hmi, hX, hM, hp, hs, hn, hi⟩ := id h
  refine ⟨rfl, n, z, 0, XI_8 (c := 0) hxi (by omega), MI_12 hmi, IX_c (c2 := 0) hX (by omega), ?_, hp, hs, Nums_mono hn, hi⟩
  obtain ⟨h1, h2, h3, h4, h5, h6, h7⟩ := hM
  exact ⟨h1, h2, h3, h4, rfl, by omega, fun k hk => absurd hk (by omega)⟩
theorem rr_found {p0 p1 p2 : Int32} (h : RC q n z c f a g b) : (FX2_found f a ta n z c p0 p1 p2).1 = (FX3_found g t gl b tb n z c p0 p1 p2).1 ∧ RR (q + 1) (FX2_found f a ta n z c p0 p1 p2).2.1 (FX2_found f a ta n z c p0 p1 p2).2.2.1 (FX3_found g t gl b tb n z c p0 p1 p2).2.1 (FX3_found g t gl b tb n z c p0 p1 p2).2.2.2.2.1 := by
  obtain ⟨hxi, hmi, hX, hM, hp, hs, hn, hi⟩ := id h
  have same : RR (q + 1) f a g b := RR_mono ⟨n, z, c, h⟩
  have hc6 := hX.2.2.2.2.2
  rw [FX2_found, FX3_found, ← site_eq (f := f) (a := a) (ta := ta) hX.2.1 p0, show FX3_within p1 0 30 = FX2_isWithin p1 0 30 from rfl, show FX3_within p2 0 30 = FX2_isWithin p2 0 30 from rfl]
  by_cases h1 : FX2_isSite f a ta n z c p0 = 0
  · rw [if_pos h1, if_pos h1]; exact ⟨rfl, same⟩
  · rw [if_neg h1, if_neg h1]
    by_cases h2 : FX2_isWithin p1 0 30 = 0
    · rw [if_pos h2, if_pos h2]; exact ⟨rfl, same⟩
    · rw [if_neg h2, if_neg h2]
      by_cases h3 : FX2_isWithin p2 0 30 = 0
      · rw [if_pos h3, if_pos h3]; exact ⟨rfl, same⟩
      · rw [if_neg h3, if_neg h3, FX1_addFound]
        by_cases h4 : nI c = 6
        · have hc : c = 6 := (nI_eq (a := c) (b := 6) (by omega) (by omega)).mp h4
          subst hc
          rw [if_pos h4, if_neg (show ¬ nI 6 < 6 by decide), if_pos rfl]; exact ⟨rfl, same⟩
        · have hc := c_lt6 h4 hc6
          rw [if_neg h4, if_pos (show nI c < 6 from nI_lt (a := c) (b := 6) hc (by omega)), if_neg (show ¬ (1 : Int32) = 0 by decide)]
          have hn6 := hX.2.1
          obtain ⟨j, hj, ej⟩ := site_j hX.2.1 h1
          have hm2 := MI_found hM hmi hc ⟨j, by omega, ej⟩
          refine ⟨rfl, n, z, c + 1, XI_8 hxi (by omega), MI_a (MI_a hm2 (by decide)) (by decide), IX_c hX (by omega), ?_, hp, hs, Nums_mono hn, hi⟩
          obtain ⟨g1, g2, g3, g4, g5, g6, g7⟩ := hM
          refine ⟨g1, g2, g3, g4, rfl, by omega, fun k hk => ?_⟩
          show ∃ i : Nat, i < 6 ∧ (upd (b 7) c p0) k = nI i
          by_cases e : k = c
          · subst e; rw [pk_us]; exact ⟨j, by omega, ej⟩
          · rw [pk_un e]; exact g7 k (by omega)
end RRM
