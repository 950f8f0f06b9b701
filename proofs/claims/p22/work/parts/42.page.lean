theorem rg0 {hi : Nat} : Rg 0 hi 0 := ⟨0, by omega, by omega, rfl⟩
section RRP
variable {f g t : Nat → Int32} {gl : Nat → Int64} {a ta b tb : Nat → Nat → Int32} {q n z c : Nat}
theorem IX_3 {z' : Nat} (h : IX n z c f) (hz : z' ≤ 21) : IX n z' c (upd f 3 (nI z')) := ⟨h.1, h.2.1, pk_us, hz, h.2.2.2.2.1, h.2.2.2.2.2⟩
theorem IM_16 {z' : Nat} (h : IM n z c g b) (hz : z' ≤ 21) : IM n z' c (upd g 16 (nI z')) b := ⟨h.1, h.2.1, pk_us, hz, h.2.2.2.2.1, h.2.2.2.2.2.1, h.2.2.2.2.2.2⟩
theorem IM_b {b' : Nat → Nat → Int32} (h : IM n z c g b) (e : b' 7 = b 7) : IM n z c g b' := ⟨h.1, h.2.1, h.2.2.1, h.2.2.2.1, h.2.2.2.2.1, h.2.2.2.2.2.1, by rw [e]; exact h.2.2.2.2.2.2⟩
theorem PR_of {a' b' : Nat → Nat → Int32} (h : PR z a b) (e1 : a' 8 = a 8) (e2 : b' 10 = b 10) : PR z a' b' := by rw [PR, e1, e2]; exact h
theorem rr_letter {p0 : Int32} (h : RC q n z c f a g b) : (FX2_letter f a ta n z c p0).1 = (FX3_letter g t gl b tb n z c p0).1 ∧ RR (q + 1) (FX2_letter f a ta n z c p0).2.1 (FX2_letter f a ta n z c p0).2.2.1 (FX3_letter g t gl b tb n z c p0).2.1 (FX3_letter g t gl b tb n z c p0).2.2.2.2.1 := by
  obtain ⟨hxi, hmi, hX, hM, hp, hs, hn, hi⟩ := id h
  have same : RR (q + 1) f a g b := RR_mono ⟨n, z, c, h⟩
  have hz21 := hX.2.2.2.1
  rw [FX2_letter, FX3_letter, show FX3_within p0 32 126 = FX2_isWithin p0 32 126 from rfl]
  by_cases h1 : FX2_isWithin p0 32 126 = 0
  · rw [if_pos h1, if_pos h1]
    exact ⟨rfl, same⟩
  · rw [if_neg h1, if_neg h1, FX0_add]
    obtain ⟨v, hv1, hv2, rfl⟩ := code_nat (withinX_t h1).1 (withinX_t h1).2
    by_cases h2 : nI z = 21
    · have hz : z = 21 := (nI_eq (a := z) (b := 21) (by omega) (by omega)).mp h2
      subst hz
      rw [if_pos h2, if_neg (show ¬ nI 21 < 21 by decide), if_pos rfl]
      exact ⟨rfl, same⟩
    · have hz := z_lt21 h2 hz21
      rw [if_neg h2, if_pos (show nI z < 21 from nI_lt (a := z) (b := 21) hz (by omega)), if_neg (show ¬ (1 : Int32) = 0 by decide)]
      refine ⟨rfl, n, z + 1, c, XI_3 hxi (by omega), MI_a (MI_16 hmi (by omega)) (by decide), IX_3 hX (by omega), IM_a (IM_16 hM (by omega)) (by decide), ⟨fun i hi => ?_, fun i hi => ?_⟩, hs, Nums_mono hn, hi⟩
      · show ∃ w : Nat, 32 ≤ w ∧ w ≤ 126 ∧ (upd (a 8) z (nI v)) i = nI w
        by_cases e : i = z
        · subst e; exact ⟨v, hv1, hv2, pk_us⟩
        · rw [pk_un e]; exact hp.1 i (by omega)
      · show (upd (b 10) z (vp_nar .byte (nI v).toInt8.toInt32)) i = (upd (a 8) z (nI v)) i
        by_cases e : i = z
        · subst e; rw [pk_us, pk_us]; exact byte_dec v (by omega)
        · rw [pk_un e, pk_un e]; exact hp.2 i (by omega)
theorem rr_blank (h : RC q n z c f a g b) : (FX2_blank f a ta n z c).1 = (FX3_blank g t gl b tb n z c).1 ∧ RR (q + 1) (FX2_blank f a ta n z c).2.1 (FX2_blank f a ta n z c).2.2.1 (FX3_blank g t gl b tb n z c).2.1 (FX3_blank g t gl b tb n z c).2.2.2.2.1 := by
  obtain ⟨hxi, hmi, hX, hM, hp, hs, hn, hi⟩ := h
  exact ⟨rfl, n, 0, c, XI_3 (z' := 0) hxi (by omega), MI_16 (z' := 0) hmi (by omega), IX_3 (z' := 0) hX (by omega), IM_16 (z' := 0) hM (by omega), ⟨fun i hi => absurd hi (by omega), fun i hi => absurd hi (by omega)⟩, hs, Nums_mono hn, hi⟩
theorem rr_fault (h : RC q n z c f a g b) : FX2_fault f a ta n z c = (FX3_fault g t gl b tb n z c).1 ∧ RR (q + 1) f a (FX3_fault g t gl b tb n z c).2.1 (FX3_fault g t gl b tb n z c).2.2.2.2.1 := by
  obtain ⟨hxi, hmi, hX, hM, hp, hs, hn, hi⟩ := id h
  refine ⟨both_fault hX hmi hp, ?_⟩
  show RR (q + 1) f a (FX3_read g t gl b tb n z c).2.1 (FX3_read g t gl b tb n z c).2.2.2.2.1
  rw [kp_read_g, kp_read_b]
  exact RR_mono ⟨n, z, c, h⟩
/-- a city begins -/
theorem begin_v {p0 : Int32} : ∀ (d k : Nat) (f1 : Nat → Int32) (a1 : Nat → Nat → Int32), k + d = 6 → (∀ i : Nat, i < k → a1 9 i = 0 ∧ a1 10 i = 0 ∧ a1 11 i = 0 ∧ a1 12 i = 0) → ((FX1_begin_L27 ta n z c p0 d k f1 a1).2.1 2 = a1 2 ∧ (FX1_begin_L27 ta n z c p0 d k f1 a1).2.1 3 = a1 3) ∧ ∀ i : Nat, i < 6 → (FX1_begin_L27 ta n z c p0 d k f1 a1).2.1 9 i = 0 ∧ (FX1_begin_L27 ta n z c p0 d k f1 a1).2.1 10 i = 0 ∧ (FX1_begin_L27 ta n z c p0 d k f1 a1).2.1 11 i = 0 ∧ (FX1_begin_L27 ta n z c p0 d k f1 a1).2.1 12 i = 0 := by
  intro d
  induction d with
  | zero => intro k f1 a1 hk h; exact ⟨⟨rfl, rfl⟩, fun i hi => h i (by omega)⟩
  | succ d ih =>
    intro k f1 a1 hk h
    rw [FX1_begin_L27]
    refine ih _ _ _ (by omega) (fun i hi => ?_)
    show upd (a1 9) k 0 i = 0 ∧ upd (a1 10) k 0 i = 0 ∧ upd (a1 11) k 0 i = 0 ∧ upd (a1 12) k 0 i = 0
    by_cases e : i = k
    · subst e; exact ⟨pk_us, pk_us, pk_us, pk_us⟩
    · rw [pk_un e, pk_un e, pk_un e, pk_un e]; exact h i (by omega)
theorem mul3 (k : Nat) : nI k * 3 = nI (3 * k) := by rw [Nat.mul_comm 3 k]; exact pk_mul k 3
theorem cityX_v {a0 : Nat → Nat → Int32} (hz : z ≤ 21) (hz1 : 1 ≤ z) (hq : Pg z (a0 8)) : ∀ (d k : Nat) (f2 : Nat → Int32) (a2 : Nat → Nat → Int32), k + d = (z - 1) / 3 → a2 8 = a0 8 → (∀ i : Nat, i < k → a2 2 i = FX3_kindBy (a0 8 (3 * i)) ∧ a2 3 i = a0 8 (3 * i + 1) - 48) → ∃ a' : Nat → Nat → Int32, FX2_city_L26 ta n z c d k f2 a2 = (nI ((z - 1) / 3), upd (upd (upd (upd (upd (upd (upd (upd f2 4 0) 5 (a0 8 (z - 1) - 48)) 6 0) 7 0) 8 0) 2 0) 1 ((f2 1) + 1)) 3 0, a', ta) ∧ (∀ i : Nat, i < (z - 1) / 3 → a' 2 i = FX3_kindBy (a0 8 (3 * i)) ∧ a' 3 i = a0 8 (3 * i + 1) - 48) ∧ ∀ i : Nat, i < 6 → a' 9 i = 0 ∧ a' 10 i = 0 ∧ a' 11 i = 0 ∧ a' 12 i = 0 := by
  intro d
  induction d with
  | zero =>
    intro k f2 a2 hk h8 hv
    obtain ⟨⟨b1, b2⟩, b3⟩ := begin_v (ta := ta) (n := (z - 1) / 3) (z := z) (c := c) (p0 := a0 8 (z - 1) - 48) 6 0 (upd (upd (upd (upd (upd f2 4 0) 5 (a0 8 (z - 1) - 48)) 6 0) 7 0) 8 0) a2 rfl (fun i hi => absurd hi (by omega))
    have es : FX0_sunTold f2 a2 ta ((z - 1) / 3) z c = a0 8 (z - 1) - 48 := by
      rw [FX0_sunTold, FX0_digitAt, show (nI z - 1 : Int32) = nI (z - 1) from pk_sub (a := z) (b := 1) hz1, codeAt_n (by omega), h8]
    rw [FX2_city_L26, es]
    refine ⟨_, rfl, fun i hi => ?_, b3⟩
    show (FX1_begin_L27 ta ((z - 1) / 3) z c (a0 8 (z - 1) - 48) 6 0 (upd (upd (upd (upd (upd f2 4 0) 5 (a0 8 (z - 1) - 48)) 6 0) 7 0) 8 0) a2).2.1 2 i = _ ∧ (FX1_begin_L27 ta ((z - 1) / 3) z c (a0 8 (z - 1) - 48) 6 0 (upd (upd (upd (upd (upd f2 4 0) 5 (a0 8 (z - 1) - 48)) 6 0) 7 0) 8 0) a2).2.1 3 i = _
    rw [b1, b2]
    exact hv i (by omega)
  | succ d ih =>
    intro k f2 a2 hk h8 hv
    have ek : FX0_kindOf f2 a2 ta ((z - 1) / 3) z c (nI k) = FX3_kindBy (a0 8 (3 * k)) := by
      rw [FX0_kindOf, mul3, kindAt_n hz (by omega) (by rw [h8]; exact hq), h8]
    have ew : ∀ a3 : Nat → Nat → Int32, a3 8 = a0 8 → FX0_wantOf f2 a3 ta ((z - 1) / 3) z c (nI k) = a0 8 (3 * k + 1) - 48 := fun a3 h3 => by
      rw [FX0_wantOf, FX0_digitAt, mul3, show (nI (3 * k) + 1 : Int32) = nI (3 * k + 1) from nI_1 (3 * k), codeAt_n (by omega), h3]
    rw [FX2_city_L26, ek, ew (uA a2 2 (upd (a2 2) k (FX3_kindBy (a0 8 (3 * k))))) h8]
    refine ih (k + 1) f2 _ (by omega) h8 (fun i hi => ?_)
    show upd (a2 2) k (FX3_kindBy (a0 8 (3 * k))) i = _ ∧ upd (a2 3) k (a0 8 (3 * k + 1) - 48) i = _
    by_cases e : i = k
    · subst e; rw [pk_us, pk_us]; exact ⟨rfl, rfl⟩
    · rw [pk_un e, pk_un e]; exact hv i (by omega)
theorem cityM_v {b0 : Nat → Nat → Int32} : ∀ (d k : Nat) (g6 t6 : Nat → Int32) (b6 : Nat → Nat → Int32), k + d = (z - 1) / 3 → b6 10 = b0 10 → (∀ i : Nat, i < k → b6 1 i = FX3_kindBy (b0 10 (3 * i)) ∧ b6 2 i = b0 10 (3 * i + 1) - 48 ∧ b6 3 i = 0 ∧ b6 4 i = 0 ∧ b6 5 i = 0 ∧ b6 6 i = 0) → ∃ b' : Nat → Nat → Int32, FX3_city_L25 gl tb n z c d k g6 t6 b6 = (nI ((z - 1) / 3), upd (upd (upd (upd (upd (upd (upd g6 8 (b0 10 (z - 1) - 48)) 0 ((g6 0) + 1)) 9 0) 10 0) 11 0) 12 0) 16 0, t6, gl, b', tb) ∧ ∀ i : Nat, i < (z - 1) / 3 → b' 1 i = FX3_kindBy (b0 10 (3 * i)) ∧ b' 2 i = b0 10 (3 * i + 1) - 48 ∧ b' 3 i = 0 ∧ b' 4 i = 0 ∧ b' 5 i = 0 ∧ b' 6 i = 0 := by
  intro d
  induction d with
  | zero =>
    intro k g6 t6 b6 hk h10 hv
    rw [FX3_city_L25, h10]
    exact ⟨b6, rfl, fun i hi => hv i (by omega)⟩
  | succ d ih =>
    intro k g6 t6 b6 hk h10 hv
    rw [FX3_city_L25, h10]
    refine ih (k + 1) g6 t6 _ (by omega) h10 (fun i hi => ?_)
    show upd (b6 1) k (FX3_kindBy (b0 10 (3 * k))) i = _ ∧ upd (b6 2) k (b0 10 (3 * k + 1) - 48) i = _ ∧ upd (b6 3) k 0 i = 0 ∧ upd (b6 4) k 0 i = 0 ∧ upd (b6 5) k 0 i = 0 ∧ upd (b6 6) k 0 i = 0
    by_cases e : i = k
    · subst e; rw [pk_us, pk_us, pk_us, pk_us, pk_us, pk_us]; exact ⟨rfl, rfl, rfl, rfl, rfl, rfl⟩
    · rw [pk_un e, pk_un e, pk_un e, pk_un e, pk_un e, pk_un e]; exact hv i (by omega)
theorem kind_rg {x : Int32} (h : ¬ FX3_kindBy x = -1) : Rg 0 4 (FX3_kindBy x) := by
  rw [FX3_kindBy] at h ⊢
  by_cases h1 : x = 98
  · rw [if_pos h1]; exact ⟨3, by omega, by omega, rfl⟩
  rw [if_neg h1] at h ⊢
  by_cases h2 : x = 103
  · rw [if_pos h2]; exact ⟨2, by omega, by omega, rfl⟩
  rw [if_neg h2] at h ⊢
  by_cases h3 : x = 115
  · rw [if_pos h3]; exact ⟨0, by omega, by omega, rfl⟩
  rw [if_neg h3] at h ⊢
  by_cases h4 : x = 116
  · rw [if_pos h4]; exact ⟨4, by omega, by omega, rfl⟩
  rw [if_neg h4] at h ⊢
  by_cases h5 : x = 121
  · rw [if_pos h5]; exact ⟨1, by omega, by omega, rfl⟩
  rw [if_neg h5] at h
  exact absurd rfl h
theorem rr_city (hq : q < 1000) (h : RC q n z c f a g b) : (FX2_city f a ta n z c).1 = (FX3_city g t gl b tb n z c).1 ∧ RR (q + 1) (FX2_city f a ta n z c).2.1 (FX2_city f a ta n z c).2.2.1 (FX3_city g t gl b tb n z c).2.1 (FX3_city g t gl b tb n z c).2.2.2.2.1 := by
  obtain ⟨hxi, hmi, hX, hM, hp, hs, hn, hi⟩ := id h
  have same : RR (q + 1) f a g b := RR_mono ⟨n, z, c, h⟩
  have hz21 := hX.2.2.2.1
  have hw := parse_whole (f := f) (a := a) (ta := ta) (n := n) (c := c) (g := g) (gl := gl) (b := b) (tb := tb) (n' := n) (c' := c) (t := t) hz21 hp.1 hp.2
  rw [FX2_city, FX3_city]
  by_cases h1 : FX0_isWhole f a ta n z c = 0
  · rw [if_pos h1, if_pos (hw.mp h1)]
    exact ⟨rfl, same⟩
  · have h1M : ¬ (FX3_read g t gl b tb n z c).2.2.1 18 = 0 := fun h => h1 (hw.mpr h)
    rw [if_neg h1, if_neg h1M]
    have hz2 : 2 ≤ z := by
      rcases Nat.lt_or_ge z 2 with h2 | h2
      · exact absurd (by rw [FX0_isWhole, if_pos (show nI z < 2 from nI_lt (a := z) (b := 2) h2 (by omega))]) h1
      · exact h2
    obtain ⟨hv1, hv2⟩ := read_valid (g := g) (t := t) (gl := gl) (b := b) (tb := tb) (n := n) (z := z) (c := c) hz21 h1M
    have x1 := cityX_L (ta := ta) (n := n) (z := z) (c := c) (m := (z - 1) / 3) rfl (by omega) ((z - 1) / 3) 0 (upd f 0 (nI ((z - 1) / 3))) a (XI_0 hxi (by omega))
    have m1 := cityM_L (gl := gl) (tb := tb) (n' := n) (z := z) (c' := c) ((z - 1) / 3) 0 (upd g 1 (nI ((z - 1) / 3))) ((FX3_read g t gl b tb n z c).2.2.1) b b (MI_1 hmi (by omega)) rfl rfl
    obtain ⟨a', ea, ha1, ha2⟩ := cityX_v (ta := ta) (n := n) (z := z) (c := c) (a0 := a) hz21 (by omega) hp.1 ((z - 1) / 3) 0 (upd f 0 (nI ((z - 1) / 3))) a (by omega) rfl (fun i hi => absurd hi (by omega))
    obtain ⟨b', eb, hb1⟩ := cityM_v (gl := gl) (tb := tb) (n := n) (z := z) (c := c) (b0 := b) ((z - 1) / 3) 0 (upd g 1 (nI ((z - 1) / 3))) ((FX3_read g t gl b tb n z c).2.2.1) b (by omega) rfl (fun i hi => absurd hi (by omega))
    rw [ea] at x1 ⊢
    rw [eb] at m1 ⊢
    obtain ⟨⟨n1, n2, n3, n4, n5⟩, n6, v, u, hv, e0, hu, e26⟩ := hn
    refine ⟨rfl, (z - 1) / 3, 0, 0, x1, m1, ⟨rfl, by omega, rfl, by omega, rfl, by omega⟩, ⟨rfl, by omega, rfl, by omega, rfl, by omega, fun k hk => absurd hk (by omega)⟩, ⟨fun i hi => absurd hi (by omega), fun i hi => absurd hi (by omega)⟩, fun i hi => ?_, ⟨⟨?_, rfl, rfl, rfl, ?_⟩, within_rg (lo := 0) (hi := 9) (by omega) (by omega) hv2, v + 1, u, by omega, ?_, by omega, e26⟩, Or.inl ⟨rfl, Or.inr ?_⟩⟩
    · obtain ⟨k1, k2⟩ := ha1 i hi
      obtain ⟨z1, z2, z3, z4⟩ := ha2 i (by omega)
      obtain ⟨c1, c2, c3, c4, c5, c6⟩ := hb1 i hi
      obtain ⟨w1, w2⟩ := hv1 i hi
      have e1 := hp.2 (3 * i) (by omega)
      have e2 := hp.2 (3 * i + 1) (by omega)
      show (a' 2 i = b' 1 i ∧ a' 3 i = b' 2 i ∧ a' 9 i = b' 3 i ∧ a' 10 i = b' 4 i ∧ a' 11 i = b' 6 i ∧ a' 12 i = b' 5 i) ∧ Rg 0 4 (b' 1 i) ∧ Rg 1 9 (b' 2 i) ∧ Rg 0 30 (b' 3 i) ∧ Rg 0 30 (b' 4 i) ∧ Rg 0 9 (b' 6 i) ∧ Rg 0 99 (b' 5 i)
      rw [k1, k2, z1, z2, z3, z4, c1, c2, c3, c4, c5, c6]
      exact ⟨⟨by rw [e1], by rw [e2], rfl, rfl, rfl, rfl⟩, kind_rg w1, within_rg (lo := 1) (hi := 9) (by omega) (by omega) w2, rg0, rg0, rg0, rg0⟩
    · show a 8 (z - 1) - 48 = b 10 (z - 1) - 48
      rw [hp.2 (z - 1) (by omega)]
    · show f 1 + 1 = g 0 + 1
      rw [n5]
    · show g 0 + 1 = nI (v + 1)
      rw [e0]
      exact nI_1 v
    · show ¬ g 26 = g 0 + 1
      rw [e26, e0, nI_1 v]
      exact fun e => absurd ((nI_eq (by omega) (by omega)).mp e) (by omega)
end RRP
