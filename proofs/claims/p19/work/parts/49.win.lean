section WIN
variable {f g t : Nat → Int32} {gl : Nat → Int64} {a ta b tb : Nat → Nat → Int32} {q n z c : Nat}
/-- the seed that follows -/
def sdN (s : Nat) : Nat := (1103515245 * s + 12345) % 2147483648
theorem sdN_lt (s : Nat) : sdN s < 2 ^ 31 := Nat.mod_lt _ (by decide)
theorem l_and {x : Nat} (h : x < 2 ^ 63) : lN x &&& 2147483647 = lN (x % 2147483648) := by
  apply Int64.toBitVec_inj.mp
  apply BitVec.eq_of_toNat_eq
  rw [Int64.toBitVec_and, BitVec.toNat_and, show (2147483647 : Int64).toBitVec.toNat = 2 ^ 31 - 1 by decide, Nat.and_two_pow_sub_one_eq_mod]
  show (BitVec.ofNat 64 x).toNat % 2 ^ 31 = (BitVec.ofNat 64 (x % 2147483648)).toNat
  rw [BitVec.toNat_ofNat, BitVec.toNat_ofNat]
  omega
theorem seedX {s : Nat} (h : s < 2 ^ 31) : FX2_seedAfter (nI s) = nI (sdN s) := by
  rw [FX2_seedAfter, nI_l h, show (1103515245 : Int64) = lN 1103515245 from rfl, show (12345 : Int64) = lN 12345 from rfl, show (2147483648 : Int64) = lN 2147483648 from rfl, lN_mul, lN_add, pk_lRem (by omega) (by decide) (by decide), lN_i]
  rfl
theorem seedM {s : Nat} (h : s < 2 ^ 31) : ((1103515245 * lN s) + 12345) &&& 2147483647 = lN (sdN s) := by
  rw [show (1103515245 : Int64) = lN 1103515245 from rfl, show (12345 : Int64) = lN 12345 from rfl, lN_mul, lN_add, l_and (by omega)]
  rfl
theorem drawX {m s : Nat} (hm : 0 < m) (hm2 : m < 100) (h : s < 2 ^ 31) : FX2_drawOf (nI m) (nI s) = nI (s / 65536 % m) := by
  rw [FX2_drawOf, if_neg (nI_nle hm (by omega)), show (65536 : Int32) = nI 65536 from rfl, pk_div h (by decide) (by decide), pk_rem (by omega) hm (by omega)]
theorem drawM {m s : Nat} (hm : 0 < m) (hm2 : m < 100) (hg : gl 23 = lN s) (h : s < 2 ^ 31) : FX3_draw g t gl b tb n z c (nI m) = (nI (sdN s / 65536 % m), g, t, uL gl 23 (lN (sdN s)), b, tb) := by
  have h1 := sdN_lt s
  rw [FX3_draw, hg, seedM h, show (65536 : Int64) = lN 65536 from rfl, pk_lDiv (by omega) (by decide) (by decide), nI_l (show m < 2 ^ 31 by omega), pk_lRem (by omega) hm (by omega), lN_i]
/-- a winter's rows: the class's own row and the reference's snow -/
def Ws (n : Nat) (a ta b : Nat → Nat → Int32) : Prop := Sites n (uA a 9 (ta 6)) b
theorem Ws_snow {k : Nat} {v : Int32} (hs : Ws n a ta b) (hv : Rg 0 30 v) : Ws n a (uA ta 6 (upd (ta 6) k v)) (uA b 3 (upd (b 3) k v)) := fun i hi => by
  obtain ⟨⟨h1, h2, h3, h4, h5, h6⟩, g1, g2, g3, g4, g5, g6⟩ := hs i hi
  have h3' : ta 6 i = b 3 i := h3
  exact ⟨⟨h1, h2, upd_eq h3', h4, h5, h6⟩, g1, g2, upd_rg hv g3, g4, g5, g6⟩
theorem melt6_both {p0 : Int32} (hn : n ≤ 6) (hp : Rg 0 9 p0) : ∀ (d k : Nat) (ta b : Nat → Nat → Int32), k + d = n → Ws n a ta b → ∃ ta' : Nat → Nat → Int32, FX2_meltAll_at6_L2 f a n z c p0 d k ta = (FX2_keptIn_at6 f a ta' n z c, f, a, ta') ∧ Ws n a ta' (FX3_melt_L2 g t gl tb n z c p0 d k b).2.2.2.1 := by
  intro d
  induction d with
  | zero => intro k ta b hk hs; exact ⟨ta, rfl, hs⟩
  | succ d ih =>
    intro k ta b hk hs
    obtain ⟨w, hw, e1, e2⟩ := melt_step (g := g) (tb := tb) (z := z) (c := c) hs (show k < n by omega) hn hp
    have e1' : FX2_leftOf (ta 6 k) (FX2_melting (a 2 k) p0 (a 11 k)) = nI w := e1
    rw [FX2_meltAll_at6_L2, FX3_melt_L2, e1', e2]
    exact ih _ _ _ (by omega) (Ws_snow hs ⟨w, by omega, hw, rfl⟩)
theorem kept6_L (hn : n ≤ 6) (h : ∀ i : Nat, i < n → ta 6 i = b 3 i ∧ a 3 i = b 2 i) : ∀ (d k : Nat) (x : Int32), k + d = n → FX2_keptIn_at6_L4 f a ta n z c d k x = FX3_keptNow_L4 g b tb n z c d k x := by
  intro d
  induction d with
  | zero => intro k x hk; rfl
  | succ d ih =>
    intro k x hk
    obtain ⟨h1, h2⟩ := h k (by omega)
    rw [FX2_keptIn_at6_L4, FX3_keptNow_L4, FX2_isKeptWith, FX3_isKept, nI_clamp (by omega), h1, h2, Int32.add_zero, ih _ _ (by omega), ih _ _ (by omega)]
theorem kept6_eq (hn : n ≤ 6) (h : Ws n a ta b) : FX2_keptIn_at6 f a ta n z c = FX3_keptNow g b tb n z c := kept6_L (a := a) (ta := ta) (f := f) (g := g) (tb := tb) (z := z) (c := c) hn (fun i hi => ⟨(h i hi).1.2.2.1, (h i hi).1.2.1⟩) n 0 0 (by omega)
theorem snow6_L (h : ∀ i : Nat, i < n → ta 6 i = b 3 i) : ∀ (d k : Nat) (x : Int32), k + d = n → FX2_snowIn_at6_L4 f a ta n z c d k x = FX3_snowAll_L4 g b tb n z c d k x := by
  intro d
  induction d with
  | zero => intro k x hk; rfl
  | succ d ih =>
    intro k x hk
    rw [FX2_snowIn_at6_L4, FX3_snowAll_L4, h k (by omega), ih _ _ (by omega)]
theorem snow6_eq (h : Ws n a ta b) : FX2_snowIn_at6 f a ta n z c = FX3_snowAll g b tb n z c := snow6_L (a := a) (ta := ta) (f := f) (g := g) (tb := tb) (z := z) (c := c) (fun i hi => (h i hi).1.2.2.1) n 0 0 (by omega)
theorem w114_1 {p0 : Nat} {p1 p2 : Int32} : ∀ (d k : Nat) (x y : Int32) (gl : Nat → Int64) (b tb : Nat → Nat → Int32), (FX3_wintersNow_L114 g t n z c p0 p1 p2 d k x y gl b tb).1 = (if p2 = 0 then y else (if p2 = 1 then x else (gl 23).toInt32)) := by
  intro d
  induction d with
  | zero =>
    intro k x y gl b tb
    rw [FX3_wintersNow_L114]
    by_cases c0 : p2 = 0
    · rw [if_pos c0, if_pos c0]
    rw [if_neg c0, if_neg c0]
    by_cases c1 : p2 = 1
    · rw [if_pos c1, if_pos c1]
    rw [if_neg c1, if_neg c1]
  | succ d ih => intro k x y gl b tb; rw [FX3_wintersNow_L114]; exact ih ..
theorem win_L {p0 : Int32} {pN : Nat} {p1 p2 : Int32} (hn : n ≤ 6) (hn0 : 0 < n) : ∀ (d k s : Nat) (x : Int32) (ta : Nat → Nat → Int32) (gl : Nat → Int64) (b tb : Nat → Nat → Int32), s < 2 ^ 31 → gl 23 = lN s → Ws n a ta b → (FX2_winters_L63 f a n z c p0 p1 p2 d k x (nI s) ta).1 = (FX3_wintersNow_L42 g t n z c pN p1 p2 d k x gl b tb).1 := by
  intro d
  induction d with
  | zero =>
    intro k s x ta gl b tb hs hg hw
    rw [FX2_winters_L63, FX3_wintersNow_L42, w114_1, hg, lN_i, snow6_eq (g := g) (tb := tb) hw]
    by_cases c0 : p2 = 0
    · rw [if_pos c0, if_pos c0]
    rw [if_neg c0, if_neg c0]
    by_cases c1 : p2 = 1
    · rw [if_pos c1, if_pos c1]
    rw [if_neg c1, if_neg c1]
  | succ d ih =>
    intro k s x ta gl b tb hs hg hw
    have h1 := sdN_lt s
    have h2 := sdN_lt (sdN s)
    have hj : sdN (sdN s) / 65536 % n < n := Nat.mod_lt _ hn0
    have h5 : sdN s / 65536 % 5 < 5 := Nat.mod_lt _ (by decide)
    have d1 : FX3_draw g t gl b tb n z c 5 = (nI (sdN s / 65536 % 5), g, t, uL gl 23 (lN (sdN s)), b, tb) := drawM (m := 5) (by decide) (by decide) hg hs
    have d2 : FX3_draw g t (uL gl 23 (lN (sdN s))) b tb n z c (nI n) = (nI (sdN (sdN s) / 65536 % n), g, t, uL (uL gl 23 (lN (sdN s))) 23 (lN (sdN (sdN s))), b, tb) := drawM hn0 (by omega) rfl h1
    have x1 : FX2_drawOf 5 (nI (sdN s)) = nI (sdN s / 65536 % 5) := drawX (m := 5) (by decide) (by decide) h1
    rw [FX2_winters_L63, FX3_wintersNow_L42, seedX hs, seedX h1, x1, drawX hn0 (by omega) h2, d1]
    dsimp only
    rw [d2]
    dsimp only
    generalize sdN (sdN s) / 65536 % n = j at hj
    have hb1 : FX2_bringOneLoad_at6 f a ta n z c (nI j) = (f, a, uA ta 6 (upd (ta 6) j (FX2_deepened (ta 6 j) 1))) := by
      rw [FX2_bringOneLoad_at6, if_neg (by rw [site_t hn hj]; decide), nI_clamp (show j < 2 ^ 31 by omega)]
    rw [hb1, nI_clamp (show j < 2 ^ 31 by omega)]
    obtain ⟨⟨-, -, q3, -⟩, -, -, ⟨v, -, v2, v3⟩, -⟩ := hw j hj
    have q3' : ta 6 j = b 3 j := q3
    have e1 : FX2_deepened (ta 6 j) 1 = nI (min (v + 1) 30) := by rw [q3', v3]; exact deepX_n (m := 1) (by omega) (by omega)
    have e2 : FX3_atMost (b 3 j + 1) = nI (min (v + 1) 30) := by rw [v3]; exact atM_n (m := 1) (by omega) (by omega)
    rw [e1, e2]
    dsimp only
    have hw2 : Ws n a (uA ta 6 (upd (ta 6) j (nI (min (v + 1) 30)))) (uA b 3 (upd (b 3) j (nI (min (v + 1) 30)))) := Ws_snow hw ⟨_, by omega, by omega, rfl⟩
    obtain ⟨ta', e3, hw3⟩ := melt6_both (f := f) (g := g) (t := t) (gl := uL (uL gl 23 (lN (sdN s))) 23 (lN (sdN (sdN s)))) (tb := tb) (z := z) (c := c) (p0 := nI (sdN s / 65536 % 5)) hn ⟨_, by omega, by omega, rfl⟩ n 0 _ _ (by omega) hw2
    have e3' : FX2_meltAll_at6 f a (uA ta 6 (upd (ta 6) j (nI (min (v + 1) 30)))) n z c (nI (sdN s / 65536 % 5)) = (FX2_keptIn_at6 f a ta' n z c, f, a, ta') := e3
    rw [e3']
    dsimp only
    rw [kept6_eq (g := g) (tb := tb) hn hw3]
    exact ih _ _ _ _ _ _ _ h2 rfl hw3
theorem w3_1 {p0 : Nat} {p1 p2 : Int32} : ∀ (d k : Nat) (tb : Nat → Nat → Int32), ∃ tb' : Nat → Nat → Int32, FX3_wintersNow_L3 g t gl b n z c p0 p1 p2 d k tb = FX3_wintersNow_L42 g t n z c p0 p1 p2 p0 0 0 (uL gl 23 p1.toInt64) b tb' := by
  intro d
  induction d with
  | zero => intro k tb; exact ⟨tb, rfl⟩
  | succ d ih => intro k tb; rw [FX3_wintersNow_L3]; exact ih _ _
theorem rr_winters {p0 p1 p2 : Int32} (h : RC q n z c f a g b) : (FX2_winters f a ta n z c p0 p1 p2).1 = (FX3_winters g t gl b tb n z c p0 p1 p2).1 := by
  obtain ⟨hxi, hmi, hX, hM, hp, hs, hn, hi⟩ := h
  have hn6 := hX.2.1
  rw [FX2_winters, FX3_winters, show FX3_within p0 1 60 = FX2_isWithin p0 1 60 from rfl, show FX3_within p2 0 2 = FX2_isWithin p2 0 2 from rfl]
  by_cases h1 : FX2_isWithin p0 1 60 = 0
  · rw [if_pos h1, if_pos h1]
  rw [if_neg h1, if_neg h1]
  by_cases h2 : p1 < 0
  · rw [if_pos h2, if_pos h2]
  rw [if_neg h2, if_neg h2]
  by_cases h3 : FX2_isWithin p2 0 2 = 0
  · rw [if_pos h3, if_pos h3]
  rw [if_neg h3, if_neg h3]
  by_cases h4 : nI n = 0
  · rw [if_pos h4, if_pos h4]
  rw [if_neg h4, if_neg h4]
  have hn0 : 0 < n := by
    rcases Nat.eq_zero_or_pos n with e | e
    · subst e; exact absurd rfl h4
    · exact e
  obtain ⟨s, hs31, rfl⟩ := nI_of h2
  obtain ⟨tb', e1⟩ := w3_1 (g := g) (t := t) (gl := gl) (b := b) (n := n) (z := z) (c := c) (p0 := p0.toNatClampNeg) (p1 := nI s) (p2 := p2) 6 0 tb
  have e2 : FX3_wintersNow g t gl b tb n z c p0.toNatClampNeg (nI s) p2 = FX3_wintersNow_L42 g t n z c p0.toNatClampNeg (nI s) p2 p0.toNatClampNeg 0 0 (uL gl 23 (nI s).toInt64) b tb' := e1
  rw [e2, nI_l hs31]
  refine win_L hn6 hn0 _ _ _ _ _ _ _ _ hs31 rfl (fun i hi => ?_)
  obtain ⟨⟨h1, h2, h3, h4, h5, h6⟩, g1, g2, g3, g4, g5, g6⟩ := hs i hi
  refine ⟨⟨h1, h2, ?_, h4, h5, h6⟩, g1, g2, g3, g4, g5, g6⟩
  show va_cpy (a 9) (ta 6) 0 0 6 i = b 3 i
  rw [cpy6 (by omega)]
  exact h3
end WIN
