section ERR
variable {f g t : Nat → Int32} {gl : Nat → Int64} {a ta b tb : Nat → Nat → Int32} {q n z c : Nat}
theorem site_t {i : Nat} (hn : n ≤ 6) (hi : i < n) : FX2_isSite f a ta n z c (nI i) = 1 := by
  rw [FX2_isSite, if_neg (nI_pos (by omega)), if_neg (nI_ge (a := i) (b := n) hi (by omega))]
theorem deep_both {i j : Nat} (hs : Sites n a b) (hn : n ≤ 6) (hi : i < n) (hj : j < n) : FX2_deepWithLoadsOf f a ta n z c (nI i) (nI j) = FX3_atMost (b 4 i + b 5 j) := by
  obtain ⟨⟨-, -, -, e4, -, -⟩, -, -, -, ⟨u, -, u2, u3⟩, -, -⟩ := hs i hi
  obtain ⟨⟨-, -, -, -, -, e6⟩, -, -, -, -, -, ⟨v, -, v2, v3⟩⟩ := hs j hj
  rw [FX2_deepWithLoadsOf, if_neg (by rw [site_t hn hi]; decide), if_neg (by rw [site_t hn hj]; decide), nI_clamp (show i < 2 ^ 31 by omega), nI_clamp (show j < 2 ^ 31 by omega), e4, e6, u3, v3, deepX_n (by omega) (by omega), atM_n (by omega) (by omega)]
theorem swap_L {i0 j0 : Nat} (hs : Sites n a b) (hn : n ≤ 6) (hi : i0 < n) (hj : j0 < n) : ∀ (d k : Nat) (x : Int32), k + d = n → FX2_keptIfSwapped_L5 f a ta n z c (nI i0) (nI j0) d k x = FX3_keptBy_L5 g b tb n z c (nI i0) (nI j0) d k x := by
  intro d
  induction d with
  | zero => intro k x hk; rfl
  | succ d ih =>
    intro k x hk
    rw [FX2_keptIfSwapped_L5, FX3_keptBy_L5, Int32.add_zero, ih (k + 1) x (by omega), ih (k + 1) (x + 1) (by omega)]
    by_cases c1 : nI k = nI i0
    · have hk1 : k = i0 := (nI_eq (by omega) (by omega)).mp c1
      rw [if_pos c1, if_pos c1, hk1, deep_both hs hn hi hj, FX2_isKeptWith, FX3_isKept, nI_clamp (show i0 < 2 ^ 31 by omega), nI_clamp (show j0 < 2 ^ 31 by omega), (hs i0 hi).1.2.1]
    · rw [if_neg c1, if_neg c1]
      by_cases c2 : nI k = nI j0
      · have hk2 : k = j0 := (nI_eq (by omega) (by omega)).mp c2
        rw [if_pos c2, if_pos c2, hk2, deep_both hs hn hj hi, FX2_isKeptWith, FX3_isKept, nI_clamp (show i0 < 2 ^ 31 by omega), nI_clamp (show j0 < 2 ^ 31 by omega), (hs j0 hj).1.2.1]
      · rw [if_neg c2, if_neg c2, FX2_isKeptWith, FX3_isKept, nI_clamp (show k < 2 ^ 31 by omega), (hs k (by omega)).1.2.1, (hs k (by omega)).1.2.2.1]
theorem swap_eq {i0 j0 : Nat} (hs : Sites n a b) (hn : n ≤ 6) (hi : i0 < n) (hj : j0 < n) : FX2_keptIfSwapped f a ta n z c (nI i0) (nI j0) = FX3_keptBy g b tb n z c (nI i0) (nI j0) := swap_L hs hn hi hj n 0 0 (by omega)
/-- the best pair and its number -/
def EI (g : Nat → Int32) (b tb : Nat → Nat → Int32) (n z c : Nat) (x1 x2 : Int32) : Prop := x1 = -1 ∨ ∃ i0 j0 : Nat, i0 < n ∧ j0 < n ∧ x1 = 10 * nI i0 + nI j0 ∧ x2 = FX3_keptBy g b tb n z c (nI i0) (nI j0)
theorem err29 {k2 : Nat} {u v u' v' p0 : Int32} (hs : Sites n a b) (hn : n ≤ 6) (hk2 : k2 < n) : ∀ (d k : Nat) (x1 x2 : Int32), k + d = n → EI g b tb n z c x1 x2 → FX2_bestError_L29 f a ta n z c k2 u v d k x1 x2 = FX3_errorNow_L25 g b tb n z c p0 k2 u' v' d k x1 x2 ∧ EI g b tb n z c (FX3_errorNow_L25 g b tb n z c p0 k2 u' v' d k x1 x2).1 (FX3_errorNow_L25 g b tb n z c p0 k2 u' v' d k x1 x2).2 := by
  intro d
  induction d with
  | zero => intro k x1 x2 hk h; exact ⟨rfl, h⟩
  | succ d ih =>
    intro k x1 x2 hk h
    rw [FX2_bestError_L29, FX3_errorNow_L25, swap_eq (g := g) (tb := tb) hs hn hk2 (show k < n by omega)]
    by_cases c1 : FX3_keptBy g b tb n z c (nI k2) (nI k) ≤ x2
    · rw [if_pos c1, if_pos c1, if_pos c1]
      exact ih (k + 1) x1 x2 (by omega) h
    · rw [if_neg c1, if_neg c1, if_neg c1]
      exact ih (k + 1) _ _ (by omega) (Or.inr ⟨k2, k, hk2, by omega, rfl, rfl⟩)
theorem err16 {p0 : Int32} (hs : Sites n a b) (hn : n ≤ 6) : ∀ (d k : Nat) (x1 x2 : Int32), k + d = n → EI g b tb n z c x1 x2 → ∃ y1 y2 : Int32, FX2_bestError_L16 f a ta n z c d k x1 x2 = y1 ∧ FX3_errorNow_L10 g b tb n z c p0 d k x1 x2 = (if y1 = -1 then y1 else (if p0 = 0 then y1 else y2)) ∧ EI g b tb n z c y1 y2 := by
  intro d
  induction d with
  | zero => intro k x1 x2 hk h; exact ⟨x1, x2, rfl, rfl, h⟩
  | succ d ih =>
    intro k x1 x2 hk h
    obtain ⟨e, hE⟩ := err29 (f := f) (ta := ta) (u := x1) (v := x2) (u' := x1) (v' := x2) (p0 := p0) hs hn (show k < n by omega) (n - (k + 1)) (k + 1) x1 x2 (by omega) h
    rw [FX2_bestError_L16, FX3_errorNow_L10, e]
    exact ih (k + 1) _ _ (by omega) hE
theorem pair_dec : ∀ i, i < 6 → ∀ j, j < 6 → (10 * nI i + nI j) / 10 = nI i ∧ (10 * nI i + nI j) - nI i * 10 = nI j := by decide +kernel
theorem eq_error {p0 : Int32} (h : RC q n z c f a g b) : FX2_error f a ta n z c p0 = FX3_error g b tb n z c p0 := by
  obtain ⟨hxi, hmi, hX, hM, hp, hs, hn, hi⟩ := h
  have hn6 := hX.2.1
  rw [FX2_error, FX3_error, show FX3_within p0 0 1 = FX2_isWithin p0 0 1 from rfl]
  by_cases h1 : FX2_isWithin p0 0 1 = 0
  · rw [if_pos h1, if_pos h1]
  · rw [if_neg h1, if_neg h1]
    by_cases h2 : nI n = 0
    · rw [if_pos h2, if_pos h2]
    · rw [if_neg h2, if_neg h2, FX2_bestError, FX3_errorNow, kept_eq (g := g) (tb := tb) hn6 hs]
      obtain ⟨y1, y2, e1, e2, hE⟩ := err16 (f := f) (ta := ta) (g := g) (tb := tb) (z := z) (c := c) (p0 := p0) hs hn6 n 0 (-1) (FX3_keptNow g b tb n z c) (by omega) (Or.inl rfl)
      rw [e1, e2]
      by_cases c1 : y1 = -1
      · rw [if_pos c1, if_pos c1]
      · rw [if_neg c1, if_neg c1]
        by_cases c2 : p0 = 0
        · rw [if_pos c2, if_pos c2]
        · rw [if_neg c2, if_neg c2]
          rcases hE with hE | ⟨i0, j0, hi0, hj0, e3, e4⟩
          · exact absurd hE c1
          · obtain ⟨d1, d2⟩ := pair_dec i0 (by omega) j0 (by omega)
            rw [e3, d1, d2, e4]
            exact swap_eq hs hn6 hi0 hj0
end ERR
