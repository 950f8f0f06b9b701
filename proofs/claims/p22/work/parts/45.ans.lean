section ANS
variable {f g t : Nat → Int32} {gl : Nat → Int64} {a ta b tb : Nat → Nat → Int32} {q n z c : Nat}
theorem eq_as {p0 p1 : Int32} (h : RC q n z c f a g b) : FX2_as f a ta n z c p0 p1 = FX3_as g b tb n z c p0 p1 := by
  obtain ⟨hxi, hmi, hX, hM, hp, hs, hn, hi⟩ := h
  rw [FX2_as, FX3_as, ← site_eq (f := f) (a := a) (ta := ta) hX.2.1 p0, show FX3_within p1 0 4 = FX2_isWithin p1 0 4 from rfl]
  by_cases h1 : FX2_isSite f a ta n z c p0 = 0
  · rw [if_pos h1, if_pos h1]
  · rw [if_neg h1, if_neg h1]
    by_cases h2 : FX2_isWithin p1 0 4 = 0
    · rw [if_pos h2, if_pos h2]
    · rw [if_neg h2, if_neg h2]
      have hn6 := hX.2.1
      obtain ⟨j, hj, rfl⟩ := site_j hX.2.1 h1
      rw [nI_clamp (show j < 2 ^ 31 by omega), (hs j hj).1.1, FX2_isOfKind]
      have h10 : ¬ (1 : Int32) = 0 := by decide
      by_cases c1 : p1 = 0
      · rw [if_pos c1, if_pos c1, if_neg h10]
      rw [if_neg c1, if_neg c1]
      by_cases c2 : p1 = b 1 j
      · rw [if_pos c2, if_pos c2.symm, if_neg h10]
      have c2' : ¬ b 1 j = p1 := fun e => c2 e.symm
      rw [if_neg c2, if_neg c2']
      by_cases c3 : p1 = 2
      · rw [if_pos c3, if_pos c3]
        by_cases c4 : b 1 j = 4
        · rw [if_pos c4, if_pos c4, if_neg h10]
        · rw [if_neg c4, if_neg c4, if_pos rfl]
      · rw [if_neg c3, if_neg c3, if_pos rfl]
theorem melt_now {j : Nat} (hs : Sites n a b) (hj : j < n) (hn : n ≤ 6) (hm : Nums q f g) : FX2_meltsNow f a ta n z c (nI j) = FX3_meltsBy g b tb n z c (nI j) (g 8) := by
  obtain ⟨⟨h1, h2, h3, h4, h5, h6⟩, ⟨kv, -, k2, k3⟩, -, -, -, ⟨fv, -, f2, f3⟩, -⟩ := hs j hj
  obtain ⟨⟨n1, -⟩, ⟨s, -, s2, s3⟩, -⟩ := hm
  rw [FX2_meltsNow, nI_clamp (show j < 2 ^ 31 by omega), h1, h5, n1, s3, k3, f3, melX_dec kv (by omega) s (by omega) fv (by omega), meltsM (by omega) k3 f3 k2 s2 f2]
theorem eq_about {p0 p1 : Int32} (h : RC q n z c f a g b) : FX2_about f a ta n z c p0 p1 = FX3_about g b tb n z c p0 p1 := by
  obtain ⟨hxi, hmi, hX, hM, hp, hs, hn, hi⟩ := h
  rw [FX2_about, FX3_about, ← site_eq (f := f) (a := a) (ta := ta) hX.2.1 p0]
  by_cases h1 : FX2_isSite f a ta n z c p0 = 0
  · rw [if_pos h1, if_pos h1]
  · rw [if_neg h1, if_neg h1]
    have hn6 := hX.2.1
    obtain ⟨j, hj, rfl⟩ := site_j hX.2.1 h1
    have em := melt_now (ta := ta) (tb := tb) (z := z) (c := c) hs hj hn6 hn
    obtain ⟨⟨e1, e2, e3, e4, e5, e6⟩, -⟩ := hs j hj
    rw [FX3_siteNow, FX2_isKeptWith, FX3_isKept, nI_clamp (show j < 2 ^ 31 by omega), em, e1, e2, e3, e5, e6]
    by_cases c0 : p1 = 0
    · subst c0; rw [if_pos rfl, if_neg (by decide), if_pos rfl]
    by_cases c1 : p1 = 1
    · subst c1; rw [if_neg (by decide), if_pos rfl, if_neg (by decide), if_neg (by decide), if_pos rfl]
    by_cases c2 : p1 = 2
    · subst c2; rw [if_neg (by decide), if_neg (by decide), if_pos rfl, if_neg (by decide), if_neg (by decide), if_neg (by decide), if_pos rfl]
    by_cases c3 : p1 = 3
    · subst c3; rw [if_neg (by decide), if_neg (by decide), if_neg (by decide), if_pos rfl, if_neg (by decide), if_neg (by decide), if_neg (by decide), if_neg (by decide), if_pos rfl]
    rw [if_neg c0, if_neg c1, if_neg c2, if_neg c3, if_neg c0, if_neg c1, if_neg c2, if_neg c3]
    by_cases c4 : p1 = 4
    · subst c4; rw [if_pos rfl, if_neg (by decide), if_pos rfl]
    rw [if_neg c4, if_neg c4]
    by_cases c5 : p1 = 5
    · subst c5; rw [if_pos rfl, if_neg (show ¬ FX3_within 5 0 6 = 0 by decide), if_pos rfl]
    rw [if_neg c5, if_neg c5]
    by_cases c6 : p1 = 6
    · subst c6; rw [if_pos rfl, if_neg (by decide)]
    rw [if_neg c6]
    by_cases c7 : FX3_within p1 0 6 = 0
    · rw [if_pos c7]
    · obtain ⟨v, -, hv, rfl⟩ := within_rg (lo := 0) (hi := 6) (by omega) (by omega) c7
      rcases (show v = 0 ∨ v = 1 ∨ v = 2 ∨ v = 3 ∨ v = 4 ∨ v = 5 ∨ v = 6 by omega) with rfl | rfl | rfl | rfl | rfl | rfl | rfl
      · exact absurd rfl c0
      · exact absurd rfl c1
      · exact absurd rfl c2
      · exact absurd rfl c3
      · exact absurd rfl c4
      · exact absurd rfl c5
      · exact absurd rfl c6
theorem eq_count {p0 : Int32} (h : RC q n z c f a g b) : FX2_count f a ta n z c p0 = FX3_count g b tb n z c p0 := by
  obtain ⟨hxi, hmi, hX, hM, hp, hs, hn, hi⟩ := h
  obtain ⟨⟨n1, n2, n3, n4, n5⟩, -⟩ := hn
  rw [FX2_count, FX3_count, FX3_howMany, n1, n2, n3, n4, n5, kept_eq (g := g) (tb := tb) hX.2.1 hs, snow_eq (g := g) (tb := tb) hs]
end ANS
