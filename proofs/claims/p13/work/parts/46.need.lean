section NEED
variable {f g t : Nat → Int32} {gl : Nat → Int64} {a ta b tb : Nat → Nat → Int32} {q n z c : Nat}
/-- what a site needs, as a number -/
def ndN (w m dd dp : Nat) : Int32 := if w + dd * m ≤ 30 then nI (w + dd * m - dp) else -1
theorem needX {j w m dd dp : Nat} (hj : j < 2 ^ 31) (h3 : a 3 j = nI w) (h9 : a 9 j = nI dp) (hm : FX2_meltsNow f a ta n z c (nI j) = nI m) (hw : w ≤ 9) (hm2 : m ≤ 18) (hd : dd ≤ 9) (hp : dp ≤ 30) : FX2_loadsNeeded f a ta n z c (nI j) (nI dd) = ndN w m dd dp := by
  have hb : dd * m ≤ 162 := Nat.mul_le_mul hd hm2
  rw [FX2_loadsNeeded, hm, nI_clamp hj, h3, h9, pk_mul, nI_add, ndN]
  by_cases hW : w + dd * m ≤ 30
  · rw [if_pos (show nI (w + dd * m) ≤ 30 from (nI_leI (a := w + dd * m) (b := 30) (by omega) (by omega)).mpr hW), if_pos hW]
    rcases Nat.lt_or_ge dp (w + dd * m) with h | h
    · rw [pk_sub (by omega), if_pos (show 0 < nI (w + dd * m - dp) from nI_lt (a := 0) (b := w + dd * m - dp) (by omega) (by omega))]
    · rw [if_neg, show w + dd * m - dp = 0 by omega]
      · rfl
      · rcases Nat.eq_or_lt_of_le h with e | e
        · rw [e, pk_sub (Nat.le_refl _), Nat.sub_self]; decide
        · have hneg := pk_sneg (a := w + dd * m) (b := dp) (by omega) e
          intro h0
          rw [Int32.lt_iff_toInt_lt] at hneg h0
          have e0 : (0 : Int32).toInt = 0 := by decide
          omega
  · rw [if_neg (show ¬ nI (w + dd * m) ≤ 30 from fun h => hW ((nI_leI (a := w + dd * m) (b := 30) (by omega) (by omega)).mp h)), if_neg hW]
theorem kf_0 {p0 p1 : Int32} {p2 : Nat} : ∀ (d k : Nat) (x : Int32), FX3_isKeptFor_L37 g b tb n z c p0 p1 p2 d k x 0 = 0 := by
  intro d
  induction d with
  | zero => intro k x; rfl
  | succ d ih => intro k x; rw [FX3_isKeptFor_L37, if_pos rfl]; exact ih _ _
theorem kf_1 {j w m : Nat} {p1 : Int32} {p2 : Nat} (hj : j < 2 ^ 31) (h2 : b 2 j = nI w) (hm : FX3_meltsBy g b tb n z c (nI j) (g 8) = nI m) (hw1 : 1 ≤ w) (hw : w ≤ 9) (hm2 : m ≤ 18) : ∀ (d k D : Nat), D ≤ 30 → FX3_isKeptFor_L37 g b tb n z c (nI j) p1 p2 d k (nI D) 1 = if d = 0 ∨ w + d * m ≤ D then 1 else 0 := by
  intro d
  induction d with
  | zero => intro k D hD; rw [FX3_isKeptFor_L37, if_pos (Or.inl rfl)]
  | succ d ih =>
    intro k D hD
    have e1 : (d + 1) * m = d * m + m := Nat.succ_mul d m
    rw [FX3_isKeptFor_L37, if_neg (show ¬ (1 : Int32) = 0 by decide), hm, notB_n (by omega) (by omega), FX3_isKept, nI_clamp hj, h2, e1]
    rcases Nat.lt_or_ge (D - m) w with h | h
    · rw [if_pos (show nI (D - m) < nI w from nI_lt h (by omega)), if_pos rfl, kf_0, if_neg (by omega)]
    · rw [if_neg (show ¬ nI (D - m) < nI w from nI_nlt h (by omega)), if_neg (show ¬ (1 : Int32) = 0 by decide), ih _ _ (by omega)]
      by_cases hR : w + (d * m + m) ≤ D
      · rw [if_pos (Or.inr (by omega)), if_pos (Or.inr hR)]
      · have hd0 : d ≠ 0 := fun e => hR (by subst e; omega)
        rw [if_neg (by omega), if_neg (by omega)]
theorem kf_all {j w m dp k dd : Nat} (hj : j < 2 ^ 31) (h2 : b 2 j = nI w) (h3 : b 3 j = nI dp) (hm : FX3_meltsBy g b tb n z c (nI j) (g 8) = nI m) (hw1 : 1 ≤ w) (hw : w ≤ 9) (hm2 : m ≤ 18) (hp : dp ≤ 30) (hk : k ≤ 30) (hd : dd ≤ 9) : FX3_isKeptFor g b tb n z c (nI j) (nI k) dd = if w + dd * m ≤ min (dp + k) 30 then 1 else 0 := by
  rw [FX3_isKeptFor, nI_clamp hj, h3, atM_n (by omega) (by omega)]
  rcases Nat.eq_zero_or_pos dd with rfl | h0
  · rw [if_neg (show ¬ 0 < nI 0 by decide), FX3_isKept, nI_clamp hj, h2, Nat.zero_mul, Nat.add_zero]
    rcases Nat.lt_or_ge (min (dp + k) 30) w with h | h
    · rw [if_pos (show nI (min (dp + k) 30) < nI w from nI_lt h (by omega)), if_pos rfl, if_neg (by omega)]; rfl
    · rw [if_neg (show ¬ nI (min (dp + k) 30) < nI w from nI_nlt h (by omega)), if_neg (show ¬ (1 : Int32) = 0 by decide), if_pos h]; rfl
  · rw [if_pos (show 0 < nI dd from nI_lt (a := 0) (b := dd) h0 (by omega)), kf_1 hj h2 hm hw1 hw hm2 dd 0 _ (by omega)]
    by_cases hR : w + dd * m ≤ min (dp + k) 30
    · rw [if_pos (Or.inr hR), if_pos hR]
    · rw [if_neg (fun h => h.elim (fun e => by omega) hR), if_neg hR]
theorem needM_L {j w m dp dd : Nat} (hj : j < 2 ^ 31) (h2 : b 2 j = nI w) (h3 : b 3 j = nI dp) (hm : FX3_meltsBy g b tb n z c (nI j) (g 8) = nI m) (hw1 : 1 ≤ w) (hw : w ≤ 9) (hm2 : m ≤ 18) (hp : dp ≤ 30) (hd : dd ≤ 9) : ∀ (d k : Nat), k + d = 31 → (∀ i : Nat, i < k → ¬ w + dd * m ≤ min (dp + i) 30) → FX3_needOf_L2 g b tb n z c (nI j) dd d k = ndN w m dd dp := by
  intro d
  induction d with
  | zero =>
    intro k hk h
    have h30 := h 30 (by omega)
    rw [FX3_needOf_L2, ndN, if_neg (by omega)]
  | succ d ih =>
    intro k hk h
    rw [FX3_needOf_L2, kf_all hj h2 h3 hm hw1 hw hm2 hp (by omega) hd]
    by_cases hW : w + dd * m ≤ min (dp + k) 30
    · rw [if_pos hW, if_neg (show ¬ (1 : Int32) = 0 by decide), ndN, if_pos (by omega)]
      have e : k = w + dd * m - dp := by
        rcases Nat.eq_zero_or_pos k with h0 | h0
        · subst h0; omega
        · have h4 := h (k - 1) (by omega); omega
      exact congrArg nI e
    · rw [if_neg hW, if_pos rfl]
      refine ih (k + 1) (by omega) (fun i hi => ?_)
      rcases Nat.lt_or_ge i k with h5 | h5
      · exact h i h5
      · rw [show i = k by omega]; exact hW
/-- both needs are one -/
theorem need_both {j dd : Nat} (hs : Sites n a b) (hj : j < n) (hn : n ≤ 6) (hm : Nums q f g) (hd : dd ≤ 9) : ∃ w m dp : Nat, FX2_loadsNeeded f a ta n z c (nI j) (nI dd) = ndN w m dd dp ∧ FX3_needOf g b tb n z c (nI j) dd = ndN w m dd dp := by
  have em := melt_now (ta := ta) (tb := tb) (z := z) (c := c) hs hj hn hm
  obtain ⟨⟨h1, h2, h3, h4, h5, h6⟩, ⟨kv, -, k2, k3⟩, ⟨w, w1, w2, w3⟩, ⟨dp, -, d2, d3⟩, -, ⟨fv, -, f2, f3⟩, -⟩ := hs j hj
  obtain ⟨-, ⟨s, -, s2, s3⟩, -⟩ := hm
  have eM : FX3_meltsBy g b tb n z c (nI j) (g 8) = nI (melN kv s fv) := by rw [s3]; exact meltsM (by omega) k3 f3 k2 s2 f2
  have hml := melN_le (k := kv) s2 f2
  exact ⟨w, melN kv s fv, dp, needX (by omega) (h2.trans w3) (h3.trans d3) (em.trans eM) w2 hml hd d2, needM_L (by omega) w3 d3 eM w1 w2 hml d2 hd 31 0 rfl (fun i hi => absurd hi (by omega))⟩
theorem eq_need {p0 p1 : Int32} (h : RC q n z c f a g b) : FX2_need f a ta n z c p0 p1 = FX3_need g b tb n z c p0 p1 := by
  obtain ⟨hxi, hmi, hX, hM, hp, hs, hn, hi⟩ := h
  rw [FX2_need, FX3_need, ← site_eq (f := f) (a := a) (ta := ta) hX.2.1 p0, show FX3_within p1 0 9 = FX2_isWithin p1 0 9 from rfl]
  by_cases h1 : FX2_isSite f a ta n z c p0 = 0
  · rw [if_pos h1, if_pos h1]
  · rw [if_neg h1, if_neg h1]
    by_cases h2 : FX2_isWithin p1 0 9 = 0
    · rw [if_pos h2, if_pos h2]
    · rw [if_neg h2, if_neg h2]
      have hn6 := hX.2.1
      obtain ⟨j, hj, rfl⟩ := site_j hX.2.1 h1
      obtain ⟨dd, -, hd, rfl⟩ := within_rg (lo := 0) (hi := 9) (by omega) (by omega) h2
      obtain ⟨w, m, dp, e1, e2⟩ := need_both (ta := ta) (tb := tb) (z := z) (c := c) hs hj hn6 hn hd
      rw [e1, nI_clamp (show dd < 2 ^ 31 by omega), e2]
end NEED
