/-- numbers of a range -/
def Rg (lo hi : Nat) (x : Int32) : Prop := ∃ v : Nat, lo ≤ v ∧ v ≤ hi ∧ x = nI v
/-- how much melts, as a number -/
def melN (k s t : Nat) : Nat := if k = 1 then s + t - 2 else if k = 2 then (s + t) / 2 else if k = 3 then s else if k = 4 then (s + t) / 2 - 1 else s + t
theorem melX_dec : ∀ k, k < 5 → ∀ s, s < 10 → ∀ t, t < 10 → FX2_melting (nI k) (nI s) (nI t) = nI (melN k s t) := by decide +kernel
theorem melM_dec : ∀ k, k < 5 → ∀ s, s < 10 → ∀ t, t < 10 → (if nI k = 1 then FX3_notBelow ((nI s + nI t) - 2) else (if nI k = 2 then (nI s + nI t) / 2 else (if nI k = 3 then nI s else (if nI k = 4 then FX3_notBelow (((nI s + nI t) / 2) - 1) else nI s + nI t)))) = nI (melN k s t) := by decide +kernel
theorem melN_le {k s t : Nat} (hs : s ≤ 9) (ht : t ≤ 9) : melN k s t ≤ 18 := by
  unfold melN
  split <;> (try split) <;> (try split) <;> (try split) <;> omega
theorem leftX_n {d m : Nat} (hd : d ≤ 100) (hm : m ≤ 100) : FX2_leftOf (nI d) (nI m) = nI (d - m) := by
  rw [FX2_leftOf]
  rcases Nat.lt_or_ge m d with h | h
  · rw [if_neg (nI_ge (a := m) (b := d) h (by omega))]
    exact pk_sub (by omega)
  · rw [if_pos (nI_le (a := d) (b := m) h (by omega)), show d - m = 0 by omega]
    rfl
theorem notB_n {d m : Nat} (hd : d ≤ 100) (hm : m ≤ 100) : FX3_notBelow (nI d - nI m) = nI (d - m) := by
  rw [FX3_notBelow]
  rcases Nat.lt_or_ge d m with h | h
  · have h1 : nI d - nI m < 0 := pk_sneg (by omega) h
    rw [if_neg (Int32.not_le.mpr h1), show d - m = 0 by omega]
    rfl
  · rw [pk_sub h, if_pos (nI_pos' (by omega))]
theorem deepX_n {d m : Nat} (hd : d ≤ 1000) (hm : m ≤ 1000) : FX2_deepened (nI d) (nI m) = nI (min (d + m) 30) := by
  rw [FX2_deepened, nI_add]
  rcases Nat.lt_or_ge (d + m) 30 with h | h
  · rw [if_pos (show nI (d + m) < 30 from nI_lt (a := d + m) (b := 30) h (by omega)), Nat.min_eq_left (by omega)]
  · rw [if_neg (show ¬ nI (d + m) < 30 from nI_nlt (a := d + m) (b := 30) h (by omega)), Nat.min_eq_right h]
    rfl
theorem atM_n {d m : Nat} (hd : d ≤ 1000) (hm : m ≤ 1000) : FX3_atMost (nI d + nI m) = nI (min (d + m) 30) := by
  rw [FX3_atMost, nI_add]
  rcases Nat.lt_or_ge 30 (d + m) with h | h
  · rw [if_neg (show ¬ nI (d + m) ≤ 30 from nI_ge (a := 30) (b := d + m) h (by omega)), Nat.min_eq_right (by omega)]
    rfl
  · rw [if_pos (show nI (d + m) ≤ 30 from nI_le (a := d + m) (b := 30) h (by omega)), Nat.min_eq_left h]
section SITES
variable {f g : Nat → Int32} {a ta b tb : Nat → Nat → Int32} {n z c : Nat}
theorem site_eq (hn : n ≤ 6) (x : Int32) : FX2_isSite f a ta n z c x = FX3_isSite g b tb n z c x := by
  rw [FX2_isSite, FX3_isSite, FX3_within]
  by_cases h0 : x < 0
  · rw [if_pos h0, if_pos h0]
  · rw [if_neg h0, if_neg h0]
    obtain ⟨j, hj, rfl⟩ := nI_of h0
    rcases Nat.eq_zero_or_pos n with rfl | hp
    · rw [if_pos (nI_le (a := 0) (b := j) (by omega) hj), if_pos]
      have h1 : nI 0 - 1 < 0 := by decide
      rw [Int32.lt_iff_toInt_lt] at h1 ⊢
      rw [nI_toInt hj]
      have e0 : (0 : Int32).toInt = 0 := by decide
      omega
    · rw [show (nI n - 1 : Int32) = nI (n - 1) from pk_sub (a := n) (b := 1) hp]
      rcases Nat.lt_or_ge j n with h | h
      · rw [if_neg (nI_ge (a := j) (b := n) h (by omega)), if_neg (nI_nlt (a := n - 1) (b := j) (by omega) (by omega))]
      · rw [if_pos (nI_le (a := n) (b := j) h hj), if_pos (nI_lt (a := n - 1) (b := j) (by omega) hj)]
theorem site_j {x : Int32} (hn : n ≤ 6) (h : ¬ FX2_isSite f a ta n z c x = 0) : ∃ j : Nat, j < n ∧ x = nI j := by
  rw [FX2_isSite] at h
  by_cases h1 : x < 0
  · rw [if_pos h1] at h; exact absurd rfl h
  · rw [if_neg h1] at h
    by_cases h2 : nI n ≤ x
    · rw [if_pos h2] at h; exact absurd rfl h
    · obtain ⟨j, hj, rfl⟩ := nI_of h1
      refine ⟨j, ?_, rfl⟩
      rcases Nat.lt_or_ge j n with q | q
      · exact q
      · exact absurd (nI_le (a := n) (b := j) q hj) h2
theorem within_rg {x : Int32} {lo hi : Nat} (hlo : lo < 2 ^ 31) (hhi : hi < 2 ^ 31) (h : ¬ FX2_isWithin x (nI lo) (nI hi) = 0) : Rg lo hi x := by
  obtain ⟨h1, h2⟩ := withinX_t h
  have h0 : ¬ x < 0 := fun h9 => h1 (by
    rw [Int32.lt_iff_toInt_lt] at h9 ⊢
    rw [nI_toInt hlo]
    have e0 : (0 : Int32).toInt = 0 := by decide
    omega)
  obtain ⟨j, hj, rfl⟩ := nI_of h0
  refine ⟨j, ?_, ?_, rfl⟩
  · rcases Nat.lt_or_ge j lo with q | q
    · exact absurd (nI_lt (a := j) (b := lo) q hlo) h1
    · exact q
  · rcases Nat.lt_or_ge hi j with q | q
    · exact absurd (nI_lt (a := hi) (b := j) q hj) h2
    · exact q
end SITES
/-- a whole page: every letter of a kind and every figure is one -/
def Va (z : Nat) (b : Nat → Nat → Int32) (j : Nat) (r : Int32 × SM) : Prop := ¬ r.2.2.1 18 = 0 → (∀ s : Nat, j ≤ s → s < (z - 1) / 3 → ¬ FX3_kindBy (b 10 (3 * s)) = -1 ∧ ¬ FX3_within (b 10 (3 * s + 1) - 48) 1 9 = 0) ∧ ¬ FX3_within (b 10 (z - 1) - 48) 0 9 = 0
theorem fig_of {g : Nat → Int32} {b tb : Nat → Nat → Int32} {n z c i : Nat} {lo : Int32} (hlo : FX3_within (-1) lo 9 = 0) (h : ¬ FX3_within (FX3_figure g b tb n z c i) lo 9 = 0) : FX3_figure g b tb n z c i = b 10 i - 48 := by
  rw [FX3_figure] at h ⊢
  by_cases h1 : nI z ≤ nI i
  · rw [if_pos h1] at h; exact absurd hlo h
  · rw [if_neg h1]
theorem read_valid_L (g : Nat → Int32) (gl : Nat → Int64) (b tb : Nat → Nat → Int32) (n z c : Nat) (hz : z ≤ 21) : ∀ (d j : Nat) (t : Nat → Int32), j + d = 6 → t 18 = 0 → Va z b j (FX3_read_L12 g gl b tb n z c d j t) := by
  intro d
  induction d with
  | zero => intro j t hj ht h; exact absurd ht h
  | succ d ih =>
    intro j t hj ht
    rw [FX3_read_L12]
    by_cases c1 : nI (3 * j) = nI z
    · rw [if_pos c1]; exact fun h => absurd ht h
    rw [if_neg c1]
    by_cases c2 : FX3_kindBy (b 10 (3 * j)) = -1
    · rw [if_pos c2]; exact fun h => absurd ht h
    rw [if_neg c2]
    by_cases c3 : FX3_within (FX3_figure g b tb n z c (3 * j + 1)) 1 9 = 0
    · rw [if_pos c3]; exact fun h => absurd ht h
    rw [if_neg c3]
    have f3 := c3
    rw [fig_of (by decide) c3] at f3
    have hrec : ∀ t' : Nat → Int32, t' 18 = 0 → Va z b j (FX3_read_L12 g gl b tb n z c d (j + 1) t') := fun t' ht' h => by
      obtain ⟨h1, h2⟩ := ih (j + 1) t' (by omega) ht' h
      refine ⟨fun s hs hs2 => ?_, h2⟩
      rcases Nat.eq_or_lt_of_le hs with e | e
      · subst e; exact ⟨c2, f3⟩
      · exact h1 s e hs2
    by_cases c10 : FX3_within (FX3_figure g b tb n z c (3 * j + 2 + 1)) 0 9 = 0
    · simp only [if_pos c10]
      repeat' first | refine ite_P (P := Va z b j) (fun _ => ?_) (fun _ => ?_) | exact hrec _ ht | exact fun h => absurd ht h | exact fun h => absurd rfl h
    · have f10 := c10
      rw [fig_of (by decide) c10] at f10
      by_cases c11 : nI (3 * j + 2 + 2) = nI z
      · have hzk : 3 * j + 2 + 2 = z := (nI_eq (by omega) (by omega)).mp c11
        have hg : (∀ s : Nat, j ≤ s → s < (z - 1) / 3 → ¬ FX3_kindBy (b 10 (3 * s)) = -1 ∧ ¬ FX3_within (b 10 (3 * s + 1) - 48) 1 9 = 0) ∧ ¬ FX3_within (b 10 (z - 1) - 48) 0 9 = 0 := by
          refine ⟨fun s h1 h2 => ?_, ?_⟩
          · obtain rfl : s = j := by omega
            exact ⟨c2, f3⟩
          · rw [show z - 1 = 3 * j + 2 + 1 by omega]; exact f10
        simp only [if_neg c10, if_pos c11]
        repeat' first | refine ite_P (P := Va z b j) (fun _ => ?_) (fun _ => ?_) | exact hrec _ ht | exact fun h => absurd ht h | exact fun h => absurd rfl h | exact fun _ => hg
      · simp only [if_neg c10, if_neg c11]
        repeat' first | refine ite_P (P := Va z b j) (fun _ => ?_) (fun _ => ?_) | exact hrec _ ht | exact fun h => absurd ht h | exact fun h => absurd rfl h
theorem read_valid {g t : Nat → Int32} {gl : Nat → Int64} {b tb : Nat → Nat → Int32} {n z c : Nat} (hz : z ≤ 21) (h : ¬ (FX3_read g t gl b tb n z c).2.2.1 18 = 0) : (∀ s : Nat, s < (z - 1) / 3 → ¬ FX3_kindBy (b 10 (3 * s)) = -1 ∧ ¬ FX3_within (b 10 (3 * s + 1) - 48) 1 9 = 0) ∧ ¬ FX3_within (b 10 (z - 1) - 48) 0 9 = 0 := by
  obtain ⟨h1, h2⟩ := read_valid_L g gl b tb n z c hz 6 0 _ rfl rfl h
  exact ⟨fun s hs => h1 s (by omega) hs, h2⟩
