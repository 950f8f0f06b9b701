/-- the letters of a page: each a code from 32 to 126; the same on both sides -/
def Pg (z : Nat) (q : Nat → Int32) : Prop := ∀ i : Nat, i < z → ∃ v : Nat, 32 ≤ v ∧ v ≤ 126 ∧ q i = nI v
theorem kind_dec : ∀ v, v < 127 → FJ0_indexOf_0f7a4 (((nI v).toUInt32 % 65536).toInt32) = FX3_kindBy (nI v) := by decide +kernel
theorem kind_neg : ∀ v, v < 127 → (FX3_kindBy (nI v) < 0 ↔ FX3_kindBy (nI v) = -1) := by decide +kernel
theorem kind_59 : ∀ v, v < 127 → ¬ FX3_kindBy (nI v) = -1 → ¬ nI v = 59 := by decide +kernel
theorem dig1_dec : ∀ v, v < 127 → (FX2_isWithin (nI v) 49 57 = 0 ↔ FX3_within (nI v - 48) 1 9 = 0) := by decide +kernel
theorem dig0_dec : ∀ v, v < 127 → (FX2_isWithin (nI v) 48 57 = 0 ↔ FX3_within (nI v - 48) 0 9 = 0) := by decide +kernel
theorem dig1_59 : ∀ v, v < 127 → ¬ FX3_within (nI v - 48) 1 9 = 0 → ¬ nI v = 59 := by decide +kernel
theorem dig0_59 : ∀ v, v < 127 → ¬ FX3_within (nI v - 48) 0 9 = 0 → ¬ nI v = 59 := by decide +kernel
section PARSE
variable {f g : Nat → Int32} {a ta b tb : Nat → Nat → Int32} {gl : Nat → Int64} {n z c n' c' : Nat}
theorem codeAt_n {i : Nat} (hi : i < 21) : FX0_codeAt f a ta n z c (nI i) = a 8 i := by
  rw [FX0_codeAt, if_neg (nI_pos (by omega)), if_neg (show ¬ 21 ≤ nI i from nI_ge (a := i) (b := 21) hi (by omega)), nI_clamp (by omega)]
theorem kindAt_n {i : Nat} (hz : z ≤ 21) (hi : i < z) (hq : Pg z (a 8)) : FX0_kindAt f a ta n z c (nI i) = FX3_kindBy (a 8 i) := by
  obtain ⟨v, h1, h2, h3⟩ := hq i hi
  rw [FX0_kindAt, codeAt_n (by omega), h3]
  exact kind_dec v (by omega)
theorem am0 {j : Nat} (hj : 3 * j < 21) : FX0_fitsAmongSites f a ta n z c (nI (3 * j)) = if FX0_kindAt f a ta n z c (nI (3 * j)) < 0 then 0 else 1 := by
  rw [FX0_fitsAmongSites, if_pos]
  show nI (3 * j) - nI (3 * j) / nI 3 * nI 3 = 0
  rw [pk_rem (by omega) (by omega) (by omega), show 3 * j % 3 = 0 by omega]
  rfl
theorem am1 {j : Nat} (hj : 3 * j + 1 < 21) : FX0_fitsAmongSites f a ta n z c (nI (3 * j + 1)) = FX0_isDigitFrom f a ta n z c 49 (nI (3 * j + 1)) := by
  have e : nI (3 * j + 1) - nI (3 * j + 1) / 3 * 3 = 1 := by
    show nI (3 * j + 1) - nI (3 * j + 1) / nI 3 * nI 3 = 1
    rw [pk_rem (by omega) (by omega) (by omega), show (3 * j + 1) % 3 = 1 by omega]
    rfl
  rw [FX0_fitsAmongSites, e, if_neg (by decide), if_pos rfl]
theorem am2 {j : Nat} (hj : 3 * j + 2 < 21) : FX0_fitsAmongSites f a ta n z c (nI (3 * j + 2)) = FX0_fitsBehindSites f a ta n z c (nI (3 * j + 2)) (nI (j + 1)) := by
  have e : nI (3 * j + 2) - nI (3 * j + 2) / 3 * 3 = 2 := by
    show nI (3 * j + 2) - nI (3 * j + 2) / nI 3 * nI 3 = 2
    rw [pk_rem (by omega) (by omega) (by omega), show (3 * j + 2) % 3 = 2 by omega]
    rfl
  have e2 : nI (3 * j + 2) / 3 + 1 = nI (j + 1) := by
    show nI (3 * j + 2) / nI 3 + 1 = nI (j + 1)
    rw [pk_div (by omega) (by omega) (by omega), show (3 * j + 2) / 3 = j by omega]
    exact nI_1 j
  rw [FX0_fitsAmongSites, e, if_neg (by decide), if_neg (by decide), e2]
theorem digM {i : Nat} (hz : z ≤ 21) (hi : i < z) (hb : ∀ k : Nat, k < z → b 10 k = a 8 k) : FX3_figure g b tb n' z c' i = a 8 i - 48 := by
  rw [FX3_figure, if_neg (nI_ge (a := i) (b := z) hi (by omega)), hb i hi]
theorem digM0 {i : Nat} (hz : z ≤ 21) (hi : z ≤ i) (hi2 : i < 100) : FX3_figure g b tb n' z c' i = -1 := by
  rw [FX3_figure, if_pos (nI_le (a := z) (b := i) hi (by omega))]
/-- the class's loop, at a place within the page: no ';' yet -/
theorem fp_step {k : Nat} (hk : k < z) : FX0_faultPlace_L4 f a ta n z c (z - k) k (-1) = if FX0_fitsAmongSites f a ta n z c (nI k) = 0 then nI k else (if FX0_codeAt f a ta n z c (nI k) = 59 then FX0_faultPlace_L4 f a ta n z c (z - (k + 1)) (k + 1) (nI k) else FX0_faultPlace_L4 f a ta n z c (z - (k + 1)) (k + 1) (-1)) := by
  rw [show z - k = (z - (k + 1)) + 1 by omega, FX0_faultPlace_L4, if_pos rfl]
theorem fp_end {k : Nat} {x : Int32} (hk : z ≤ k) : FX0_faultPlace_L4 f a ta n z c (z - k) k x = nI z := by
  rw [show z - k = 0 by omega, FX0_faultPlace_L4]
/-- behind a ';' -/
theorem fp_semi {k k0 : Nat} (hk : k < z) (hz : z ≤ 21) (h0 : k0 < k) : FX0_faultPlace_L4 f a ta n z c (z - k) k (nI k0) = if nI k = nI (k0 + 1) then (if FX0_isDigitFrom f a ta n z c 48 (nI k) = 0 then nI k else (if FX0_codeAt f a ta n z c (nI k) = 59 then FX0_faultPlace_L4 f a ta n z c (z - (k + 1)) (k + 1) (nI k) else FX0_faultPlace_L4 f a ta n z c (z - (k + 1)) (k + 1) (nI k0))) else nI k := by
  have hne : ¬ nI k0 = -1 := by
    intro h
    have h1 := congrArg Int32.toInt h
    rw [nI_toInt (by omega)] at h1
    have e1 : (-1 : Int32).toInt = -1 := by decide
    omega
  rw [show z - k = (z - (k + 1)) + 1 by omega, FX0_faultPlace_L4, if_neg hne, nI_1]
/-- what the two readings must agree on -/
def Ag (z : Nat) (q : Nat → Int32) (rX : Int32) (rM : Int32 × SM) : Prop := rX = rM.1 ∧ ((rX = nI z ∧ 2 ≤ z ∧ q (z - 2) = 59) ↔ ¬ rM.2.2.1 18 = 0)
theorem Ag_no {q : Nat → Int32} {r : Int32} {u : SM} (hu : u.2.1 18 = 0) (h : ¬ (r = nI z ∧ 2 ≤ z ∧ q (z - 2) = 59)) : Ag z q r (r, u) := ⟨rfl, fun h1 => absurd h1 h, fun h1 => absurd hu h1⟩
theorem nI_ne {i j : Nat} (hi : i < 100) (hj : j < 100) (h : i ≠ j) : ¬ nI i = nI j := fun e => h ((nI_eq (by omega) (by omega)).mp e)
set_option maxHeartbeats 4000000 in
theorem parse_L (hz : z ≤ 21) (hq : Pg z (a 8)) (hb : ∀ k : Nat, k < z → b 10 k = a 8 k) : ∀ (d j : Nat) (t : Nat → Int32), j + d = 6 → 1 ≤ d → 3 * j ≤ z → t 18 = 0 → (1 ≤ j → ¬ a 8 (3 * j - 2) = 59 ∧ ¬ a 8 (3 * j - 1) = 59) → Ag z (a 8) (FX0_faultPlace_L4 f a ta n z c (z - 3 * j) (3 * j) (-1)) (FX3_read_L12 g gl b tb n' z c' d j t) := by
  intro d
  induction d with
  | zero => intro j t hj hd; omega
  | succ d ih =>
    intro j t hj hd hjz ht hp
    rw [FX3_read_L12]
    by_cases c1 : 3 * j = z
    · rw [if_pos (show nI (3 * j) = nI z by rw [c1]), fp_end (by omega), c1]
      refine Ag_no ht (fun h => ?_)
      obtain ⟨-, h2, h3⟩ := h
      exact (hp (by omega)).1 (by rw [show 3 * j - 2 = z - 2 by omega]; exact h3)
    · have hlt : 3 * j < z := by omega
      rw [if_neg (nI_ne (by omega) (by omega) c1), fp_step hlt, am0 (by omega), kindAt_n hz hlt hq, codeAt_n (by omega), hb _ hlt]
      obtain ⟨v0, hv1, hv2, hv3⟩ := hq _ hlt
      by_cases c2 : FX3_kindBy (a 8 (3 * j)) = -1
      · rw [if_pos c2, if_pos (show (if FX3_kindBy (a 8 (3 * j)) < 0 then (0 : Int32) else 1) = 0 by rw [if_pos (by rw [c2]; decide)])]
        exact Ag_no ht (fun h => nI_ne (by omega) (by omega) c1 h.1)
      · have hn0 : ¬ FX3_kindBy (a 8 (3 * j)) < 0 := by
          rw [hv3] at c2 ⊢
          exact fun h => c2 ((kind_neg v0 (by omega)).mp h)
        have h59 : ¬ a 8 (3 * j) = 59 := by
          rw [hv3] at c2 ⊢
          exact kind_59 v0 (by omega) c2
        rw [if_neg c2, if_neg (show ¬ (if FX3_kindBy (a 8 (3 * j)) < 0 then (0 : Int32) else 1) = 0 by rw [if_neg hn0]; decide), if_neg h59]
        by_cases e1 : z = 3 * j + 1
        · rw [fp_end (by omega), digM0 hz (by omega) (by omega), if_pos (by decide), e1]
          refine Ag_no ht (fun h => ?_)
          obtain ⟨-, h2, h3⟩ := h
          exact (hp (by omega)).2 (by rw [show 3 * j - 1 = 3 * j + 1 - 2 by omega]; exact h3)
        · have hlt1 : 3 * j + 1 < z := by omega
          obtain ⟨v1, hw1, hw2, hw3⟩ := hq _ hlt1
          rw [fp_step hlt1, am1 (by omega), FX0_isDigitFrom, codeAt_n (by omega), digM hz hlt1 hb, hw3]
          by_cases c3 : FX3_within (nI v1 - 48) 1 9 = 0
          · rw [if_pos c3, if_pos ((dig1_dec v1 (by omega)).mpr c3)]
            exact Ag_no ht (fun h => nI_ne (by omega) (by omega) (by omega) h.1)
          · have k59 : ¬ a 8 (3 * j + 1) = 59 := by rw [hw3]; exact dig1_59 v1 (by omega) c3
            rw [if_neg c3, if_neg (fun h => c3 ((dig1_dec v1 (by omega)).mp h)), if_neg (show ¬ nI v1 = 59 by rw [← hw3]; exact k59)]
            by_cases e2 : z = 3 * j + 2
            · rw [fp_end (by omega), if_pos (nI_le (by omega) (by omega)), if_pos (show nI (3 * j + 2) = nI z by rw [e2]), e2]
              refine Ag_no ht (fun h => ?_)
              obtain ⟨-, h2, h3⟩ := h
              exact h59 (by rw [show 3 * j = 3 * j + 2 - 2 by omega]; exact h3)
            · have hlt2 : 3 * j + 2 < z := by omega
              rw [if_neg (nI_ge (a := 3 * j + 2) (b := z) hlt2 (by omega)), fp_step hlt2, am2 (by omega), FX0_fitsBehindSites, codeAt_n (by omega), hb _ hlt2]
              by_cases c5 : a 8 (3 * j + 2) = 59
              · rw [if_pos c5, if_neg (show ¬ a 8 (3 * j + 2) = 44 by rw [c5]; decide), if_pos c5, if_pos c5]
                by_cases c6 : j = 0
                · subst c6
                  rw [if_pos (show nI (0 + 1) ≤ 1 by decide), if_pos (show nI (0 + 1) < 2 by decide), if_pos rfl, if_neg (nI_ne (by omega) (by omega) (by omega)), if_neg (show ¬ nI (0 + 1) = 6 by decide), if_neg (show ¬ a 8 (3 * 0 + 2) = 44 by rw [c5]; decide)]
                  exact Ag_no ht (fun h => nI_ne (i := 3 * 0 + 2) (j := z) (by omega) (by omega) (by omega) h.1)
                · rw [if_neg (show ¬ nI (j + 1) ≤ 1 from nI_ge (a := 1) (b := j + 1) (by omega) (by omega)), if_neg (show ¬ nI (j + 1) < 2 from nI_nlt (a := j + 1) (b := 2) (by omega) (by omega)), if_neg (show ¬ (1 : Int32) = 0 by decide)]
                  by_cases e3 : z = 3 * j + 3
                  · rw [fp_end (by omega), digM0 hz (by omega) (by omega), if_pos (show FX3_within (-1) 0 9 = 0 by decide), if_pos (show FX3_within (-1) 0 9 = 0 by decide), e3]
                    refine Ag_no (u := (g, upd (upd t 19 (nI (j + 1))) 18 0, gl, b, tb)) rfl (fun h => ?_)
                    obtain ⟨-, h2, h3⟩ := h
                    exact k59 (by rw [show 3 * j + 1 = 3 * j + 3 - 2 by omega]; exact h3)
                  · have hlt3 : 3 * j + 2 + 1 < z := by omega
                    obtain ⟨v3, hx1, hx2, hx3⟩ := hq _ hlt3
                    rw [fp_semi hlt3 hz (by omega), if_pos rfl, FX0_isDigitFrom, codeAt_n (by omega), digM hz hlt3 hb, hx3]
                    by_cases c10 : FX3_within (nI v3 - 48) 0 9 = 0
                    · rw [if_pos c10, if_pos c10, if_pos ((dig0_dec v3 (by omega)).mpr c10)]
                      exact Ag_no (u := (g, upd (upd t 19 (nI (j + 1))) 18 0, gl, b, tb)) rfl (fun h => nI_ne (by omega) (by omega) (by omega) h.1)
                    · rw [if_neg c10, if_neg (fun h => c10 ((dig0_dec v3 (by omega)).mp h)), if_neg (dig0_59 v3 (by omega) c10)]
                      by_cases c11 : z = 3 * j + 4
                      · rw [fp_end (by omega), if_pos (show nI (3 * j + 2 + 2) = nI z by rw [c11])]
                        refine ⟨?_, fun _ h => ?_, fun _ => ⟨rfl, by omega, ?_⟩⟩
                        · rw [c11, if_neg c10]
                        · rw [if_neg c10] at h
                          exact absurd h (show ¬ (1 : Int32) = 0 by decide)
                        · rw [show z - 2 = 3 * j + 2 by omega]; exact c5
                      · have hlt4 : 3 * j + 2 + 1 + 1 < z := by omega
                        rw [fp_semi hlt4 hz (by omega), if_neg (nI_ne (by omega) (by omega) (by omega)), if_neg (nI_ne (i := 3 * j + 2 + 2) (j := z) (by omega) (by omega) (by omega)), if_neg c10]
                        exact Ag_no (u := (g, upd (upd t 19 (nI (j + 1))) 18 0, gl, b, tb)) rfl (fun h => nI_ne (by omega) (by omega) (by omega) h.1)
              · simp only [if_neg c5]
                rw [if_neg (nI_ne (i := 3 * j + 2) (j := z) (by omega) (by omega) (by omega))]
                by_cases c9 : a 8 (3 * j + 2) = 44
                · simp only [if_pos c9]
                  by_cases c8 : j = 5
                  · subst c8
                    rw [if_pos (show nI (5 + 1) = 6 by decide), if_neg (show ¬ nI (5 + 1) < 6 by decide), if_pos rfl]
                    exact Ag_no ht (fun h => nI_ne (i := 3 * 5 + 2) (j := z) (by omega) (by omega) (by omega) h.1)
                  · rw [if_neg (show ¬ nI (j + 1) = 6 from nI_ne (i := j + 1) (j := 6) (by omega) (by omega) (by omega)), if_pos (show nI (j + 1) < 6 from nI_lt (a := j + 1) (b := 6) (by omega) (by omega)), if_neg (show ¬ (1 : Int32) = 0 by decide)]
                    have h := ih (j + 1) (upd t 19 (nI (j + 1))) (by omega) (by omega) (by omega) ht (fun _ => ⟨by rw [show 3 * (j + 1) - 2 = 3 * j + 1 by omega]; exact k59, by rw [show 3 * (j + 1) - 1 = 3 * j + 2 by omega]; exact c5⟩)
                    rw [show 3 * (j + 1) = 3 * j + 2 + 1 by omega] at h
                    exact h
                · simp only [if_neg c9]
                  have hno : Ag z (a 8) (nI (3 * j + 2)) (nI (3 * j + 2), g, upd t 19 (nI (j + 1)), gl, b, tb) := Ag_no ht (fun h => nI_ne (by omega) (by omega) (by omega) h.1)
                  by_cases c8 : nI (j + 1) = 6
                  · simp only [if_pos c8]
                    first | exact hno | (rw [if_pos rfl]; exact hno)
                  · simp only [if_neg c8]
                    first | exact hno | (rw [if_pos rfl]; exact hno)
theorem parse_fault {t : Nat → Int32} (hz : z ≤ 21) (hq : Pg z (a 8)) (hb : ∀ k : Nat, k < z → b 10 k = a 8 k) : Ag z (a 8) (FX0_faultPlace f a ta n z c) (FX3_read g t gl b tb n' z c') := by
  rw [FX0_faultPlace, FX3_read]
  exact parse_L hz hq hb 6 0 _ rfl (by omega) (by omega) rfl (fun h => absurd h (by omega))
theorem parse_whole {t : Nat → Int32} (hz : z ≤ 21) (hq : Pg z (a 8)) (hb : ∀ k : Nat, k < z → b 10 k = a 8 k) : (FX0_isWhole f a ta n z c = 0 ↔ (FX3_read g t gl b tb n' z c').2.2.1 18 = 0) := by
  obtain ⟨-, h1⟩ := parse_fault (f := f) (a := a) (ta := ta) (n := n) (c := c) (g := g) (gl := gl) (b := b) (tb := tb) (n' := n') (c' := c') (t := t) hz hq hb
  rw [FX0_isWhole]
  rcases Nat.lt_or_ge z 2 with q | q
  · rw [if_pos (show nI z < 2 from nI_lt (a := z) (b := 2) q (by omega))]
    refine ⟨fun _ => ?_, fun _ => rfl⟩
    by_cases h2 : (FX3_read g t gl b tb n' z c').2.2.1 18 = 0
    · exact h2
    · exact absurd (h1.mpr h2).2.1 (by omega)
  · rw [if_neg (show ¬ nI z < 2 from nI_nlt (a := z) (b := 2) q (by omega)), show nI z - 2 = nI (z - 2) from pk_sub (a := z) (b := 2) q, codeAt_n (by omega)]
    by_cases h2 : FX0_faultPlace f a ta n z c = nI z
    · rw [if_pos h2]
      by_cases h3 : a 8 (z - 2) = 59
      · rw [if_pos h3]
        exact ⟨fun h => absurd h (by decide), fun h => absurd h (h1.mp ⟨h2, q, h3⟩)⟩
      · rw [if_neg h3]
        refine ⟨fun _ => ?_, fun _ => rfl⟩
        by_cases h4 : (FX3_read g t gl b tb n' z c').2.2.1 18 = 0
        · exact h4
        · exact absurd (h1.mpr h4).2.2 h3
    · rw [if_neg h2]
      refine ⟨fun _ => ?_, fun _ => rfl⟩
      by_cases h4 : (FX3_read g t gl b tb n' z c').2.2.1 18 = 0
      · exact h4
      · exact absurd (h1.mpr h4).1 h2
end PARSE
