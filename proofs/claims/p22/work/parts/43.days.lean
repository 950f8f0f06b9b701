section RRD
variable {f g t : Nat → Int32} {gl : Nat → Int64} {a ta b tb : Nat → Nat → Int32} {q n z c : Nat}
theorem Ims_of {f' g' : Nat → Int32} {a' b' : Nat → Nat → Int32} (h : Ims n f g a b) (hf : ∀ j : Nat, j = 2 ∨ 9 ≤ j → f' j = f j) (hg : ∀ j : Nat, j = 0 ∨ 25 ≤ j → g' j = g j) (ha : ∀ j : Nat, 17 ≤ j → a' j = a j) (hb : ∀ j : Nat, 13 ≤ j → b' j = b j) : Ims n f' g' a' b' := by
  unfold Ims ImA at h ⊢
  rw [hf 2 (by omega), hf 9 (by omega), hf 10 (by omega), hf 11 (by omega), hf 12 (by omega), hf 13 (by omega), hg 0 (by omega), hg 25 (by omega), hg 26 (by omega), hg 27 (by omega), hg 28 (by omega), hg 29 (by omega), hg 30 (by omega), hg 31 (by omega), ha 17 (by omega), ha 18 (by omega), ha 19 (by omega), ha 20 (by omega), hb 13 (by omega), hb 14 (by omega), hb 15 (by omega), hb 16 (by omega)]
  exact h
theorem Sites_snow {k : Nat} {v : Int32} (hs : Sites n a b) (hv : Rg 0 30 v) : Sites n (uA a 9 (upd (a 9) k v)) (uA b 3 (upd (b 3) k v)) := fun i hi => by
  obtain ⟨⟨h1, h2, h3, h4, h5, h6⟩, g1, g2, g3, g4, g5, g6⟩ := hs i hi
  exact ⟨⟨h1, h2, upd_eq h3, h4, h5, h6⟩, g1, g2, upd_rg hv g3, g4, g5, g6⟩
theorem meltsM {k kv s fv : Nat} (hk : k < 2 ^ 31) (h1 : b 1 k = nI kv) (h6 : b 6 k = nI fv) (hkv : kv ≤ 4) (hsv : s ≤ 9) (hfv : fv ≤ 9) : FX3_meltsBy g b tb n z c (nI k) (nI s) = nI (melN kv s fv) := by
  rw [FX3_meltsBy, nI_clamp hk, h1, h6]
  exact melM_dec kv (by omega) s (by omega) fv (by omega)
theorem melt_step {k : Nat} {p0 : Int32} (hs : Sites n a b) (hk : k < n) (hn : n ≤ 6) (hp : Rg 0 9 p0) : ∃ w : Nat, w ≤ 30 ∧ FX2_leftOf (a 9 k) (FX2_melting (a 2 k) p0 (a 11 k)) = nI w ∧ FX3_notBelow (b 3 k - FX3_meltsBy g b tb n z c (nI k) p0) = nI w := by
  obtain ⟨⟨h1, h2, h3, h4, h5, h6⟩, ⟨kv, -, k2, k3⟩, -, ⟨dv, -, d2, d3⟩, -, ⟨fv, -, f2, f3⟩, -⟩ := hs k hk
  obtain ⟨s, -, s2, rfl⟩ := hp
  have hm := melN_le (k := kv) s2 f2
  refine ⟨dv - melN kv s fv, by omega, ?_, ?_⟩
  · rw [h3, h1, h5, k3, d3, f3, melX_dec kv (by omega) s (by omega) fv (by omega), leftX_n (by omega) (by omega)]
  · rw [meltsM (by omega) k3 f3 k2 s2 f2, d3, notB_n (by omega) (by omega)]
theorem melt9_ne {p0 : Int32} {j : Nat} (hj : j ≠ 9) : ∀ (d k : Nat) (a : Nat → Nat → Int32), (FX2_meltAll_at9_L2 f ta n z c p0 d k a).2.2.1 j = a j := by
  intro d
  induction d with
  | zero => intro k a; rfl
  | succ d ih =>
    intro k a
    rw [FX2_meltAll_at9_L2, ih]
    show (if j = 9 then _ else a j) = a j
    rw [if_neg hj]
theorem melt_ne {p0 : Int32} {j : Nat} (hj : j ≠ 3) : ∀ (d k : Nat) (b : Nat → Nat → Int32), (FX3_melt_L2 g t gl tb n z c p0 d k b).2.2.2.1 j = b j := by
  intro d
  induction d with
  | zero => intro k b; rfl
  | succ d ih =>
    intro k b
    rw [FX3_melt_L2, ih]
    show (if j = 3 then _ else b j) = b j
    rw [if_neg hj]
theorem melt9_1 {p0 : Int32} : ∀ (d k : Nat) (a : Nat → Nat → Int32), (FX2_meltAll_at9_L2 f ta n z c p0 d k a).1 = FX2_keptIn_at9 f (FX2_meltAll_at9_L2 f ta n z c p0 d k a).2.2.1 ta n z c := by
  intro d
  induction d with
  | zero => intro k a; rfl
  | succ d ih => intro k a; rw [FX2_meltAll_at9_L2]; exact ih _ _
theorem melt_both {p0 : Int32} (hn : n ≤ 6) (hp : Rg 0 9 p0) : ∀ (d k : Nat) (a b : Nat → Nat → Int32), k + d = n → Sites n a b → Sites n (FX2_meltAll_at9_L2 f ta n z c p0 d k a).2.2.1 (FX3_melt_L2 g t gl tb n z c p0 d k b).2.2.2.1 := by
  intro d
  induction d with
  | zero => intro k a b hk hs; exact hs
  | succ d ih =>
    intro k a b hk hs
    obtain ⟨w, hw, e1, e2⟩ := melt_step (g := g) (tb := tb) (z := z) (c := c) hs (show k < n by omega) hn hp
    rw [FX2_meltAll_at9_L2, FX3_melt_L2, e1, e2]
    exact ih _ _ _ (by omega) (Sites_snow hs ⟨w, by omega, hw, rfl⟩)
/-- the kept, the snow in all -/
theorem kept_L (hn : n ≤ 6) (h : ∀ i : Nat, i < n → a 9 i = b 3 i ∧ a 3 i = b 2 i) : ∀ (d k : Nat) (x : Int32), k + d = n → FX2_keptIn_at9_L4 f a ta n z c d k x = FX3_keptNow_L4 g b tb n z c d k x := by
  intro d
  induction d with
  | zero => intro k x hk; rfl
  | succ d ih =>
    intro k x hk
    obtain ⟨h1, h2⟩ := h k (by omega)
    rw [FX2_keptIn_at9_L4, FX3_keptNow_L4, FX2_isKeptWith, FX3_isKept, nI_clamp (by omega), h1, h2, Int32.add_zero, ih _ _ (by omega), ih _ _ (by omega)]
theorem kept_eq (hn : n ≤ 6) (h : Sites n a b) : FX2_keptIn_at9 f a ta n z c = FX3_keptNow g b tb n z c := kept_L hn (fun i hi => ⟨(h i hi).1.2.2.1, (h i hi).1.2.1⟩) n 0 0 (by omega)
theorem snow_L (h : ∀ i : Nat, i < n → a 9 i = b 3 i) : ∀ (d k : Nat) (x : Int32), k + d = n → FX2_snowIn_at9_L4 f a ta n z c d k x = FX3_snowAll_L4 g b tb n z c d k x := by
  intro d
  induction d with
  | zero => intro k x hk; rfl
  | succ d ih =>
    intro k x hk
    rw [FX2_snowIn_at9_L4, FX3_snowAll_L4, h k (by omega), ih _ _ (by omega)]
theorem snow_eq (h : Sites n a b) : FX2_snowIn_at9 f a ta n z c = FX3_snowAll g b tb n z c := snow_L (fun i hi => (h i hi).1.2.2.1) n 0 0 (by omega)
/-- a day's end -/
theorem endX_v {p0 : Int32} {a1 : Nat → Nat → Int32} : ∀ (d k : Nat) (f2 : Nat → Int32) (a2 : Nat → Nat → Int32), k + d = 6 → (∀ j : Nat, j ≠ 10 → j ≠ 12 → a2 j = a1 j) → (∀ i : Nat, i < k → a2 10 i = a1 9 i ∧ a2 12 i = 0) → ∃ a' : Nat → Nat → Int32, FX1_endDay_L22 ta n z c p0 d k f2 a2 = (f2, a', ta) ∧ (∀ j : Nat, j ≠ 10 → j ≠ 12 → a' j = a1 j) ∧ ∀ i : Nat, i < 6 → a' 10 i = a1 9 i ∧ a' 12 i = 0 := by
  intro d
  induction d with
  | zero => intro k f2 a2 hk h1 h2; exact ⟨a2, rfl, h1, fun i hi => h2 i (by omega)⟩
  | succ d ih =>
    intro k f2 a2 hk h1 h2
    rw [FX1_endDay_L22]
    refine ih (k + 1) f2 _ (by omega) (fun j j1 j2 => ?_) (fun i hi => ?_)
    · show (if j = 12 then _ else (if j = 10 then _ else a2 j)) = a1 j
      rw [if_neg j2, if_neg j1]
      exact h1 j j1 j2
    · show upd (a2 10) k (a2 9 k) i = a1 9 i ∧ upd (a2 12) k 0 i = 0
      by_cases e : i = k
      · subst e; rw [pk_us, pk_us, h1 9 (by decide) (by decide)]; exact ⟨rfl, rfl⟩
      · rw [pk_un e, pk_un e]; exact h2 i (by omega)
theorem endM_v {b1 : Nat → Nat → Int32} : ∀ (d k : Nat) (b6 : Nat → Nat → Int32), k + d = n → (∀ j : Nat, j ≠ 4 → j ≠ 5 → b6 j = b1 j) → (∀ i : Nat, i < k → b6 4 i = b1 3 i ∧ b6 5 i = 0) → ∃ b' : Nat → Nat → Int32, FX3_day_L20 g t gl tb n z c d k b6 = (FX3_keptNow (upd (upd g 9 ((g 9) + 1)) 10 ((g 10) + (FX3_keptNow (upd g 9 ((g 9) + 1)) b' tb n z c))) b' tb n z c, upd (upd g 9 ((g 9) + 1)) 10 ((g 10) + (FX3_keptNow (upd g 9 ((g 9) + 1)) b' tb n z c)), t, gl, b', tb) ∧ (∀ j : Nat, j ≠ 4 → j ≠ 5 → b' j = b1 j) ∧ ∀ i : Nat, i < n → b' 4 i = b1 3 i ∧ b' 5 i = 0 := by
  intro d
  induction d with
  | zero => intro k b6 hk h1 h2; exact ⟨b6, rfl, h1, fun i hi => h2 i (by omega)⟩
  | succ d ih =>
    intro k b6 hk h1 h2
    rw [FX3_day_L20]
    refine ih (k + 1) _ (by omega) (fun j j1 j2 => ?_) (fun i hi => ?_)
    · show (if j = 5 then _ else (if j = 4 then _ else b6 j)) = b1 j
      rw [if_neg j2, if_neg j1]
      exact h1 j j1 j2
    · show upd (b6 4) k (b6 3 k) i = b1 3 i ∧ upd (b6 5) k 0 i = 0
      by_cases e : i = k
      · subst e; rw [pk_us, pk_us, h1 3 (by decide) (by decide)]; exact ⟨rfl, rfl⟩
      · rw [pk_un e, pk_un e]; exact h2 i (by omega)
theorem rr_day (h : RC q n z c f a g b) : (FX2_day f a ta n z c).1 = (FX3_day g t gl b tb n z c).1 ∧ RR (q + 1) (FX2_day f a ta n z c).2.1 (FX2_day f a ta n z c).2.2.1 (FX3_day g t gl b tb n z c).2.1 (FX3_day g t gl b tb n z c).2.2.2.2.1 := by
  obtain ⟨hxi, hmi, hX, hM, hp, hs, hn, hi⟩ := id h
  have same : RR (q + 1) f a g b := RR_mono ⟨n, z, c, h⟩
  have hn6 := hX.2.1
  rw [FX2_day, FX3_day]
  by_cases h1 : nI n = 0
  · rw [if_pos h1, if_pos h1]; exact ⟨rfl, same⟩
  · rw [if_neg h1, if_neg h1]
    obtain ⟨⟨n1, n2, n3, n4, n5⟩, n6, n7⟩ := Nums_mono hn
    have hsm : Sites n (FX2_meltAll_at9 f a ta n z c (f 5)).2.2.1 (FX3_melt g t gl b tb n z c (g 8)).2.2.2.1 := by
      rw [n1]
      exact melt_both hn6 n6 n 0 a b (by omega) hs
    have ha1 : ∀ j : Nat, j ≠ 9 → (FX2_meltAll_at9 f a ta n z c (f 5)).2.2.1 j = a j := fun j hj => melt9_ne hj n 0 a
    have hb1 : ∀ j : Nat, j ≠ 3 → (FX3_melt g t gl b tb n z c (g 8)).2.2.2.1 j = b j := fun j hj => melt_ne hj n 0 b
    have hk1 : (FX2_meltAll_at9 f a ta n z c (f 5)).1 = FX2_keptIn_at9 f (FX2_meltAll_at9 f a ta n z c (f 5)).2.2.1 ta n z c := melt9_1 n 0 a
    rw [hk1]
    generalize (FX2_meltAll_at9 f a ta n z c (f 5)).2.2.1 = a1 at hsm ha1 ⊢
    generalize (FX3_melt g t gl b tb n z c (g 8)).2.2.2.1 = b1 at hsm hb1 ⊢
    obtain ⟨a', ea, ha2, ha3⟩ := endX_v (ta := ta) (n := n) (z := z) (c := c) (p0 := FX2_keptIn_at9 f a1 ta n z c) (a1 := a1) 6 0 (upd (upd f 4 ((f 4) + 1)) 7 ((f 7) + FX2_keptIn_at9 f a1 ta n z c)) a1 rfl (fun j _ _ => rfl) (fun i hi => absurd hi (by omega))
    have ea' : FX1_endDay f a1 ta n z c (FX2_keptIn_at9 f a1 ta n z c) = (upd (upd f 4 ((f 4) + 1)) 7 ((f 7) + FX2_keptIn_at9 f a1 ta n z c), a', ta) := ea
    obtain ⟨b', eb, hb2, hb3⟩ := endM_v (g := g) (t := t) (gl := gl) (tb := tb) (n := n) (z := z) (c := c) (b1 := b1) n 0 b1 (by omega) (fun j _ _ => rfl) (fun i hi => absurd hi (by omega))
    rw [ea', eb]
    have hsf : Sites n a' b' := fun i hi => by
      obtain ⟨⟨h1, h2, h3, h4, h5, h6⟩, g1, g2, g3, g4, g5, g6⟩ := hsm i hi
      obtain ⟨a4, a5⟩ := ha3 i (by omega)
      obtain ⟨b4, b5⟩ := hb3 i hi
      rw [ha2 2 (by decide) (by decide), ha2 3 (by decide) (by decide), ha2 9 (by decide) (by decide), ha2 11 (by decide) (by decide), a4, a5, hb2 1 (by decide) (by decide), hb2 2 (by decide) (by decide), hb2 3 (by decide) (by decide), hb2 6 (by decide) (by decide), b4, b5]
      exact ⟨⟨h1, h2, h3, h3, h5, rfl⟩, g1, g2, g3, g3, g5, rg0⟩
    have ek : ∀ g' : Nat → Int32, FX2_keptIn_at9 f a1 ta n z c = FX3_keptNow g' b' tb n z c := fun g' => kept_L hn6 (fun i hi => by
      rw [hb2 3 (by decide) (by decide), hb2 2 (by decide) (by decide)]
      exact ⟨(hsm i hi).1.2.2.1, (hsm i hi).1.2.1⟩) n 0 0 (by omega)
    have e7 : b' 7 = b 7 := (hb2 7 (by decide) (by decide)).trans (hb1 7 (by decide))
    have e10 : b' 10 = b 10 := (hb2 10 (by decide) (by decide)).trans (hb1 10 (by decide))
    have e17 : b' 17 = b 17 := (hb2 17 (by decide) (by decide)).trans (hb1 17 (by decide))
    have e8 : a' 8 = a 8 := (ha2 8 (by decide) (by decide)).trans (ha1 8 (by decide))
    refine ⟨ek _, n, z, c, XI_u (XI_u hxi (by decide)) (by decide), MI_b (MI_u (MI_u hmi (by decide)) (by decide)) ⟨e7, e10, e17⟩, IX_u (IX_u hX (by decide)) (by decide), IM_b (IM_u (IM_u hM (by decide)) (by decide)) e7, PR_of hp e8 e10, hsf, ⟨⟨n1, ?_, n3, ?_, n5⟩, n6, n7⟩, Ims_of hi (fun j hj => ?_) (fun j hj => ?_) (fun j hj => ?_) (fun j hj => ?_)⟩
    · show f 4 + 1 = g 9 + 1
      rw [n2]
    · show f 7 + FX2_keptIn_at9 f a1 ta n z c = g 10 + FX3_keptNow (upd g 9 ((g 9) + 1)) b' tb n z c
      rw [n4, ek (upd g 9 ((g 9) + 1))]
    · show upd (upd f 4 ((f 4) + 1)) 7 ((f 7) + FX2_keptIn_at9 f a1 ta n z c) j = f j
      rw [pk_un (by omega), pk_un (by omega)]
    · show upd (upd g 9 ((g 9) + 1)) 10 ((g 10) + (FX3_keptNow (upd g 9 ((g 9) + 1)) b' tb n z c)) j = g j
      rw [pk_un (by omega), pk_un (by omega)]
    · exact (ha2 j (by omega) (by omega)).trans (ha1 j (by omega))
    · exact (hb2 j (by omega) (by omega)).trans (hb1 j (by omega))
end RRD
