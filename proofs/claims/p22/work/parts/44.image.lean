section RRI
variable {f g t : Nat → Int32} {gl : Nat → Int64} {a ta b tb : Nat → Nat → Int32} {q n z c : Nat}
theorem cpy6 {u v : Nat → Int32} {i : Nat} (hi : i < 6) : va_cpy u v 0 0 6 i = u i := by
  rw [pk_cpy_in (Nat.zero_le i) (by omega), show 0 + (i - 0) = i by omega]
theorem imgM_v {b0 : Nat → Nat → Int32} : ∀ (d k : Nat) (g8 : Nat → Int32) (b8 : Nat → Nat → Int32), k + d = 6 → (∀ j : Nat, j < 13 → b8 j = b0 j) → (∀ i : Nat, i < k → b8 13 i = b0 3 i ∧ b8 14 i = b0 4 i ∧ b8 15 i = b0 5 i ∧ b8 16 i = b0 6 i) → ∃ b' : Nat → Nat → Int32, FX3_image_L65 t gl tb n z c d k g8 b8 = (g8 9, g8, t, gl, b', tb) ∧ (∀ j : Nat, j < 13 → b' j = b0 j) ∧ ∀ i : Nat, i < 6 → b' 13 i = b0 3 i ∧ b' 14 i = b0 4 i ∧ b' 15 i = b0 5 i ∧ b' 16 i = b0 6 i := by
  intro d
  induction d with
  | zero => intro k g8 b8 hk h1 h2; exact ⟨b8, rfl, h1, fun i hi => h2 i (by omega)⟩
  | succ d ih =>
    intro k g8 b8 hk h1 h2
    rw [FX3_image_L65]
    refine ih (k + 1) g8 _ (by omega) (fun j hj => ?_) (fun i hi => ?_)
    · show (if j = 19 then _ else (if j = 18 then _ else (if j = 17 then _ else (if j = 16 then _ else (if j = 15 then _ else (if j = 14 then _ else (if j = 13 then _ else b8 j))))))) = b0 j
      rw [if_neg (by omega), if_neg (by omega), if_neg (by omega), if_neg (by omega), if_neg (by omega), if_neg (by omega), if_neg (by omega)]
      exact h1 j hj
    · show upd (b8 13) k (b8 3 k) i = b0 3 i ∧ upd (b8 14) k (b8 4 k) i = b0 4 i ∧ upd (b8 15) k (b8 5 k) i = b0 5 i ∧ upd (b8 16) k (b8 6 k) i = b0 6 i
      by_cases e : i = k
      · subst e; rw [pk_us, pk_us, pk_us, pk_us, h1 3 (by omega), h1 4 (by omega), h1 5 (by omega), h1 6 (by omega)]; exact ⟨rfl, rfl, rfl, rfl⟩
      · rw [pk_un e, pk_un e, pk_un e, pk_un e]; exact h2 i (by omega)
theorem rr_image (h : RC q n z c f a g b) : (FX2_image f a ta n z c).1 = (FX3_image g t gl b tb n z c).1 ∧ RR (q + 1) (FX2_image f a ta n z c).2.1 (FX2_image f a ta n z c).2.2.1 (FX3_image g t gl b tb n z c).2.1 (FX3_image g t gl b tb n z c).2.2.2.2.1 := by
  obtain ⟨hxi, hmi, hX, hM, hp, hs, hn, hi⟩ := id h
  have same : RR (q + 1) f a g b := RR_mono ⟨n, z, c, h⟩
  have hn6 := hX.2.1
  have hx := ox_image (f := f) (a := a) (ta := ta) (n := n) hxi hX.2.2.2.2.2
  have hm := om_image (t := t) (gl := gl) (tb := tb) hM hmi
  rw [FX2_image] at hx ⊢
  rw [FX3_image] at hm ⊢
  by_cases h1 : nI n = 0
  · rw [if_pos h1, if_pos h1]; exact ⟨rfl, same⟩
  · rw [if_neg h1] at hx ⊢
    rw [if_neg h1] at hm ⊢
    obtain ⟨b', eb, hb1, hb2⟩ := imgM_v (t := t) (gl := gl) (tb := tb) (n := n) (z := z) (c := c) (b0 := b) 6 0 (upd (upd (upd (upd (upd (upd (upd g 25 1) 26 (g 0)) 27 (g 8)) 28 (g 9)) 29 (g 10)) 30 (g 11)) 31 (nI c)) b rfl (fun j _ => rfl) (fun i hi => absurd hi (by omega))
    rw [eb] at hm ⊢
    obtain ⟨⟨n1, n2, n3, n4, n5⟩, n6, v, u, hv, e0, hu, e26⟩ := Nums_mono hn
    refine ⟨n2, n, z, c, hx.1, hm.1, hX, IM_b hM (hb1 7 (by omega)), PR_of hp hx.2 hm.2, fun i hi => ?_, ⟨⟨n1, n2, n3, n4, n5⟩, n6, v, v, hv, e0, Nat.le_refl v, e0⟩, Or.inr ⟨rfl, ⟨(show ¬ (1 : Int32) = 0 by decide), rfl⟩, ⟨n2, n1, n3, n4, rfl⟩, n6, fun i hi => ?_⟩⟩
    · have h9 := hs i hi
      show (a 2 i = b' 1 i ∧ a 3 i = b' 2 i ∧ a 9 i = b' 3 i ∧ a 10 i = b' 4 i ∧ a 11 i = b' 6 i ∧ a 12 i = b' 5 i) ∧ Rg 0 4 (b' 1 i) ∧ Rg 1 9 (b' 2 i) ∧ Rg 0 30 (b' 3 i) ∧ Rg 0 30 (b' 4 i) ∧ Rg 0 9 (b' 6 i) ∧ Rg 0 99 (b' 5 i)
      rw [hb1 1 (by omega), hb1 2 (by omega), hb1 3 (by omega), hb1 4 (by omega), hb1 5 (by omega), hb1 6 (by omega)]
      exact h9
    · obtain ⟨⟨h1, h2, h3, h4, h5, h6⟩, g1, g2, g3, g4, g5, g6⟩ := hs i hi
      obtain ⟨c1, c2, c3, c4⟩ := hb2 i (by omega)
      show (va_cpy (a 9) (a 17) 0 0 6 i = b' 13 i ∧ va_cpy (a 10) (a 18) 0 0 6 i = b' 14 i ∧ va_cpy (a 11) (a 19) 0 0 6 i = b' 16 i ∧ va_cpy (a 12) (a 20) 0 0 6 i = b' 15 i) ∧ Rg 0 30 (b' 13 i) ∧ Rg 0 30 (b' 14 i) ∧ Rg 0 9 (b' 16 i) ∧ Rg 0 99 (b' 15 i)
      rw [cpy6 (by omega), cpy6 (by omega), cpy6 (by omega), cpy6 (by omega), c1, c2, c3, c4]
      exact ⟨⟨h3, h4, h5, h6⟩, g3, g4, g5, g6⟩
theorem resM_v {b0 : Nat → Nat → Int32} : ∀ (d k : Nat) (g5 : Nat → Int32) (b5 : Nat → Nat → Int32), k + d = 6 → (∀ j : Nat, j < 3 ∨ 10 ≤ j → b5 j = b0 j) → (∀ i : Nat, i < k → b5 3 i = b0 13 i ∧ b5 4 i = b0 14 i ∧ b5 5 i = b0 15 i ∧ b5 6 i = b0 16 i ∧ b5 7 i = b0 17 i) → ∃ b' : Nat → Nat → Int32, FX3_restore_L63 t gl tb n z c d k g5 b5 = (g5 9, g5, t, gl, b', tb) ∧ (∀ j : Nat, j < 3 ∨ 10 ≤ j → b' j = b0 j) ∧ ∀ i : Nat, i < 6 → b' 3 i = b0 13 i ∧ b' 4 i = b0 14 i ∧ b' 5 i = b0 15 i ∧ b' 6 i = b0 16 i ∧ b' 7 i = b0 17 i := by
  intro d
  induction d with
  | zero => intro k g5 b5 hk h1 h2; exact ⟨b5, rfl, h1, fun i hi => h2 i (by omega)⟩
  | succ d ih =>
    intro k g5 b5 hk h1 h2
    rw [FX3_restore_L63]
    refine ih (k + 1) g5 _ (by omega) (fun j hj => ?_) (fun i hi => ?_)
    · show (if j = 9 then _ else (if j = 8 then _ else (if j = 7 then _ else (if j = 6 then _ else (if j = 5 then _ else (if j = 4 then _ else (if j = 3 then _ else b5 j))))))) = b0 j
      rw [if_neg (by omega), if_neg (by omega), if_neg (by omega), if_neg (by omega), if_neg (by omega), if_neg (by omega), if_neg (by omega)]
      exact h1 j hj
    · show upd (b5 3) k (b5 13 k) i = b0 13 i ∧ upd (b5 4) k (b5 14 k) i = b0 14 i ∧ upd (b5 5) k (b5 15 k) i = b0 15 i ∧ upd (b5 6) k (b5 16 k) i = b0 16 i ∧ upd (b5 7) k (b5 17 k) i = b0 17 i
      by_cases e : i = k
      · subst e; rw [pk_us, pk_us, pk_us, pk_us, pk_us, h1 13 (by omega), h1 14 (by omega), h1 15 (by omega), h1 16 (by omega), h1 17 (by omega)]; exact ⟨rfl, rfl, rfl, rfl, rfl⟩
      · rw [pk_un e, pk_un e, pk_un e, pk_un e, pk_un e]; exact h2 i (by omega)
theorem rr_restore {c2 : Nat} (hc2 : f 13 = nI c2) (hc26 : c2 ≤ 6) (h : RC q n z c f a g b) : (FX2_restore f a ta n z c c2).1 = (FX3_restore g t gl b tb n z c).1 ∧ RR (q + 1) (FX2_restore f a ta n z c c2).2.1 (FX2_restore f a ta n z c c2).2.2.1 (FX3_restore g t gl b tb n z c).2.1 (FX3_restore g t gl b tb n z c).2.2.2.2.1 := by
  obtain ⟨hxi, hmi, hX, hM, hp, hs, hn, hi⟩ := id h
  have same : RR (q + 1) f a g b := RR_mono ⟨n, z, c, h⟩
  have hn6 := hX.2.1
  have hx := ox_restore (f := f) (a := a) (ta := ta) (n := n) (c := c) (c2 := c2) hxi hc26
  have hm := om_restore (t := t) (gl := gl) (tb := tb) (n := n) (c := c) hmi
  rw [FX2_restore] at hx ⊢
  rw [FX3_restore] at hm ⊢
  rcases hi with ⟨i1, i2⟩ | ⟨i1, ⟨i2, i3⟩, ⟨i4, i5, i6, i7, i8⟩, i9, i10⟩
  · rw [if_pos i1]
    rcases i2 with i2 | i2
    · rw [if_pos i2]; exact ⟨rfl, same⟩
    · by_cases i3 : g 25 = 0
      · rw [if_pos i3]; exact ⟨rfl, same⟩
      · rw [if_neg i3, if_neg i2]; exact ⟨rfl, same⟩
  · have i11 : ¬ f 2 = 0 := by rw [i1]; decide
    rw [if_neg i11] at hx ⊢
    rw [if_neg i2, if_pos i3] at hm ⊢
    obtain ⟨b', eb, hb1, hb2⟩ := resM_v (t := t) (gl := gl) (tb := tb) (n := n) (z := z) (c := c) (b0 := b) 6 0 (upd (upd (upd (upd (upd g 8 (g 27)) 9 (g 28)) 10 (g 29)) 11 (g 30)) 12 (g 31)) b rfl (fun j _ => rfl) (fun i hi => absurd hi (by omega))
    rw [eb] at hm ⊢
    obtain ⟨⟨n1, n2, n3, n4, n5⟩, n6, n7⟩ := Nums_mono hn
    have e31 : g 31 = nI c2 := i8.symm.trans hc2
    have h17 : ∀ k : Nat, k < c2 → ∃ j : Nat, j < 6 ∧ b 17 k = nI j := by
      obtain ⟨-, -, c3, -, g3, g4, g5⟩ := hmi
      have e3 : c3 = c2 := (nI_eq (by omega) (by omega)).mp (g3.symm.trans e31)
      rw [← e3]
      exact g5
    refine ⟨i4, n, z, c2, hx.1, hm.1, ⟨hX.1, hn6, hX.2.2.1, hX.2.2.2.1, rfl, hc26⟩, ⟨hM.1, hn6, hM.2.2.1, hM.2.2.2.1, e31, hc26, fun k hk => ?_⟩, PR_of hp hx.2 hm.2, fun i hi => ?_, ⟨⟨i5, i4, i6, i7, n5⟩, i9, n7⟩, Or.inr ⟨i1, ⟨i2, i3⟩, ⟨i4, i5, i6, i7, i8⟩, i9, fun i hi => ?_⟩⟩
    · show ∃ j : Nat, j < 6 ∧ b' 7 k = nI j
      rw [(hb2 k (by omega)).2.2.2.2]
      exact h17 k hk
    · obtain ⟨⟨h1, h2, -, -, -, -⟩, g1, g2, -, -, -, -⟩ := hs i hi
      obtain ⟨⟨k1, k2, k3, k4⟩, r1, r2, r3, r4⟩ := i10 i hi
      obtain ⟨d1, d2, d3, d4, -⟩ := hb2 i (by omega)
      show (a 2 i = b' 1 i ∧ a 3 i = b' 2 i ∧ va_cpy (a 17) (a 9) 0 0 6 i = b' 3 i ∧ va_cpy (a 18) (a 10) 0 0 6 i = b' 4 i ∧ va_cpy (a 19) (a 11) 0 0 6 i = b' 6 i ∧ va_cpy (a 20) (a 12) 0 0 6 i = b' 5 i) ∧ Rg 0 4 (b' 1 i) ∧ Rg 1 9 (b' 2 i) ∧ Rg 0 30 (b' 3 i) ∧ Rg 0 30 (b' 4 i) ∧ Rg 0 9 (b' 6 i) ∧ Rg 0 99 (b' 5 i)
      rw [cpy6 (by omega), cpy6 (by omega), cpy6 (by omega), cpy6 (by omega), hb1 1 (by omega), hb1 2 (by omega), d1, d2, d3, d4]
      exact ⟨⟨h1, h2, k1, k2, k3, k4⟩, g1, g2, r1, r2, r3, r4⟩
    · have h9 := i10 i hi
      show (a 17 i = b' 13 i ∧ a 18 i = b' 14 i ∧ a 19 i = b' 16 i ∧ a 20 i = b' 15 i) ∧ Rg 0 30 (b' 13 i) ∧ Rg 0 30 (b' 14 i) ∧ Rg 0 9 (b' 16 i) ∧ Rg 0 99 (b' 15 i)
      rw [hb1 13 (by omega), hb1 14 (by omega), hb1 15 (by omega), hb1 16 (by omega)]
      exact h9
/-- what leaves all as it was -/
def OXs (f : Nat → Int32) (a : Nat → Nat → Int32) (r : Int32 × SX) : Prop := r.2.1 = f ∧ r.2.2.1 = a
def W3 (b b' : Nat → Nat → Int32) : Prop := (∀ j : Nat, j ≠ 3 → b' j = b j) ∧ ∀ i : Nat, i < 6 → b' 3 i = b 3 i
def OMw (g : Nat → Int32) (b : Nat → Nat → Int32) (r : Int32 × SM) : Prop := r.2.1 = g ∧ W3 b r.2.2.2.2.1
theorem W3_rf : W3 b b := ⟨fun _ _ => rfl, fun _ _ => rfl⟩
theorem RC_w {b' : Nat → Nat → Int32} (h : RC q n z c f a g b) (hw : W3 b b') : RC q n z c f a g b' := by
  obtain ⟨hxi, hmi, hX, hM, hp, hs, hn, hi⟩ := h
  obtain ⟨h1, h2⟩ := hw
  have hn6 := hX.2.1
  refine ⟨hxi, MI_b hmi ⟨h1 7 (by decide), h1 10 (by decide), h1 17 (by decide)⟩, hX, IM_b hM (h1 7 (by decide)), PR_of hp rfl (h1 10 (by decide)), fun i hi => ?_, hn, Ims_of hi (fun j _ => rfl) (fun j _ => rfl) (fun j _ => rfl) (fun j hj => h1 j (by omega))⟩
  rw [h1 1 (by decide), h1 2 (by decide), h1 4 (by decide), h1 5 (by decide), h1 6 (by decide), h2 i (by omega)]
  exact hs i hi
theorem RR_st {r : Int32 × SX} {w : Int32 × SM} (h : RC q n z c f a g b) (h1 : OXs f a r) (h2 : OMw g b w) : RR (q + 1) r.2.1 r.2.2.1 w.2.1 w.2.2.2.2.1 := by
  rw [h1.1, h1.2, h2.1]
  exact RR_mono ⟨n, z, c, RC_w h h2.2⟩
theorem st_planX {p0 p1 p2 : Int32} : OXs f a (FX2_plan f a ta n z c p0 p1 p2) := by
  rw [FX2_plan]
  repeat' first | refine ite_P (P := OXs f a) (fun _ => ?_) (fun _ => ?_) | exact ⟨rfl, rfl⟩
theorem st_planM {p0 p1 p2 : Int32} : OMw g b (FX3_plan g t gl b tb n z c p0 p1 p2) := by
  rw [FX3_plan]
  refine ite_P (P := OMw g b) (fun _ => ⟨rfl, W3_rf⟩) (fun _ => ?_)
  refine ite_P (P := OMw g b) (fun _ => ⟨rfl, W3_rf⟩) (fun _ => ?_)
  refine ite_P (P := OMw g b) (fun _ => ⟨rfl, W3_rf⟩) (fun _ => ?_)
  refine ite_P (P := OMw g b) (fun _ => ⟨rfl, W3_rf⟩) (fun _ => ?_)
  refine ⟨kp_planNow_g .., ?_⟩
  show W3 b (FX3_planNow g t gl b tb n z c p0 p1.toNatClampNeg p2).2.2.2.2.1
  rw [kp_planNow_b]
  exact W3_rf
theorem st_winX_L {p0 p1 p2 : Int32} : ∀ (d k : Nat) (x y : Int32) (ta : Nat → Nat → Int32), OXs f a (FX2_winters_L63 f a n z c p0 p1 p2 d k x y ta) := by
  intro d
  induction d with
  | zero =>
    intro k x y ta
    rw [FX2_winters_L63]
    repeat' first | refine ite_P (P := OXs f a) (fun _ => ?_) (fun _ => ?_) | exact ⟨rfl, rfl⟩
  | succ d ih => intro k x y ta; rw [FX2_winters_L63]; exact ih _ _ _ _
theorem st_winX {p0 p1 p2 : Int32} : OXs f a (FX2_winters f a ta n z c p0 p1 p2) := by
  rw [FX2_winters]
  repeat' first | refine ite_P (P := OXs f a) (fun _ => ?_) (fun _ => ?_) | exact ⟨rfl, rfl⟩ | exact st_winX_L ..
theorem st_w114 {p0 : Nat} {p1 p2 : Int32} {b : Nat → Nat → Int32} : ∀ (d k : Nat) (x y : Int32) (gl : Nat → Int64) (b' tb' : Nat → Nat → Int32), k + d = 6 → (∀ j : Nat, j ≠ 3 → b' j = b j) → (∀ i : Nat, i < 6 → tb' 12 i = b 3 i) → (∀ i : Nat, i < k → b' 3 i = b 3 i) → OMw g b (FX3_wintersNow_L114 g t n z c p0 p1 p2 d k x y gl b' tb') := by
  intro d
  induction d with
  | zero =>
    intro k x y gl b' tb' hk h1 h2 h3
    rw [FX3_wintersNow_L114]
    repeat' first | refine ite_P (P := OMw g b) (fun _ => ?_) (fun _ => ?_) | exact ⟨rfl, h1, fun i hi => h3 i (by omega)⟩
  | succ d ih =>
    intro k x y gl b' tb' hk h1 h2 h3
    rw [FX3_wintersNow_L114]
    refine ih _ _ _ _ _ _ (by omega) (fun j hj => ?_) h2 (fun i hi => ?_)
    · show (if j = 3 then _ else b' j) = b j
      rw [if_neg hj]; exact h1 j hj
    · show upd (b' 3) k (tb' 12 k) i = b 3 i
      by_cases e : i = k
      · subst e; rw [pk_us]; exact h2 i (by omega)
      · rw [pk_un e]; exact h3 i (by omega)
theorem st_w42 {p0 : Nat} {p1 p2 : Int32} {b : Nat → Nat → Int32} : ∀ (d k : Nat) (x : Int32) (gl : Nat → Int64) (b' tb' : Nat → Nat → Int32), (∀ j : Nat, j ≠ 3 → b' j = b j) → (∀ i : Nat, i < 6 → tb' 12 i = b 3 i) → OMw g b (FX3_wintersNow_L42 g t n z c p0 p1 p2 d k x gl b' tb') := by
  intro d
  induction d with
  | zero =>
    intro k x gl b' tb' h1 h2
    rw [FX3_wintersNow_L42]
    exact st_w114 6 0 _ _ _ _ _ rfl h1 h2 (fun i hi => absurd hi (by omega))
  | succ d ih =>
    intro k x gl b' tb' h1 h2
    rw [FX3_wintersNow_L42]
    refine ih _ _ _ _ _ (fun j hj => ?_) h2
    refine (melt_ne hj n 0 _).trans ?_
    show (if j = 3 then _ else b' j) = b j
    rw [if_neg hj]; exact h1 j hj
theorem st_w3 {p0 : Nat} {p1 p2 : Int32} : ∀ (d k : Nat) (tb' : Nat → Nat → Int32), k + d = 6 → (∀ i : Nat, i < k → tb' 12 i = b 3 i) → OMw g b (FX3_wintersNow_L3 g t gl b n z c p0 p1 p2 d k tb') := by
  intro d
  induction d with
  | zero =>
    intro k tb' hk h
    rw [FX3_wintersNow_L3]
    exact st_w42 _ _ _ _ _ _ (fun j _ => rfl) (fun i hi => h i (by omega))
  | succ d ih =>
    intro k tb' hk h
    rw [FX3_wintersNow_L3]
    refine ih _ _ (by omega) (fun i hi => ?_)
    show upd (tb' 12) k (b 3 k) i = b 3 i
    by_cases e : i = k
    · subst e; rw [pk_us]
    · rw [pk_un e]; exact h i (by omega)
theorem st_winM {p0 p1 p2 : Int32} : OMw g b (FX3_winters g t gl b tb n z c p0 p1 p2) := by
  rw [FX3_winters]
  refine ite_P (P := OMw g b) (fun _ => ⟨rfl, W3_rf⟩) (fun _ => ?_)
  refine ite_P (P := OMw g b) (fun _ => ⟨rfl, W3_rf⟩) (fun _ => ?_)
  refine ite_P (P := OMw g b) (fun _ => ⟨rfl, W3_rf⟩) (fun _ => ?_)
  refine ite_P (P := OMw g b) (fun _ => ⟨rfl, W3_rf⟩) (fun _ => ?_)
  exact st_w3 6 0 tb rfl (fun i hi => absurd hi (by omega))
theorem st_digest (h : RC q n z c f a g b) : RR (q + 1) (FX2_digest f a ta n z c).2.1 (FX2_digest f a ta n z c).2.2.1 (FX3_digest g t gl b tb n z c).2.1 (FX3_digest g t gl b tb n z c).2.2.2.2.1 := by
  have h1 : OXl f a (FX2_digest f a ta n z c) := dg_6 ..
  have h2 : OMl g b (FX3_digest g t gl b tb n z c) := mg_9 ..
  rw [h1.1, h1.2, h2.1, h2.2]
  exact RR_mono ⟨n, z, c, h⟩
theorem RR_0 : RR 0 (fun _ => 0) (fun _ _ => 0) (fun _ => 0) (fun _ _ => 0) := ⟨0, 0, 0, ⟨0, 0, 0, ⟨rfl, by omega, rfl, by omega, rfl, by omega⟩, rfl, by omega⟩, ⟨0, 0, 0, ⟨rfl, by omega, rfl, by omega, rfl, by omega, fun k hk => absurd hk (by omega)⟩, rfl, by omega, fun k hk => absurd hk (by omega)⟩, ⟨rfl, by omega, rfl, by omega, rfl, by omega⟩, ⟨rfl, by omega, rfl, by omega, rfl, by omega, fun k hk => absurd hk (by omega)⟩, ⟨fun i hi => absurd hi (by omega), fun i hi => absurd hi (by omega)⟩, fun i hi => absurd hi (by omega), ⟨⟨rfl, rfl, rfl, rfl, rfl⟩, rg0, 0, 0, by omega, rfl, by omega, rfl⟩, Or.inl ⟨rfl, Or.inl rfl⟩⟩
end RRI
