/-- what holds of the class's numbers between calls, with z letters on the page; of the reference's -/
def XI (f : Nat → Int32) (z : Nat) : Prop := ∃ n c c2 : Nat, IX n z c f ∧ f 13 = nI c2 ∧ c2 ≤ 6
def MI (g : Nat → Int32) (b : Nat → Nat → Int32) (z : Nat) : Prop := ∃ n c c2 : Nat, IM n z c g b ∧ g 31 = nI c2 ∧ c2 ≤ 6 ∧ ∀ k : Nat, k < c2 → ∃ j : Nat, j < 6 ∧ b 17 k = nI j
def SXk (z : Nat) (a : Nat → Nat → Int32) (u : SX) : Prop := XI u.1 z ∧ u.2.1 8 = a 8
def OX (z : Nat) (a : Nat → Nat → Int32) (r : Int32 × SX) : Prop := SXk z a r.2
def SMk (z : Nat) (b : Nat → Nat → Int32) (u : SM) : Prop := MI u.1 u.2.2.2.1 z ∧ u.2.2.2.1 10 = b 10
def OM (z : Nat) (b : Nat → Nat → Int32) (r : Int32 × SM) : Prop := SMk z b r.2
theorem XI_u {f : Nat → Int32} {z i : Nat} {v : Int32} (h : XI f z) (hi : i ≠ 0 ∧ i ≠ 3 ∧ i ≠ 8 ∧ i ≠ 13) : XI (upd f i v) z := by
  obtain ⟨n, c, c2, h1, h2, h3⟩ := h
  exact ⟨n, c, c2, IX_u h1 ⟨hi.1, hi.2.1, hi.2.2.1⟩, by rw [pk_un (by omega)]; exact h2, h3⟩
theorem XI_8 {f : Nat → Int32} {z c : Nat} (h : XI f z) (hc : c ≤ 6) : XI (upd f 8 (nI c)) z := by
  obtain ⟨n, c', c2, h1, h2, h3⟩ := h
  exact ⟨n, c, c2, IX_c h1 hc, by rw [pk_un (by omega)]; exact h2, h3⟩
theorem XI_13 {f : Nat → Int32} {z c : Nat} (h : XI f z) (hc : c ≤ 6) : XI (upd f 13 (nI c)) z := by
  obtain ⟨n, c', c2, h1, h2, h3⟩ := h
  exact ⟨n, c', c, IX_u h1 (by decide), pk_us, hc⟩
theorem XI_3 {f : Nat → Int32} {z z' : Nat} (h : XI f z) (hz : z' ≤ 21) : XI (upd f 3 (nI z')) z' := by
  obtain ⟨n, c', c2, ⟨h1, h2, h3, h4, h5, h6⟩, h7, h8⟩ := h
  exact ⟨n, c', c2, ⟨by rw [pk_un (by omega)]; exact h1, h2, pk_us, hz, by rw [pk_un (by omega)]; exact h5, h6⟩, by rw [pk_un (by omega)]; exact h7, h8⟩
theorem XI_0 {f : Nat → Int32} {z m : Nat} (h : XI f z) (hm : m ≤ 6) : XI (upd f 0 (nI m)) z := by
  obtain ⟨n, c, c2, h1, h2, h3⟩ := h
  exact ⟨m, c, c2, IX_n h1 hm, by rw [pk_un (by omega)]; exact h2, h3⟩
theorem MI_u {g : Nat → Int32} {b : Nat → Nat → Int32} {z i : Nat} {v : Int32} (h : MI g b z) (hi : i ≠ 1 ∧ i ≠ 16 ∧ i ≠ 12 ∧ i ≠ 31) : MI (upd g i v) b z := by
  obtain ⟨n, c, c2, h1, h2, h3⟩ := h
  exact ⟨n, c, c2, IM_u h1 ⟨hi.1, hi.2.1, hi.2.2.1⟩, by rw [pk_un (by omega)]; exact h2, h3⟩
theorem MI_a {g : Nat → Int32} {b : Nat → Nat → Int32} {z q : Nat} {v : Nat → Int32} (h : MI g b z) (hq : q ≠ 7 ∧ q ≠ 17) : MI g (uA b q v) z := by
  obtain ⟨n, c, c2, h1, h2, h3, h4⟩ := h
  refine ⟨n, c, c2, IM_a h1 hq.1, h2, h3, fun k hk => ?_⟩
  show ∃ j : Nat, j < 6 ∧ (if 17 = q then v else b 17) k = nI j
  rw [if_neg (fun e => hq.2 e.symm)]
  exact h4 k hk
theorem MI_12 {g : Nat → Int32} {b : Nat → Nat → Int32} {z : Nat} (h : MI g b z) : MI (upd g 12 0) b z := by
  obtain ⟨n, c, c2, ⟨h1, h2, h3, h4, h5, h6, h7⟩, h8, h9⟩ := h
  exact ⟨n, 0, c2, ⟨by rw [pk_un (by omega)]; exact h1, h2, by rw [pk_un (by omega)]; exact h3, h4, pk_us, by omega, fun k hk => absurd hk (by omega)⟩, by rw [pk_un (by omega)]; exact h8, h9⟩
theorem MI_16 {g : Nat → Int32} {b : Nat → Nat → Int32} {z z' : Nat} (h : MI g b z) (hz : z' ≤ 21) : MI (upd g 16 (nI z')) b z' := by
  obtain ⟨n, c, c2, ⟨h1, h2, h3, h4, h5, h6, h7⟩, h8, h9⟩ := h
  exact ⟨n, c, c2, ⟨by rw [pk_un (by omega)]; exact h1, h2, pk_us, hz, by rw [pk_un (by omega)]; exact h5, h6, h7⟩, by rw [pk_un (by omega)]; exact h8, h9⟩
theorem MI_1 {g : Nat → Int32} {b : Nat → Nat → Int32} {z m : Nat} (h : MI g b z) (hm : m ≤ 6) : MI (upd g 1 (nI m)) b z := by
  obtain ⟨n, c, c2, h1, h2, h3⟩ := h
  exact ⟨m, c, c2, IM_n h1 hm, by rw [pk_un (by omega)]; exact h2, h3⟩
section XOK
variable {f : Nat → Int32} {a ta : Nat → Nat → Int32} {n z c : Nat}
theorem ox_tread {p0 p1 : Int32} (h : XI f z) : OX z a (FX2_tread f a ta n z c p0 p1) := by
  rw [FX2_tread]
  repeat' first | refine ite_P (P := OX z a) (fun _ => ?_) (fun _ => ?_) | exact ⟨h, rfl⟩
theorem ox_sun {p0 : Int32} (h : XI f z) : OX z a (FX2_sun f a ta n z c p0) := by
  rw [FX2_sun]
  repeat' first | refine ite_P (P := OX z a) (fun _ => ?_) (fun _ => ?_) | exact ⟨h, rfl⟩ | exact ⟨XI_u h (by decide), rfl⟩
theorem ox_bring {p0 p1 : Int32} (h : XI f z) : OX z a (FX2_bring f a ta n z c p0 p1) := by
  rw [FX2_bring]
  repeat' first | refine ite_P (P := OX z a) (fun _ => ?_) (fun _ => ?_) | exact ⟨h, rfl⟩ | exact ⟨XI_u h (by decide), rfl⟩
theorem ox_forget (h : XI f z) : OX z a (FX2_forget f a ta n z c) := ⟨XI_8 (c := 0) h (by omega), rfl⟩
theorem ox_addFound {p0 p1 p2 p3 : Int32} (h : XI f z) (hc : c ≤ 6) : OX z a (FX1_addFound f a ta n z c p0 p1 p2 p3) := by
  rw [FX1_addFound]
  refine ite_P (P := OX z a) (fun h1 => ?_) (fun _ => ⟨h, rfl⟩)
  have h2 : c < 6 := (nI_ltI (a := c) (b := 6) (by omega) (by omega)).mp h1
  exact ⟨XI_8 h (by omega), rfl⟩
theorem ox_found {p0 p1 p2 : Int32} (h : XI f z) (hc : c ≤ 6) : OX z a (FX2_found f a ta n z c p0 p1 p2) := by
  rw [FX2_found]
  repeat' first | exact ox_addFound h hc | refine ite_P (P := OX z a) (fun _ => ?_) (fun _ => ?_) | exact ⟨h, rfl⟩
theorem melt9_8 {p0 : Int32} : ∀ (d k : Nat) (a : Nat → Nat → Int32), (FX2_meltAll_at9_L2 f ta n z c p0 d k a).2.2.1 8 = a 8 := by
  intro d
  induction d with
  | zero => intro k a; rfl
  | succ d ih => intro k a; rw [FX2_meltAll_at9_L2]; exact ih _ _
theorem endDay_ok {p0 : Int32} : ∀ (d k : Nat) (f : Nat → Int32) (a : Nat → Nat → Int32), (FX1_endDay_L22 ta n z c p0 d k f a).1 = f ∧ (FX1_endDay_L22 ta n z c p0 d k f a).2.1 8 = a 8 := by
  intro d
  induction d with
  | zero => intro k f a; exact ⟨rfl, rfl⟩
  | succ d ih => intro k f a; rw [FX1_endDay_L22]; exact ih _ _ _
theorem endDay_f {p0 : Int32} : (FX1_endDay f a ta n z c p0).1 = upd (upd f 4 ((f 4) + 1)) 7 ((f 7) + p0) := (endDay_ok (ta := ta) (n := n) (z := z) (c := c) (p0 := p0) 6 0 _ a).1
theorem endDay_8 {p0 : Int32} : (FX1_endDay f a ta n z c p0).2.1 8 = a 8 := (endDay_ok (ta := ta) (n := n) (z := z) (c := c) (p0 := p0) 6 0 _ a).2
theorem ox_endDay {a0 : Nat → Nat → Int32} {p0 : Int32} (h : XI f z) (h8 : a 8 = a0 8) : SXk z a0 (FX1_endDay f a ta n z c p0) := ⟨by rw [endDay_f]; exact XI_u (XI_u h (by decide)) (by decide), endDay_8.trans h8⟩
theorem ox_day (h : XI f z) : OX z a (FX2_day f a ta n z c) := by
  rw [FX2_day]
  refine ite_P (P := OX z a) (fun _ => ⟨h, rfl⟩) (fun _ => ?_)
  exact ox_endDay (ta := ta) (n := n) (c := c) h (melt9_8 (f := f) (ta := ta) (n := n) (z := z) (c := c) n 0 a)
theorem ox_plan {p0 p1 p2 : Int32} (h : XI f z) : OX z a (FX2_plan f a ta n z c p0 p1 p2) := by
  rw [FX2_plan]
  repeat' first | refine ite_P (P := OX z a) (fun _ => ?_) (fun _ => ?_) | exact ⟨h, rfl⟩
theorem ox_winters_L {p0 p1 p2 : Int32} (h : XI f z) : ∀ (d k : Nat) (x y : Int32) (ta : Nat → Nat → Int32), OX z a (FX2_winters_L63 f a n z c p0 p1 p2 d k x y ta) := by
  intro d
  induction d with
  | zero =>
    intro k x y ta
    rw [FX2_winters_L63]
    repeat' first | refine ite_P (P := OX z a) (fun _ => ?_) (fun _ => ?_) | exact ⟨h, rfl⟩
  | succ d ih => intro k x y ta; rw [FX2_winters_L63]; exact ih _ _ _ _
theorem ox_winters {p0 p1 p2 : Int32} (h : XI f z) : OX z a (FX2_winters f a ta n z c p0 p1 p2) := by
  rw [FX2_winters]
  repeat' first | refine ite_P (P := OX z a) (fun _ => ?_) (fun _ => ?_) | exact ⟨h, rfl⟩ | exact ox_winters_L h ..
theorem ox_image (h : XI f z) (hc : c ≤ 6) : OX z a (FX2_image f a ta n z c) := by
  rw [FX2_image]
  refine ite_P (P := OX z a) (fun _ => ⟨h, rfl⟩) (fun _ => ?_)
  exact ⟨XI_u (XI_13 (XI_u (XI_u (XI_u (XI_u h (by decide)) (by decide)) (by decide)) (by decide)) hc) (by decide), rfl⟩
theorem ox_restore {c2 : Nat} (h : XI f z) (hc : c2 ≤ 6) : OX z a (FX2_restore f a ta n z c c2) := by
  rw [FX2_restore]
  refine ite_P (P := OX z a) (fun _ => ⟨h, rfl⟩) (fun _ => ?_)
  exact ⟨XI_8 (XI_u (XI_u (XI_u (XI_u h (by decide)) (by decide)) (by decide)) (by decide)) hc, rfl⟩
def OXl (f : Nat → Int32) (a : Nat → Nat → Int32) (r : Int64 × SX) : Prop := r.2.1 = f ∧ r.2.2.1 = a
theorem dg_186 : ∀ (d k : Nat) (x : Int64) (ta : Nat → Nat → Int32), OXl f a (FX2_digest_L186 f a n z c d k x ta) := by
  intro d
  induction d with
  | zero => intro k x ta; exact ⟨rfl, rfl⟩
  | succ d ih => intro k x ta; rw [FX2_digest_L186]; exact ih _ _ _
theorem dg_154 : ∀ (d k : Nat) (x : Int64) (ta : Nat → Nat → Int32), OXl f a (FX2_digest_L154 f a n z c d k x ta) := by
  intro d
  induction d with
  | zero => intro k x ta; rw [FX2_digest_L154]; exact dg_186 ..
  | succ d ih => intro k x ta; rw [FX2_digest_L154]; exact ih _ _ _
theorem dg_90 : ∀ (d k : Nat) (x : Int64) (ta : Nat → Nat → Int32), OXl f a (FX2_digest_L90 f a n z c d k x ta) := by
  intro d
  induction d with
  | zero => intro k x ta; rw [FX2_digest_L90]; exact dg_154 ..
  | succ d ih => intro k x ta; rw [FX2_digest_L90]; exact ih _ _ _
theorem dg_6 : ∀ (d k : Nat) (x : Int64) (ta : Nat → Nat → Int32), OXl f a (FX2_digest_L6 f a n z c d k x ta) := by
  intro d
  induction d with
  | zero => intro k x ta; rw [FX2_digest_L6]; exact ite_P (P := OXl f a) (fun _ => dg_154 ..) (fun _ => dg_90 ..)
  | succ d ih => intro k x ta; rw [FX2_digest_L6]; exact ih _ _ _
theorem ox_digest (h : XI f z) : SXk z a (FX2_digest f a ta n z c).2 := by
  have h1 : OXl f a (FX2_digest f a ta n z c) := dg_6 ..
  exact ⟨by rw [h1.1]; exact h, by rw [h1.2]⟩
end XOK
section MOK
variable {g t : Nat → Int32} {gl : Nat → Int64} {b tb : Nat → Nat → Int32} {n z c : Nat}
theorem om_tread {p0 p1 : Int32} (h : MI g b z) : OM z b (FX3_tread g t gl b tb n z c p0 p1) := by
  rw [FX3_tread]
  repeat' first | refine ite_P (P := OM z b) (fun _ => ?_) (fun _ => ?_) | exact ⟨h, rfl⟩ | exact ⟨MI_a h (by decide), rfl⟩
theorem om_sun {p0 : Int32} (h : MI g b z) : OM z b (FX3_sun g t gl b tb n z c p0) := by
  rw [FX3_sun]
  repeat' first | refine ite_P (P := OM z b) (fun _ => ?_) (fun _ => ?_) | exact ⟨h, rfl⟩ | exact ⟨MI_u h (by decide), rfl⟩
theorem om_bring {p0 p1 : Int32} (h : MI g b z) : OM z b (FX3_bring g t gl b tb n z c p0 p1) := by
  rw [FX3_bring]
  repeat' first | refine ite_P (P := OM z b) (fun _ => ?_) (fun _ => ?_) | exact ⟨h, rfl⟩ | exact ⟨MI_u (MI_a (MI_a h (by decide)) (by decide)) (by decide), rfl⟩
theorem om_forget (h : MI g b z) : OM z b (FX3_forget g t gl b tb n z c) := ⟨MI_12 h, rfl⟩
theorem site_nat {x : Int32} (hM : IM n z c g b) (h : ¬ FX3_isSite g b tb n z c x = 0) : ∃ j : Nat, j < 6 ∧ x = nI j := vp_in_of (site_M hM h) (by omega)
theorem MI_found {p0 : Int32} (hM : IM n z c g b) (h : MI g b z) (hc : c < 6) (hp : ∃ j : Nat, j < 6 ∧ p0 = nI j) : MI (upd g 12 (nI (c + 1))) (uA b 7 (upd (b 7) c p0)) z := by
  obtain ⟨h1, h2, h3, h4, h5, h7, h8⟩ := hM
  obtain ⟨n', c', c2, -, g2, g3, g4⟩ := h
  refine ⟨n, c + 1, c2, ⟨by rw [pk_un (by omega)]; exact h1, h2, by rw [pk_un (by omega)]; exact h3, h4, pk_us, by omega, fun k hk => ?_⟩, by rw [pk_un (by omega)]; exact g2, g3, g4⟩
  show ∃ j : Nat, j < 6 ∧ (upd (b 7) c p0) k = nI j
  by_cases e : k = c
  · subst e; rw [pk_us]; exact hp
  · rw [pk_un e]; exact h8 k (by omega)
theorem om_found {p0 p1 p2 : Int32} (hM : IM n z c g b) (h : MI g b z) : OM z b (FX3_found g t gl b tb n z c p0 p1 p2) := by
  rw [FX3_found]
  refine ite_P (P := OM z b) (fun _ => ⟨h, rfl⟩) (fun hs => ?_)
  refine ite_P (P := OM z b) (fun _ => ⟨h, rfl⟩) (fun _ => ?_)
  refine ite_P (P := OM z b) (fun _ => ⟨h, rfl⟩) (fun _ => ?_)
  refine ite_P (P := OM z b) (fun _ => ⟨h, rfl⟩) (fun h6 => ?_)
  exact ⟨MI_a (MI_a (MI_found hM h (c_lt6 h6 hM.2.2.2.2.2.1) (site_nat hM hs)) (by decide)) (by decide), rfl⟩
def Kb (b0 b : Nat → Nat → Int32) : Prop := b 7 = b0 7 ∧ b 10 = b0 10 ∧ b 17 = b0 17
theorem MI_b {b0 : Nat → Nat → Int32} (h : MI g b0 z) (hk : Kb b0 b) : MI g b z := by
  obtain ⟨n, c, c2, ⟨h1, h2, h3, h4, h5, h6, h7⟩, h8, h9, h10⟩ := h
  exact ⟨n, c, c2, ⟨h1, h2, h3, h4, h5, h6, by rw [hk.1]; exact h7⟩, h8, h9, by rw [hk.2.2]; exact h10⟩
theorem melt_Kb {p0 : Int32} : ∀ (d k : Nat) (b : Nat → Nat → Int32), Kb b (FX3_melt_L2 g t gl tb n z c p0 d k b).2.2.2.1 := by
  intro d
  induction d with
  | zero => intro k b; exact ⟨rfl, rfl, rfl⟩
  | succ d ih => intro k b; rw [FX3_melt_L2]; exact ih _ _
theorem Kb_trans {b0 b1 b2 : Nat → Nat → Int32} (h1 : Kb b0 b1) (h2 : Kb b1 b2) : Kb b0 b2 := ⟨h2.1.trans h1.1, h2.2.1.trans h1.2.1, h2.2.2.trans h1.2.2⟩
theorem Kb_3 {b : Nat → Nat → Int32} {v : Nat → Int32} : Kb b (uA b 3 v) := ⟨rfl, rfl, rfl⟩
theorem melt_Kb1 {p0 : Int32} : Kb b (FX3_melt g t gl b tb n z c p0).2.2.2.1 := melt_Kb n 0 b
theorem om_day_L : ∀ (d k : Nat) (b b0 : Nat → Nat → Int32), MI g b0 z → Kb b0 b → OM z b0 (FX3_day_L20 g t gl tb n z c d k b) := by
  intro d
  induction d with
  | zero =>
    intro k b b0 h hk
    rw [FX3_day_L20]
    exact ⟨MI_b (MI_u (MI_u h (by decide)) (by decide)) hk, hk.2.1⟩
  | succ d ih => intro k b b0 h hk; rw [FX3_day_L20]; exact ih _ _ b0 h hk
theorem om_day (h : MI g b z) : OM z b (FX3_day g t gl b tb n z c) := by
  rw [FX3_day]
  exact ite_P (P := OM z b) (fun _ => ⟨h, rfl⟩) (fun _ => om_day_L _ _ _ b h (melt_Kb ..))
theorem om_planNow {p0 p2 : Int32} {p1 : Nat} (h : MI g b z) : OM z b (FX3_planNow g t gl b tb n z c p0 p1 p2) := by
  refine ⟨?_, ?_⟩
  · rw [kp_planNow_g, kp_planNow_b]; exact h
  · rw [kp_planNow_b]
theorem om_plan {p0 p1 p2 : Int32} (h : MI g b z) : OM z b (FX3_plan g t gl b tb n z c p0 p1 p2) := by
  rw [FX3_plan]
  repeat' first | refine ite_P (P := OM z b) (fun _ => ?_) (fun _ => ?_) | exact ⟨h, rfl⟩ | exact om_planNow h
theorem om_w114 {p0 : Nat} {p1 p2 : Int32} : ∀ (d k : Nat) (x y : Int32) (gl : Nat → Int64) (b tb b0 : Nat → Nat → Int32), MI g b0 z → Kb b0 b → OM z b0 (FX3_wintersNow_L114 g t n z c p0 p1 p2 d k x y gl b tb) := by
  intro d
  induction d with
  | zero =>
    intro k x y gl b tb b0 h hk
    rw [FX3_wintersNow_L114]
    repeat' first | refine ite_P (P := OM z b0) (fun _ => ?_) (fun _ => ?_) | exact ⟨MI_b h hk, hk.2.1⟩
  | succ d ih => intro k x y gl b tb b0 h hk; rw [FX3_wintersNow_L114]; exact ih _ _ _ _ _ _ b0 h hk
theorem om_w42 {p0 : Nat} {p1 p2 : Int32} : ∀ (d k : Nat) (x : Int32) (gl : Nat → Int64) (b tb b0 : Nat → Nat → Int32), MI g b0 z → Kb b0 b → OM z b0 (FX3_wintersNow_L42 g t n z c p0 p1 p2 d k x gl b tb) := by
  intro d
  induction d with
  | zero => intro k x gl b tb b0 h hk; rw [FX3_wintersNow_L42]; exact om_w114 _ _ _ _ _ _ _ b0 h hk
  | succ d ih =>
    intro k x gl b tb b0 h hk
    rw [FX3_wintersNow_L42]
    refine ih _ _ _ _ _ b0 h ?_
    exact Kb_trans (Kb_trans hk Kb_3) melt_Kb1
theorem om_w3 {p0 : Nat} {p1 p2 : Int32} (h : MI g b z) : ∀ (d k : Nat) (tb : Nat → Nat → Int32), OM z b (FX3_wintersNow_L3 g t gl b n z c p0 p1 p2 d k tb) := by
  intro d
  induction d with
  | zero => intro k tb; rw [FX3_wintersNow_L3]; exact om_w42 _ _ _ _ _ _ b h ⟨rfl, rfl, rfl⟩
  | succ d ih => intro k tb; rw [FX3_wintersNow_L3]; exact ih _ _
theorem om_winters {p0 p1 p2 : Int32} (h : MI g b z) : OM z b (FX3_winters g t gl b tb n z c p0 p1 p2) := by
  rw [FX3_winters]
  repeat' first | refine ite_P (P := OM z b) (fun _ => ?_) (fun _ => ?_) | exact ⟨h, rfl⟩ | exact om_w3 h ..
theorem om_image_L {n' c' : Nat} (h : IM n' z c' g b) (hc : c ≤ 6) (hg : g 31 = nI c) (hs : ∀ i : Nat, i < c → ∃ j : Nat, j < 6 ∧ b 7 i = nI j) : ∀ (d k : Nat) (b' : Nat → Nat → Int32), k + d = 6 → b' 7 = b 7 → b' 10 = b 10 → (∀ i : Nat, i < k → b' 17 i = b 7 i) → OM z b (FX3_image_L65 t gl tb n z c d k g b') := by
  intro d
  induction d with
  | zero =>
    intro k b' hk e7 e10 e17
    rw [FX3_image_L65]
    obtain ⟨h1, h2, h3, h4, h5, h6, h7⟩ := h
    have h7' : ∀ k : Nat, k < c' → ∃ j : Nat, j < 6 ∧ b' 7 k = nI j := by rw [e7]; exact h7
    have h17 : ∀ k : Nat, k < c → ∃ j : Nat, j < 6 ∧ b' 17 k = nI j := fun i hi => by rw [e17 i (by omega)]; exact hs i hi
    exact ⟨⟨n', c', c, ⟨h1, h2, h3, h4, h5, h6, h7'⟩, hg, hc, h17⟩, e10⟩
  | succ d ih =>
    intro k b' hk e7 e10 e17
    rw [FX3_image_L65]
    refine ih _ _ (by omega) e7 e10 (fun i hi => ?_)
    show (upd (b' 17) k (b' 7 k)) i = b 7 i
    by_cases e : i = k
    · subst e; rw [pk_us, e7]
    · rw [pk_un e]; exact e17 i (by omega)
theorem om_image (hM : IM n z c g b) (h : MI g b z) : OM z b (FX3_image g t gl b tb n z c) := by
  rw [FX3_image]
  refine ite_P (P := OM z b) (fun _ => ⟨h, rfl⟩) (fun _ => ?_)
  exact om_image_L (IM_u (IM_u (IM_u (IM_u (IM_u (IM_u (IM_u hM (by decide)) (by decide)) (by decide)) (by decide)) (by decide)) (by decide)) (by decide)) hM.2.2.2.2.2.1 pk_us hM.2.2.2.2.2.2 6 0 b rfl rfl rfl (fun i hi => absurd hi (by omega))
theorem om_restore_L {n' c2 : Nat} (h1 : g 1 = nI n') (h2 : n' ≤ 6) (h3 : g 16 = nI z) (h4 : z ≤ 21) (h5 : g 12 = nI c2) (h6 : g 31 = nI c2) (h7 : c2 ≤ 6) (hs : ∀ i : Nat, i < c2 → ∃ j : Nat, j < 6 ∧ b 17 i = nI j) : ∀ (d k : Nat) (b' : Nat → Nat → Int32), k + d = 6 → b' 17 = b 17 → b' 10 = b 10 → (∀ i : Nat, i < k → b' 7 i = b 17 i) → OM z b (FX3_restore_L63 t gl tb n z c d k g b') := by
  intro d
  induction d with
  | zero =>
    intro k b' hk e17 e10 e7
    rw [FX3_restore_L63]
    have h7' : ∀ k : Nat, k < c2 → ∃ j : Nat, j < 6 ∧ b' 7 k = nI j := fun i hi => by rw [e7 i (by omega)]; exact hs i hi
    have h17 : ∀ k : Nat, k < c2 → ∃ j : Nat, j < 6 ∧ b' 17 k = nI j := by rw [e17]; exact hs
    exact ⟨⟨n', c2, c2, ⟨h1, h2, h3, h4, h5, h7, h7'⟩, h6, h7, h17⟩, e10⟩
  | succ d ih =>
    intro k b' hk e17 e10 e7
    rw [FX3_restore_L63]
    refine ih _ _ (by omega) e17 e10 (fun i hi => ?_)
    show (upd (b' 7) k (b' 17 k)) i = b 17 i
    by_cases e : i = k
    · subst e; rw [pk_us, e17]
    · rw [pk_un e]; exact e7 i (by omega)
theorem om_restore (h : MI g b z) : OM z b (FX3_restore g t gl b tb n z c) := by
  rw [FX3_restore]
  refine ite_P (P := OM z b) (fun _ => ⟨h, rfl⟩) (fun _ => ?_)
  refine ite_P (P := OM z b) (fun _ => ?_) (fun _ => ⟨h, rfl⟩)
  obtain ⟨n', c', c2, ⟨h1, h2, h3, h4, h5, h6, h7⟩, h8, h9, h10⟩ := h
  exact om_restore_L (g := upd (upd (upd (upd (upd g 8 (g 27)) 9 (g 28)) 10 (g 29)) 11 (g 30)) 12 (g 31)) (n' := n') (c2 := c2) h1 h2 h3 h4 h8 h8 h9 h10 6 0 b rfl rfl rfl (fun i hi => absurd hi (by omega))
def OMl (g : Nat → Int32) (b : Nat → Nat → Int32) (r : Int64 × SM) : Prop := r.2.1 = g ∧ r.2.2.2.2.1 = b
theorem mg_181 : ∀ (d k : Nat) (t : Nat → Int32) (gl : Nat → Int64) (tb : Nat → Nat → Int32), OMl g b (FX3_digest_L181 g b n z c d k t gl tb) := by
  intro d
  induction d with
  | zero => intro k t gl tb; exact ⟨rfl, rfl⟩
  | succ d ih => intro k t gl tb; rw [FX3_digest_L181]; exact ih _ _ _ _
theorem mg_154 : ∀ (d k : Nat) (t : Nat → Int32) (gl : Nat → Int64) (tb : Nat → Nat → Int32), OMl g b (FX3_digest_L154 g b n z c d k t gl tb) := by
  intro d
  induction d with
  | zero => intro k t gl tb; rw [FX3_digest_L154]; exact mg_181 ..
  | succ d ih => intro k t gl tb; rw [FX3_digest_L154]; exact ih _ _ _ _
theorem mg_90 : ∀ (d k : Nat) (t : Nat → Int32) (gl : Nat → Int64) (tb : Nat → Nat → Int32), OMl g b (FX3_digest_L90 g b n z c d k t gl tb) := by
  intro d
  induction d with
  | zero => intro k t gl tb; rw [FX3_digest_L90]; exact mg_154 ..
  | succ d ih => intro k t gl tb; rw [FX3_digest_L90]; exact ih _ _ _ _
theorem mg_9 : ∀ (d k : Nat) (t : Nat → Int32) (gl : Nat → Int64) (tb : Nat → Nat → Int32), OMl g b (FX3_digest_L9 g b n z c d k t gl tb) := by
  intro d
  induction d with
  | zero => intro k t gl tb; rw [FX3_digest_L9]; exact ite_P (P := OMl g b) (fun _ => mg_154 ..) (fun _ => mg_90 ..)
  | succ d ih => intro k t gl tb; rw [FX3_digest_L9]; exact ih _ _ _ _
theorem om_digest (h : MI g b z) : SMk z b (FX3_digest g t gl b tb n z c).2 := by
  have h1 : OMl g b (FX3_digest g t gl b tb n z c) := mg_9 ..
  exact ⟨by rw [h1.1, h1.2]; exact h, by rw [h1.2]⟩
theorem om_fault (h : MI g b z) : OM z b (FX3_fault g t gl b tb n z c) := by
  refine ⟨?_, ?_⟩
  · show MI (FX3_read g t gl b tb n z c).2.1 (FX3_read g t gl b tb n z c).2.2.2.2.1 z
    rw [kp_read_g, kp_read_b]; exact h
  · show (FX3_read g t gl b tb n z c).2.2.2.2.1 10 = b 10
    rw [kp_read_b]
end MOK
/-- the two pages are one -/
def PR (z : Nat) (a b : Nat → Nat → Int32) : Prop := Pg z (a 8) ∧ ∀ k : Nat, k < z → b 10 k = a 8 k
def Rel (f : Nat → Int32) (a : Nat → Nat → Int32) (g : Nat → Int32) (b : Nat → Nat → Int32) : Prop := ∃ z : Nat, XI f z ∧ MI g b z ∧ PR z a b
theorem Rel_same {z : Nat} {a b : Nat → Nat → Int32} {u : SX} {w : SM} (hp : PR z a b) (hx : SXk z a u) (hm : SMk z b w) : Rel u.1 u.2.1 w.1 w.2.2.2.1 := ⟨z, hx.1, hm.1, by rw [PR, hx.2, hm.2]; exact hp⟩
theorem byte_dec : ∀ v, v < 127 → vp_nar .byte (nI v).toInt8.toInt32 = nI v := by decide +kernel
theorem code_nat {x : Int32} (h1 : ¬ x < 32) (h2 : ¬ 126 < x) : ∃ v : Nat, 32 ≤ v ∧ v ≤ 126 ∧ x = nI v := by
  have h0 : ¬ x < 0 := fun h => h1 (by
    rw [Int32.lt_iff_toInt_lt] at h ⊢
    have e0 : (0 : Int32).toInt = 0 := by decide
    have e1 : (32 : Int32).toInt = 32 := by decide
    omega)
  obtain ⟨j, hj, rfl⟩ := nI_of h0
  refine ⟨j, ?_, ?_, rfl⟩
  · rcases Nat.lt_or_ge j 32 with q | q
    · exact absurd (nI_lt (a := j) (b := 32) q (by omega)) h1
    · exact q
  · rcases Nat.lt_or_ge 126 j with q | q
    · exact absurd (nI_lt (a := 126) (b := j) q (by omega)) h2
    · exact q
section BOTH
variable {f g t : Nat → Int32} {gl : Nat → Int64} {a ta b tb : Nat → Nat → Int32} {n z c n' c' : Nat}
theorem both_letter {p0 : Int32} (hX : IX n z c f) (hxi : XI f z) (hmi : MI g b z) (hp : PR z a b) : (FX2_letter f a ta n z c p0).1 = (FX3_letter g t gl b tb n' z c' p0).1 ∧ Rel (FX2_letter f a ta n z c p0).2.1 (FX2_letter f a ta n z c p0).2.2.1 (FX3_letter g t gl b tb n' z c' p0).2.1 (FX3_letter g t gl b tb n' z c' p0).2.2.2.2.1 := by
  have hz21 := hX.2.2.2.1
  have same : Rel f a g b := ⟨z, hxi, hmi, hp⟩
  rw [FX2_letter, FX3_letter, show FX3_within p0 32 126 = FX2_isWithin p0 32 126 from rfl]
  by_cases h1 : FX2_isWithin p0 32 126 = 0
  · rw [if_pos h1, if_pos h1]
    exact ⟨rfl, same⟩
  · rw [if_neg h1, if_neg h1, FX0_add]
    obtain ⟨v, hv1, hv2, rfl⟩ := code_nat (withinX_t h1).1 (withinX_t h1).2
    by_cases h2 : nI z = 21
    · have hz : z = 21 := (nI_eq (a := z) (b := 21) (by omega) (by omega)).mp h2
      subst hz
      rw [if_pos h2, if_neg (show ¬ nI 21 < 21 by decide), if_pos rfl]
      exact ⟨rfl, same⟩
    · have hz := z_lt21 h2 hz21
      rw [if_neg h2, if_pos (show nI z < 21 from nI_lt (a := z) (b := 21) hz (by omega)), if_neg (show ¬ (1 : Int32) = 0 by decide)]
      refine ⟨rfl, z + 1, XI_3 hxi (by omega), MI_a (MI_16 hmi (by omega)) (by decide), fun i hi => ?_, fun i hi => ?_⟩
      · show ∃ w : Nat, 32 ≤ w ∧ w ≤ 126 ∧ (upd (a 8) z (nI v)) i = nI w
        by_cases e : i = z
        · subst e; exact ⟨v, hv1, hv2, pk_us⟩
        · rw [pk_un e]; exact hp.1 i (by omega)
      · show (upd (b 10) z (vp_nar .byte (nI v).toInt8.toInt32)) i = (upd (a 8) z (nI v)) i
        by_cases e : i = z
        · subst e; rw [pk_us, pk_us]; exact byte_dec v (by omega)
        · rw [pk_un e, pk_un e]; exact hp.2 i (by omega)
theorem both_blank (hxi : XI f z) (hmi : MI g b z) : (FX2_blank f a ta n z c).1 = (FX3_blank g t gl b tb n' z c').1 ∧ Rel (FX2_blank f a ta n z c).2.1 (FX2_blank f a ta n z c).2.2.1 (FX3_blank g t gl b tb n' z c').2.1 (FX3_blank g t gl b tb n' z c').2.2.2.2.1 :=
  ⟨rfl, 0, XI_3 (z' := 0) hxi (by omega), MI_16 (z' := 0) hmi (by omega), fun i hi => absurd hi (by omega), fun i hi => absurd hi (by omega)⟩
theorem both_fault (hX : IX n z c f) (hmi : MI g b z) (hp : PR z a b) : FX2_fault f a ta n z c = (FX3_fault g t gl b tb n' z c').1 := by
  rw [FX2_fault, FX3_fault]
  exact (parse_fault hX.2.2.2.1 hp.1 hp.2).1
theorem cityX_L {m : Nat} (hm : m = (z - 1) / 3) (hm6 : (z - 1) / 3 ≤ 6) : ∀ (d k : Nat) (f : Nat → Int32) (a : Nat → Nat → Int32), XI f z → XI (FX2_city_L26 ta n z c d k f a).2.1 0 := by
  intro d
  induction d with
  | zero =>
    intro k f a h
    rw [FX2_city_L26]
    exact XI_3 (z' := 0) (XI_u (XI_u (XI_8 (c := 0) (XI_u (XI_u (XI_u (XI_u h (by decide)) (by decide)) (by decide)) (by decide)) (by omega)) (by decide)) (by decide)) (by omega)
  | succ d ih => intro k f a h; rw [FX2_city_L26]; exact ih _ _ _ h
theorem cityM_L : ∀ (d k : Nat) (g t : Nat → Int32) (b b0 : Nat → Nat → Int32), MI g b0 z → b 7 = b0 7 → b 17 = b0 17 → MI (FX3_city_L25 gl tb n' z c' d k g t b).2.1 (FX3_city_L25 gl tb n' z c' d k g t b).2.2.2.2.1 0 := by
  intro d
  induction d with
  | zero =>
    intro k g t b b0 h e7 e17
    rw [FX3_city_L25]
    have h1 : MI g b z := by
      obtain ⟨n, c, c2, ⟨h1, h2, h3, h4, h5, h6, h7⟩, h8, h9, h10⟩ := h
      exact ⟨n, c, c2, ⟨h1, h2, h3, h4, h5, h6, by rw [e7]; exact h7⟩, h8, h9, by rw [e17]; exact h10⟩
    exact MI_16 (z' := 0) (MI_12 (MI_u (MI_u (MI_u (MI_u (MI_u h1 (by decide)) (by decide)) (by decide)) (by decide)) (by decide))) (by omega)
  | succ d ih => intro k g t b b0 h e7 e17; rw [FX3_city_L25]; exact ih _ _ _ _ b0 h e7 e17
theorem both_city (hX : IX n z c f) (hxi : XI f z) (hmi : MI g b z) (hp : PR z a b) : Rel (FX2_city f a ta n z c).2.1 (FX2_city f a ta n z c).2.2.1 (FX3_city g t gl b tb n' z c').2.1 (FX3_city g t gl b tb n' z c').2.2.2.2.1 := by
  have hz21 := hX.2.2.2.1
  have hw := parse_whole (f := f) (a := a) (ta := ta) (n := n) (c := c) (g := g) (gl := gl) (b := b) (tb := tb) (n' := n') (c' := c') (t := t) hz21 hp.1 hp.2
  rw [FX2_city, FX3_city]
  by_cases h1 : FX0_isWhole f a ta n z c = 0
  · rw [if_pos h1, if_pos (hw.mp h1)]
    exact ⟨z, hxi, hmi, hp⟩
  · rw [if_neg h1, if_neg (fun h => h1 (hw.mpr h))]
    exact ⟨0, cityX_L rfl (by omega) _ _ _ _ (XI_0 hxi (by omega)), cityM_L _ _ _ _ _ b (MI_1 hmi (by omega)) rfl rfl, fun i hi => absurd hi (by omega), fun i hi => absurd hi (by omega)⟩
end BOTH
