section PLAN
variable {f g t : Nat → Int32} {gl : Nat → Int64} {a ta b tb : Nat → Nat → Int32} {q n z c : Nat}
/-- the needs as both lay them -/
def ndS (g : Nat → Int32) (b : Nat → Nat → Int32) (dd j : Nat) : Int32 := ndN ((b 2 j).toNatClampNeg) (melN ((b 1 j).toNatClampNeg) ((g 8).toNatClampNeg) ((b 6 j).toNatClampNeg)) dd ((b 3 j).toNatClampNeg)
theorem need_S {j dd : Nat} (hs : Sites n a b) (hj : j < n) (hn : n ≤ 6) (hm : Nums q f g) (hd : dd ≤ 9) : FX2_loadsNeeded f a ta n z c (nI j) (nI dd) = ndS g b dd j ∧ FX3_needOf g b tb n z c (nI j) dd = ndS g b dd j := by
  have em := melt_now (ta := ta) (tb := tb) (z := z) (c := c) hs hj hn hm
  obtain ⟨⟨h1, h2, h3, h4, h5, h6⟩, ⟨kv, -, k2, k3⟩, ⟨w, w1, w2, w3⟩, ⟨dp, -, d2, d3⟩, -, ⟨fv, -, f2, f3⟩, -⟩ := hs j hj
  obtain ⟨-, ⟨s, -, s2, s3⟩, -⟩ := hm
  have eM : FX3_meltsBy g b tb n z c (nI j) (g 8) = nI (melN kv s fv) := by rw [s3]; exact meltsM (by omega) k3 f3 k2 s2 f2
  have hml := melN_le (k := kv) s2 f2
  have eS : ndS g b dd j = ndN w (melN kv s fv) dd dp := by
    rw [ndS, w3, k3, s3, f3, d3, nI_clamp (show w < 2 ^ 31 by omega), nI_clamp (show kv < 2 ^ 31 by omega), nI_clamp (show s < 2 ^ 31 by omega), nI_clamp (show fv < 2 ^ 31 by omega), nI_clamp (show dp < 2 ^ 31 by omega)]
  rw [eS]
  exact ⟨needX (by omega) (h2.trans w3) (h3.trans d3) (em.trans eM) w2 hml hd d2, needM_L (by omega) w3 d3 eM w1 w2 hml d2 hd 31 0 rfl (fun i hi => absurd hi (by omega))⟩
theorem ndS_rg {dd j : Nat} : ndS g b dd j = -1 ∨ ∃ v : Nat, v ≤ 30 ∧ ndS g b dd j = nI v := by
  rw [ndS, ndN]
  by_cases h : (b 2 j).toNatClampNeg + dd * melN ((b 1 j).toNatClampNeg) ((g 8).toNatClampNeg) ((b 6 j).toNatClampNeg) ≤ 30
  · rw [if_pos h]; exact Or.inr ⟨_, by omega, rfl⟩
  · rw [if_neg h]; exact Or.inl rfl
theorem nI_nm1 {S : Nat} (h : S < 1000) : ¬ nI S = -1 := fun e => by
  have h1 := congrArg Int32.toInt e
  rw [nI_toInt (by omega)] at h1
  have e1 : (-1 : Int32).toInt = -1 := by decide
  omega
theorem tell_v {p0 : Int32} {N : Nat → Int32} (hN : ∀ (ta : Nat → Nat → Int32) (j : Nat), j < n → FX2_loadsNeeded f a ta n z c (nI j) p0 = N j) : ∀ (d k : Nat) (ta1 : Nat → Nat → Int32), k + d = n → (∀ i : Nat, i < k → ta1 7 i = N i) → ∃ ta' : Nat → Nat → Int32, FX2_tellNeeds_L2 f a n z c p0 d k ta1 = (f, a, ta') ∧ ∀ i : Nat, i < n → ta' 7 i = N i := by
  intro d
  induction d with
  | zero => intro k ta1 hk h; exact ⟨ta1, rfl, fun i hi => h i (by omega)⟩
  | succ d ih =>
    intro k ta1 hk h
    rw [FX2_tellNeeds_L2, hN ta1 k (by omega)]
    refine ih (k + 1) _ (by omega) (fun i hi => ?_)
    show upd (ta1 7) k (N k) i = N i
    by_cases e : i = k
    · subst e; rw [pk_us]
    · rw [pk_un e]; exact h i (by omega)
theorem lays_v {p0 p2 : Int32} {dd : Nat} {N : Nat → Int32} (hN : ∀ (tb : Nat → Nat → Int32) (j : Nat), j < n → FX3_needOf g b tb n z c (nI j) dd = N j) : ∀ (d k : Nat) (tb1 : Nat → Nat → Int32), k + d = n → (∀ i : Nat, i < k → tb1 11 i = N i) → ∃ tb' : Nat → Nat → Int32, FX3_planNow_L3 g t gl b n z c p0 dd p2 d k tb1 = FX3_planNow_L41 g gl b n z c p0 dd p2 (2 ^ n) 0 0 0 t tb' ∧ ∀ i : Nat, i < n → tb' 11 i = N i := by
  intro d
  induction d with
  | zero => intro k tb1 hk h; exact ⟨tb1, rfl, fun i hi => h i (by omega)⟩
  | succ d ih =>
    intro k tb1 hk h
    rw [FX3_planNow_L3, hN tb1 k (by omega)]
    refine ih (k + 1) _ (by omega) (fun i hi => ?_)
    show upd (tb1 11) k (N k) i = N i
    by_cases e : i = k
    · subst e; rw [pk_us]
    · rw [pk_un e]; exact h i (by omega)
/-- the loads and the cost of a set -/
theorem lay_0 {p : Int32} (ht : ∀ i : Nat, i < n → ta 7 i = tb 11 i) : ∀ (d k : Nat) (t1 : Nat → Int32), k + d = n → (FX3_layNeeds_L14 g gl b tb n z c p d k 0 t1).1 = 0 ∧ (FX3_layNeeds_L14 g gl b tb n z c p d k 0 t1).2.2.1 22 = FX2_costOf_L4 f a ta n z c p d k (t1 22) := by
  intro d
  induction d with
  | zero => intro k t1 hk; exact ⟨rfl, rfl⟩
  | succ d ih =>
    intro k t1 hk
    rw [FX3_layNeeds_L14, FX2_costOf_L4, show FX3_isIn p (nI k) = FX2_hasBit p (nI k) from rfl]
    by_cases c1 : FX2_hasBit p (nI k) = 0
    · rw [if_pos c1, if_pos c1]; exact ih (k + 1) t1 (by omega)
    · rw [if_neg c1, if_neg c1, if_pos rfl, ht k (by omega), FX2_priceAt, nI_1]
      exact ih (k + 1) _ (by omega)
theorem lay_1 {p : Int32} (ht : ∀ i : Nat, i < n → ta 7 i = tb 11 i) (hr : ∀ i : Nat, i < n → tb 11 i = -1 ∨ ∃ v : Nat, v ≤ 30 ∧ tb 11 i = nI v) (hn : n ≤ 6) : ∀ (d k : Nat) (t1 : Nat → Int32) (S : Nat), k + d = n → t1 21 = nI S → S ≤ 30 * k → (FX3_layNeeds_L14 g gl b tb n z c p d k 1 t1).2.2.1 22 = FX2_costOf_L4 f a ta n z c p d k (t1 22) ∧ (((FX3_layNeeds_L14 g gl b tb n z c p d k 1 t1).1 = 0 ∧ FX2_loadsOf_L4 f a ta n z c p d k (t1 21) = -1) ∨ ∃ S' : Nat, S' ≤ 180 ∧ (FX3_layNeeds_L14 g gl b tb n z c p d k 1 t1).1 = 1 ∧ FX2_loadsOf_L4 f a ta n z c p d k (t1 21) = nI S' ∧ (FX3_layNeeds_L14 g gl b tb n z c p d k 1 t1).2.2.1 21 = nI S') := by
  intro d
  induction d with
  | zero => intro k t1 S hk hS hS2; exact ⟨rfl, Or.inr ⟨S, by omega, rfl, hS, hS⟩⟩
  | succ d ih =>
    intro k t1 S hk hS hS2
    rw [FX3_layNeeds_L14, FX2_costOf_L4, FX2_loadsOf_L4, show FX3_isIn p (nI k) = FX2_hasBit p (nI k) from rfl]
    by_cases c1 : FX2_hasBit p (nI k) = 0
    · rw [if_pos c1, if_pos c1, if_pos c1]; exact ih (k + 1) t1 S (by omega) hS (by omega)
    · rw [if_neg c1, if_neg c1, if_neg c1, if_neg (show ¬ (1 : Int32) = 0 by decide), ht k (by omega), FX2_priceAt, nI_1]
      rcases hr k (by omega) with c2 | ⟨v, hv, ev⟩
      · rw [if_pos c2, if_pos c2]
        obtain ⟨z1, z2⟩ := lay_0 (g := g) (gl := gl) (b := b) (f := f) (a := a) (z := z) (c := c) (p := p) ht d (k + 1) (upd (upd t1 21 ((t1 21) + (tb 11 k))) 22 ((t1 22) + ((tb 11 k) * (nI (k + 1))))) (by omega)
        exact ⟨z2, Or.inl ⟨z1, rfl⟩⟩
      · have c3 : ¬ tb 11 k = -1 := by rw [ev]; exact nI_nm1 (by omega)
        rw [if_neg c3, if_neg c3]
        exact ih (k + 1) (upd (upd t1 21 ((t1 21) + (tb 11 k))) 22 ((t1 22) + ((tb 11 k) * (nI (k + 1))))) (S + v) (by omega) (by show t1 21 + tb 11 k = nI (S + v); rw [hS, ev, nI_add]) (by omega)
theorem lay_all {p : Int32} (ht : ∀ i : Nat, i < n → ta 7 i = tb 11 i) (hr : ∀ i : Nat, i < n → tb 11 i = -1 ∨ ∃ v : Nat, v ≤ 30 ∧ tb 11 i = nI v) (hn : n ≤ 6) : (FX3_layNeeds g t gl b tb n z c p).2.2.1 22 = FX2_costOf f a ta n z c p ∧ (((FX3_layNeeds g t gl b tb n z c p).1 = 0 ∧ FX2_loadsOf f a ta n z c p = -1) ∨ ∃ S' : Nat, S' ≤ 180 ∧ (FX3_layNeeds g t gl b tb n z c p).1 = 1 ∧ FX2_loadsOf f a ta n z c p = nI S' ∧ (FX3_layNeeds g t gl b tb n z c p).2.2.1 21 = nI S') :=
  lay_1 (g := g) (gl := gl) (b := b) (f := f) (a := a) (z := z) (c := c) (p := p) ht hr hn n 0 (upd (upd t 21 0) 22 0) 0 (by omega) rfl (by omega)
/-- how many bits -/
def popN (v : Nat) : Nat := v % 2 + v / 2 % 2 + v / 4 % 2 + v / 8 % 2 + v / 16 % 2 + v / 32 % 2
theorem pop_dec : ∀ v, v < 64 → FJ6_bitCount_0f7a4 (nI v) = nI (popN v) ∧ FX3_size (nI v) = nI (popN v) := by decide +kernel
theorem popN_le (v : Nat) : popN v ≤ 6 := by unfold popN; omega
theorem bit_dec : ∀ k, k < 6 → FX2_hasBit (nI 0) (nI k) = 0 := by decide +kernel
theorem loads_0 (hn : n ≤ 6) : ∀ (d k : Nat) (x : Int32), k + d = n → FX2_loadsOf_L4 f a ta n z c (nI 0) d k x = x := by
  intro d
  induction d with
  | zero => intro k x hk; rfl
  | succ d ih => intro k x hk; rw [FX2_loadsOf_L4, if_pos (bit_dec k (by omega))]; exact ih _ _ (by omega)
theorem cost_0 (hn : n ≤ 6) : ∀ (d k : Nat) (x : Int32), k + d = n → FX2_costOf_L4 f a ta n z c (nI 0) d k x = x := by
  intro d
  induction d with
  | zero => intro k x hk; rfl
  | succ d ih => intro k x hk; rw [FX2_costOf_L4, if_pos (bit_dec k (by omega))]; exact ih _ _ (by omega)
theorem cost_0' (hn : n ≤ 6) : FX2_costOf f a ta n z c (nI 0) = 0 := cost_0 hn n 0 0 (by omega)
/-- is it better, by the numbers of bits -/
theorem better_v {k B : Nat} (hk : k < 64) (hB : B < 64) : (popN B < popN k → FX2_isBetterPlan f a ta n z c (nI k) (nI B) = 1) ∧ (popN k = popN B → FX2_isBetterPlan f a ta n z c (nI k) (nI B) = (if FX2_costOf f a ta n z c (nI B) ≤ FX2_costOf f a ta n z c (nI k) then 0 else 1)) ∧ (popN k < popN B → FX2_isBetterPlan f a ta n z c (nI k) (nI B) = 0) := by
  have pk6 := popN_le k
  have pB6 := popN_le B
  rw [FX2_isBetterPlan, (pop_dec k hk).1, (pop_dec B hB).1]
  refine ⟨fun h => ?_, fun h => ?_, fun h => ?_⟩
  · rw [pk_sub (by omega), if_pos (show 0 < nI (popN k - popN B) from nI_lt (a := 0) (b := popN k - popN B) (by omega) (by omega))]
  · rw [h, pk_sub (Nat.le_refl _), Nat.sub_self, if_neg (show ¬ 0 < nI 0 by decide), if_pos (show nI 0 = 0 from rfl)]
  · have hneg := pk_sneg (a := popN k) (b := popN B) (by omega) h
    rw [if_neg, if_neg]
    · intro e; rw [e] at hneg; exact absurd hneg (by decide)
    · intro h0
      rw [Int32.lt_iff_toInt_lt] at hneg h0
      omega
def PlO (g : Nat → Int32) (gl : Nat → Int64) (b tb : Nat → Nat → Int32) (n z c : Nat) (p2 : Int32) (B : Nat) (r : Int32 × SM) : Prop := ∃ t' : Nat → Int32, r.1 = (if p2 = 0 then FX3_size (nI B) else (if p2 = 1 then nI B else (if p2 = 2 then (FX3_layNeeds g t' gl b tb n z c (nI B)).2.2.1 21 else (FX3_layNeeds g t' gl b tb n z c (nI B)).2.2.1 22)))
theorem plan_L {p0 p2 : Int32} {dd : Nat} (ht : ∀ i : Nat, i < n → ta 7 i = tb 11 i) (hr : ∀ i : Nat, i < n → tb 11 i = -1 ∨ ∃ v : Nat, v ≤ 30 ∧ tb 11 i = nI v) (hn : n ≤ 6) (h64 : 2 ^ n ≤ 64) : ∀ (d k B : Nat) (t4 : Nat → Int32), k + d = 2 ^ n → B < 2 ^ n → ¬ FX2_loadsOf f a ta n z c (nI B) = -1 → ∃ B' : Nat, B' < 2 ^ n ∧ ¬ FX2_loadsOf f a ta n z c (nI B') = -1 ∧ FX2_bestPlan_L4 f a ta n z c p0 d k (nI B) = nI B' ∧ PlO g gl b tb n z c p2 B' (FX3_planNow_L41 g gl b n z c p0 dd p2 d k (nI B) (FX2_costOf f a ta n z c (nI B)) t4 tb) := by
  intro d
  induction d with
  | zero =>
    intro k B t4 hk hB hF
    refine ⟨B, hB, hF, rfl, t4, ?_⟩
    rw [FX3_planNow_L41]
    by_cases c0 : p2 = 0
    · rw [if_pos c0, if_pos c0]
    rw [if_neg c0, if_neg c0]
    by_cases c1 : p2 = 1
    · rw [if_pos c1, if_pos c1]
    rw [if_neg c1, if_neg c1]
    by_cases c2 : p2 = 2
    · rw [if_pos c2, if_pos c2]
    rw [if_neg c2, if_neg c2]
  | succ d ih =>
    intro k B t4 hk hB hF
    obtain ⟨l1, l2⟩ := lay_all (g := g) (t := t4) (gl := gl) (b := b) (f := f) (a := a) (z := z) (c := c) (p := nI k) ht hr hn
    have hold := ih (k + 1) B ((FX3_layNeeds g t4 gl b tb n z c (nI k)).2.2.1) (by omega) hB hF
    rw [FX2_bestPlan_L4, FX3_planNow_L41]
    rcases l2 with ⟨m1, m2⟩ | ⟨S, hS, m1, m2, m3⟩
    · rw [if_pos m1, if_pos m2]
      simp only [ite_self]
      exact hold
    · have m4 : ¬ FX2_loadsOf f a ta n z c (nI k) = -1 := by rw [m2]; exact nI_nm1 (by omega)
      rw [if_neg (show ¬ (FX3_layNeeds g t4 gl b tb n z c (nI k)).1 = 0 by rw [m1]; decide), if_neg m4, m2, m3]
      by_cases c1 : p0 < nI S
      · rw [if_pos c1, if_pos c1]
        simp only [ite_self]
        exact hold
      · rw [if_neg c1, if_neg c1, l1, (pop_dec k (by omega)).2, (pop_dec B (by omega)).2]
        have hnew := ih (k + 1) k ((FX3_layNeeds g t4 gl b tb n z c (nI k)).2.2.1) (by omega) (by omega) m4
        obtain ⟨b1, b2, b3⟩ := better_v (f := f) (a := a) (ta := ta) (n := n) (z := z) (c := c) (k := k) (B := B) (by omega) (by omega)
        have pk6 := popN_le k
        have pB6 := popN_le B
        rcases Nat.lt_trichotomy (popN B) (popN k) with h | h | h
        · rw [b1 h, if_neg (show ¬ (1 : Int32) = 0 by decide), if_pos (nI_lt h (by omega))]
          exact hnew
        · rw [b2 h.symm, if_neg (nI_nlt (by omega) (by omega)), if_pos (congrArg nI h.symm)]
          by_cases c2 : FX2_costOf f a ta n z c (nI B) ≤ FX2_costOf f a ta n z c (nI k)
          · rw [if_pos c2, if_pos rfl, if_pos c2]
            exact hold
          · rw [if_neg c2, if_neg (show ¬ (1 : Int32) = 0 by decide), if_neg c2]
            exact hnew
        · rw [b3 h, if_pos rfl, if_neg (nI_nlt (by omega) (by omega)), if_neg (fun e => absurd ((nI_eq (by omega) (by omega)).mp e) (by omega))]
          exact hold
theorem plan_0 {p0 : Int32} (hp : ¬ p0 < 0) (hn : n ≤ 6) : FX2_bestPlan f a ta n z c p0 = FX2_bestPlan_L4 f a ta n z c p0 (2 ^ n) 0 (nI 0) := by
  have h1 : 2 ^ n = (2 ^ n - 1) + 1 := by have := Nat.two_pow_pos n; omega
  have hl : FX2_loadsOf f a ta n z c (nI 0) = 0 := loads_0 hn n 0 0 (by omega)
  have hb := (better_v (f := f) (a := a) (ta := ta) (n := n) (z := z) (c := c) (k := 0) (B := 0) (by omega) (by omega)).2.1 rfl
  rw [if_pos (show FX2_costOf f a ta n z c (nI 0) ≤ FX2_costOf f a ta n z c (nI 0) by rw [cost_0' hn]; decide)] at hb
  rw [FX2_bestPlan]
  conv => rhs; rw [h1]
  rw [FX2_bestPlan_L4, hl, if_neg (show ¬ (0 : Int32) = -1 by decide), if_neg hp, hb, if_pos rfl]
  rfl
theorem rr_plan {p0 p1 p2 : Int32} (h : RC q n z c f a g b) : (FX2_plan f a ta n z c p0 p1 p2).1 = (FX3_plan g t gl b tb n z c p0 p1 p2).1 := by
  obtain ⟨hxi, hmi, hX, hM, hp, hs, hn, hi⟩ := h
  have hn6 := hX.2.1
  rw [FX2_plan, FX3_plan, show FX3_within p0 0 60 = FX2_isWithin p0 0 60 from rfl, show FX3_within p1 0 9 = FX2_isWithin p1 0 9 from rfl, show FX3_within p2 0 3 = FX2_isWithin p2 0 3 from rfl]
  by_cases h1 : FX2_isWithin p0 0 60 = 0
  · rw [if_pos h1, if_pos h1]
  rw [if_neg h1, if_neg h1]
  by_cases h2 : FX2_isWithin p1 0 9 = 0
  · rw [if_pos h2, if_pos h2]
  rw [if_neg h2, if_neg h2]
  by_cases h3 : FX2_isWithin p2 0 3 = 0
  · rw [if_pos h3, if_pos h3]
  rw [if_neg h3, if_neg h3]
  by_cases h4 : nI n = 0
  · rw [if_pos h4, if_pos h4]
  rw [if_neg h4, if_neg h4]
  obtain ⟨dd, -, hd, rfl⟩ := within_rg (lo := 0) (hi := 9) (by omega) (by omega) h2
  have hp0 : ¬ p0 < 0 := (withinX_t h1).1
  have h64 : 2 ^ n ≤ 64 := Nat.le_trans (Nat.pow_le_pow_right (n := 2) (show 0 < 2 by decide) hn6) (show 2 ^ 6 ≤ 64 by decide)
  obtain ⟨ta', e1, e2⟩ := tell_v (f := f) (a := a) (z := z) (c := c) (p0 := nI dd) (N := ndS g b dd) (fun ta j hj => (need_S (ta := ta) (tb := tb) hs hj hn6 hn hd).1) n 0 ta (by omega) (fun i hi => absurd hi (by omega))
  obtain ⟨tb', e3, e4⟩ := lays_v (g := g) (t := t) (gl := gl) (b := b) (z := z) (c := c) (p0 := p0) (p2 := p2) (dd := dd) (N := ndS g b dd) (fun tb j hj => (need_S (ta := ta) (tb := tb) hs hj hn6 hn hd).2) n 0 tb (by omega) (fun i hi => absurd hi (by omega))
  have e5 : FX2_tellNeeds f a ta n z c (nI dd) = (f, a, ta') := e1
  have e6 : FX3_planNow g t gl b tb n z c p0 dd p2 = FX3_planNow_L41 g gl b n z c p0 dd p2 (2 ^ n) 0 0 0 t tb' := e3
  rw [e5, nI_clamp (show dd < 2 ^ 31 by omega), e6]
  have ht : ∀ i : Nat, i < n → ta' 7 i = tb' 11 i := fun i hi => (e2 i hi).trans (e4 i hi).symm
  have hr : ∀ i : Nat, i < n → tb' 11 i = -1 ∨ ∃ v : Nat, v ≤ 30 ∧ tb' 11 i = nI v := fun i hi => by rw [e4 i hi]; exact ndS_rg
  have hc0 : FX2_costOf f a ta' n z c (nI 0) = 0 := cost_0' hn6
  have hl0 : FX2_loadsOf f a ta' n z c (nI 0) = 0 := loads_0 hn6 n 0 0 (by omega)
  obtain ⟨B, hB, hF, e7, t', e8⟩ := plan_L (f := f) (a := a) (g := g) (gl := gl) (b := b) (z := z) (c := c) (p0 := p0) (p2 := p2) (dd := dd) ht hr hn6 h64 (2 ^ n) 0 0 t (by omega) (Nat.two_pow_pos n) (by rw [hl0]; decide)
  rw [hc0] at e8
  rw [plan_0 hp0 hn6, e7]
  refine Eq.trans ?_ e8.symm
  obtain ⟨l1, l2⟩ := lay_all (g := g) (t := t') (gl := gl) (b := b) (f := f) (a := a) (z := z) (c := c) (p := nI B) ht hr hn6
  rw [l1, (pop_dec B (by omega)).2, (pop_dec B (by omega)).1]
  rcases l2 with ⟨m1, m2⟩ | ⟨S, hS, m1, m2, m3⟩
  · exact absurd m2 hF
  · rw [m3, m2]
    by_cases c0 : p2 = 0
    · rw [if_pos c0, if_pos c0]
    rw [if_neg c0, if_neg c0]
    by_cases c1 : p2 = 1
    · rw [if_pos c1, if_pos c1]
    rw [if_neg c1, if_neg c1]
    by_cases c2 : p2 = 2
    · rw [if_pos c2, if_pos c2]
    rw [if_neg c2, if_neg c2]
end PLAN
