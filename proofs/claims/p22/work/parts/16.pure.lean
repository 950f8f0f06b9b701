/-- what holds of a SnowTerm's numbers between calls: n sites, z letters, c found -/
def IX (n z c : Nat) (f : Nat → Int32) : Prop := f 0 = nI n ∧ n ≤ 6 ∧ f 3 = nI z ∧ z ≤ 21 ∧ f 8 = nI c ∧ c ≤ 6
/-- the same of a SnowTermModel; what is found is found at a place of its rows -/
def IM (n z c : Nat) (g : Nat → Int32) (b : Nat → Nat → Int32) : Prop := g 1 = nI n ∧ n ≤ 6 ∧ g 16 = nI z ∧ z ≤ 21 ∧ g 12 = nI c ∧ c ≤ 6 ∧ ∀ k : Nat, k < c → ∃ j : Nat, j < 6 ∧ b 7 k = nI j
def bcU (x y : Int32) : Int32 := (Int32.toUInt32 x >>> (Int32.toUInt32 y &&& Int32.toUInt32 31)).toInt32
def bcA (x : Int32) : Int32 := x - ((bcU x 1) &&& 1431655765)
def bcB (x : Int32) : Int32 := (x &&& 858993459) + ((bcU x 2) &&& 858993459)
def bcC (x : Int32) : Int32 := (x + (bcU x 4)) &&& 252645135
def bcD (x : Int32) : Int32 := x + (bcU x 8)
def bcE (x : Int32) : Int32 := x + (bcU x 16)
theorem shl_n {n : Nat} (h : n ≤ 6) : (1 : Int32) <<< (nI n &&& 31) = nI (2 ^ n) := by
  rcases (show n = 0 ∨ n = 1 ∨ n = 2 ∨ n = 3 ∨ n = 4 ∨ n = 5 ∨ n = 6 by omega) with rfl | rfl | rfl | rfl | rfl | rfl | rfl <;> decide
theorem pow6 {n : Nat} (h : n ≤ 6) : 1 ≤ 2 ^ n ∧ 2 ^ n ≤ 64 := by
  rcases (show n = 0 ∨ n = 1 ∨ n = 2 ∨ n = 3 ∨ n = 4 ∨ n = 5 ∨ n = 6 by omega) with rfl | rfl | rfl | rfl | rfl | rfl | rfl <;> decide
theorem nI_cl {x : Int32} (h : ¬ x < 0) : x = nI x.toNatClampNeg := by
  obtain ⟨j, hj, rfl⟩ := nI_of h
  rw [nI_clamp hj]
theorem in_lt {x : Int32} {n N : Nat} (h1 : ¬ x < 0) (h2 : ¬ nI n ≤ x) (hn : n ≤ N) (hN : N < 2 ^ 31) : vp_in x N := by
  obtain ⟨j, hj, rfl⟩ := nI_of h1
  refine vp_in_nI ?_ hN
  rcases Nat.lt_or_ge j N with q | q
  · exact q
  · exact absurd (nI_le (show n ≤ j by omega) hj) h2
