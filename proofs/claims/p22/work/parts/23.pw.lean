/-- the states of the two -/
abbrev SX : Type := (Nat → Int32) × (Nat → Nat → Int32) × (Nat → Nat → Int32)
abbrev SM : Type := (Nat → Int32) × (Nat → Int32) × (Nat → Int64) × (Nat → Nat → Int32) × (Nat → Nat → Int32)
theorem IX_u {n z c i : Nat} {f : Nat → Int32} {v : Int32} (h : IX n z c f) (hi : i ≠ 0 ∧ i ≠ 3 ∧ i ≠ 8) : IX n z c (upd f i v) := by
  obtain ⟨h1, h2, h3, h4, h5, h6⟩ := h
  exact ⟨by rw [pk_un (by omega)]; exact h1, h2, by rw [pk_un (by omega)]; exact h3, h4, by rw [pk_un (by omega)]; exact h5, h6⟩
theorem IM_u {n z c i : Nat} {g : Nat → Int32} {b : Nat → Nat → Int32} {v : Int32} (h : IM n z c g b) (hi : i ≠ 1 ∧ i ≠ 16 ∧ i ≠ 12) : IM n z c (upd g i v) b := by
  obtain ⟨h1, h2, h3, h4, h5, h6, h7⟩ := h
  exact ⟨by rw [pk_un (by omega)]; exact h1, h2, by rw [pk_un (by omega)]; exact h3, h4, by rw [pk_un (by omega)]; exact h5, h6, h7⟩
section GSW
variable {p : Program} {l : Launch} {e : Env} {R : Room} {s : State} {m : MethodId} {args : Array Value} {below : List Frame} {meth : Method} {c : Code} {H H0 : Heap} {locs : List Loc} {cells slots : Nat} {Q : State → Prop} {pc : Nat} {ls : Array Slot} {rest st : List Value} {cc bytes : ByteArray} {nL maxL n index : Nat} {ret : Option FieldType} {Ts wsy : List Cond} {own C : String} {D : va_G} {cI cB : ClassId} {ws : va_W} {y : MethodName} {rm : Room} {As : List Value}
theorem g_SWv {S : Type} {post : S → Prop} {wu : S → va_W} {A0 A1 : Nat → Prop} (E : CallFix p m c cc nL s args Ts own) (hK : wK D cI cB s) (hP : va_P D vwCl ws H) (hS : va_S A0 H0 H locs) (hA : ∀ q, A1 q → A0 q) (hM : Met l y wsy rm (GPc D cI cB ws As) (va_Qv post (fun u t => va_P D vwCl (wu u) t.heap) A1) 0 0 A1) (cw : CallB R s args own index y bytes maxL ret wsy rm 0 0 n ∧ (Cond.static y).before args s = true) (hn : As.length = n) (hsz : ls.size = nL) (hst : st = As.reverse ++ rest) (hW : (rest.map fun v => v.category).sum ≤ 8) (hdg : decode cc pc = .ok (.invokestatic index, 3)) (hf : cells ≤ R.cells ∧ slots ≤ R.slots)
    (kk : ∀ (u : S) (H1 : Heap) (locs1 : List Loc), post u → va_P D vwCl (wu u) H1 → (∀ q : Nat, q < H.size → ¬ A1 q → H1[q]? = H[q]?) → va_S A0 H0 H1 locs1 → W p l e R s m args below meth c H1 locs1 cells slots Q (F0 m (pc + 3) ls rest)) : W p l e R s m args below meth c H locs cells slots Q (F0 m pc ls st) :=
  va_callv (va_runS (g := F0 m pc ls st) E hM cw ⟨GPc_blind, fun U hU hW => ⟨rfl, by rw [hU]; exact hP, va_K.moved hW.alike hK⟩⟩ rfl hn hsz hst (lv_room hW) hdg hf) hS (fun q _ h => hA q h) (fun q h => hA q h) (fun u t H1 locs1 ht _ hp hB _ hk hS1 => kk u H1 locs1 hp (by rw [← ht]; exact hB) hk hS1)
end GSW
theorem IM_a {n z c q : Nat} {g : Nat → Int32} {b : Nat → Nat → Int32} {v : Nat → Int32} (h : IM n z c g b) (hq : q ≠ 7) : IM n z c g (uA b q v) := by
  obtain ⟨h1, h2, h3, h4, h5, h6, h7⟩ := h
  refine ⟨h1, h2, h3, h4, h5, h6, fun k hk => ?_⟩
  show ∃ j : Nat, j < 6 ∧ (if 7 = q then v else b 7) k = nI j
  rw [if_neg (fun e => hq e.symm)]
  exact h7 k hk
