/-! THE CLAIM OUT OF ONE WALK OF THE LAW'S BODY. Your part is whole_start (and what it stands on); all else here is the same for every law, but numbers. -/
def R_law : String := "SnowTermLaw"
def lw_P (b : Addr) (xs : List Int32) (args : Array Value) (s : State) : Prop := args = #[.ref b] ∧ s.IntsAt b xs ∧ xs.length ≤ 256 ∧ (Jvm.Cond.and given_1 narrow_1).before args s = true
def lw_Q (_ : Array Value) (s : State) (o : Outcome) (t : State) : Prop := o = .returned (some (.int 1)) ∧ Framed s o t [] 45 348
def lw_Z (below : List Frame) (a : Array Value) (s : State) : State → Prop := fun t => ∃ o, t.status = .running ∧ Ended t below o ∧ lw_Q a s o t
/-- the law's own end, with 1 on the stack, nothing written that was there before, its room as the claim has it -/
theorem lw_ret {p : Program} {l : Launch} {e : Env} {s : State} {m : MethodId} {below : List Frame} {meth : Method} {c : Code} {b : Nat} (hx : p.tables.exec = Jvm.exec) (hb : c.code = code) (hr : meth.sig.returnType = ret) (hlocks : meth.locks = false) {pc : Nat} {H : Heap} {ls : Array Slot} (hdg : decode code pc = .ok (.ireturn, 1)) : W p l e room_1 s m #[Value.ref b] below meth c H [] 45 348 (lw_Z below #[Value.ref b] s) (F0 m pc ls [.int 1]) := by
  intro T hT X
  obtain ⟨fs, hret, hrun, hended, hW, hframe⟩ := X.leave (v := some (.int 1)) (hlocks := hlocks) (fun h => by rw [hr] at h; cases h)
  have hmeth' : T.vm.method? m = some meth := X.method'
  refine ⟨T.setFrames fs, ?_, .returned (some (.int 1)), hrun, hended, rfl, ⟨_, rfl⟩, hW, hframe⟩
  jvm_step X.here [X.here.top, hx, hb, hdg, hmeth', hr, ret, narrow_b1]
  (try refine ⟨rfl, ?_⟩); (try refine ⟨rfl, ?_⟩)
  first | (intro acts; rw [hret _ acts rfl rfl rfl]) | rw [hret _ _ rfl rfl rfl]
  exact Steps.refl _
/-- what holds at the law's entry: the machine, the code, the tables' words (any of lw_tbl by 'hts w (by decide +kernel)'), the script of L ints xs at the cell b, what the Statement gives of the start (any of its parts by flat_of_before) -/
def lw_At (p : Program) (s : State) (m : MethodId) (meth : Method) (c : Code) (b L : Nat) (xs : Nat → Int32) : Prop :=
  p.tables.exec = Jvm.exec ∧ c.code = code ∧ meth.sig.returnType = ret ∧ c.maxLocals = 4 ∧ s.vm.findClass R_law = some m.cls ∧ (∀ w ∈ lw_tbl, w.before #[Value.ref b] s = true) ∧ va_X b L xs s s.heap ∧ b < s.heap.size ∧ meth.locks = false ∧ (Jvm.Cond.and given_1 narrow_1).before #[Value.ref b] s = true
theorem law_out {L q : Nat} (hL : L ≤ 256) (h : L < 4 * q + 4) (hq : q < 1000) : Int32.ofNat L - 4 < nI (4 * q) := by
  rcases Nat.lt_or_ge L 4 with h4 | h4
  · have h1 : Int32.ofNat L - 4 < 0 := pk_sneg (a := L) (b := 4) (by omega) h4
    rw [Int32.lt_iff_toInt_lt] at h1 ⊢
    rw [nI_toInt (by omega)]
    have e0 : (0 : Int32).toInt = 0 := by decide
    omega
  · rw [show Int32.ofNat L - 4 = nI (L - 4) from pk_sub (a := L) (b := 4) h4]
    exact nI_lt (by omega) (by omega)
theorem law_in {L q : Nat} (hL : L ≤ 256) (h : 4 * q + 4 ≤ L) : ¬ Int32.ofNat L - 4 < nI (4 * q) := by
  rw [show Int32.ofNat L - 4 = nI (L - 4) from pk_sub (a := L) (b := 4) (by omega)]
  exact nI_nlt (by omega) (by omega)
theorem Rel_0 : RR 0 z0 zz z0 zz := RR_0
set_option maxHeartbeats 4000000 in
set_option maxRecDepth 100000 in
/-- the law's loop: q calls are done -/
theorem law_loop {p : Program} {e : Env} {s : State} {m : MethodId} {below : List Frame} {meth : Method} {cd : Code} (l : Launch) {b L : Nat} {xs : Nat → Int32} {D : va_G} {cI cB : ClassId} {ad ad2 : Nat → Nat} {aS aV : Nat} (E : CallFix p m cd cL_law 4 s #[Value.ref b] wsL_law RL) (hXs : va_X b L xs s s.heap) (hbl : b < s.heap.size) (hK : wK D cI cB s) (hIX : wI 25 ad) (hIM : wI 20 ad2) (hAX : ∀ k : Nat, k < 25 → s.heap.size ≤ ad k) (hAM : ∀ k : Nat, k < 20 → s.heap.size ≤ ad2 k) (hXM : ∀ j k : Nat, j < 25 → k < 20 → ad j ≠ ad2 k) (hZ : zS aS aV (fun q : Nat => s.heap.size ≤ q) s s.heap) (hr : meth.sig.returnType = ret) (hlocks : meth.locks = false) (hL : L ≤ 256) : ∀ (d q : Nat) (H : Heap) (locs : List Loc) (f : Nat → Int32) (a ta : Nat → Nat → Int32) (g t : Nat → Int32) (gl : Nat → Int64) (bb tb : Nat → Nat → Int32) (ls : Array Slot), L ≤ 4 * q + d → q < 1000 → va_P D vwCl (wX cI ad f a ta) H → va_P D vwCl (wM cI cB ad2 g t gl bb tb) H → va_S (fun q : Nat => s.heap.size ≤ q) s.heap H locs → RR q f a g bb → lv_has ls 4 [(3, .int (nI (4 * q))), (0, .ref b), (1, .ref (ad 0)), (2, .ref (ad2 0))] → W p l e room_1 s m #[Value.ref b] below meth cd H locs 45 348 (lw_Z below #[Value.ref b] s) (F0 m 18 ls []) := by
  have hbA : ¬ (fun q : Nat => s.heap.size ≤ q) b := Nat.not_le.mpr hbl
  intro d
  induction d with
  | zero =>
    intro q H locs f a ta g t gl bb tb ls hd hq1 hPX hPM hS hR hl
    refine lv_iload_n E.1 E.2.1 dL_law_18 rfl (lv_at hl 0 rfl) ?_
    refine lv_aload_n E.1 E.2.1 dL_law_19 rfl (lv_at hl 1 rfl) ?_
    refine va_slen E.1 E.2.1 hXs hbl hbA hS dL_law_20 ?_
    refine lv_iconst (v := 4) E.1 E.2.1 dL_law_21 (by decide) ?_
    refine lv_isub E.1 E.2.1 dL_law_22 ?_
    refine lv_icmp_gt (tgt := 658) E.1 E.2.1 dL_law_23 (by decide) (fun _ => ?_) (fun h9 => absurd (law_out hL (by omega) hq1) h9)
    refine lv_iconst (v := 1) E.1 E.2.1 dL_law_658 (by decide) ?_
    refine va_forget (fun q hq => hS.2.2 q hq) ?_
    exact lw_ret E.1 E.2.1 hr hlocks dL_law_659
  | succ d ih =>
    intro q H locs f a ta g t gl bb tb ls hd hq1 hPX hPM hS hR hl
    refine lv_iload_n E.1 E.2.1 dL_law_18 rfl (lv_at hl 0 rfl) ?_
    refine lv_aload_n E.1 E.2.1 dL_law_19 rfl (lv_at hl 1 rfl) ?_
    refine va_slen E.1 E.2.1 hXs hbl hbA hS dL_law_20 ?_
    refine lv_iconst (v := 4) E.1 E.2.1 dL_law_21 (by decide) ?_
    refine lv_isub E.1 E.2.1 dL_law_22 ?_
    rcases Nat.lt_or_ge L (4 * q + 4) with hlt | hge
    · refine lv_icmp_gt (tgt := 658) E.1 E.2.1 dL_law_23 (by decide) (fun _ => ?_) (fun h9 => absurd (law_out hL hlt hq1) h9)
      refine lv_iconst (v := 1) E.1 E.2.1 dL_law_658 (by decide) ?_
      refine va_forget (fun q hq => hS.2.2 q hq) ?_
      exact lw_ret E.1 E.2.1 hr hlocks dL_law_659
    · refine lv_icmp_gt (tgt := 658) E.1 E.2.1 dL_law_23 (by decide) (fun h9 => absurd h9 (law_in hL hge)) (fun _ => ?_)
      obtain ⟨n, z, c, hRC⟩ := hR
      refine law_sw l E hXs hbl hK hIX hIM hAX hAM hXM hZ hPX hPM hS hge hL hRC (fun H locs f a ta g t gl bb tb hPX hPM hS hR ls hl => ?_) ls hl
      refine lv_iinc (v := nI (4 * q + 4)) (k := 0) (lv' := [(3, .int (nI (4 * q + 4))), (0, .ref b), (1, .ref (ad 0)), (2, .ref (ad2 0))]) E.1 E.2.1 dL_law_652 hl rfl (nI_add (4 * q) 4) (by decide) rfl (fun ls hl => ?_)
      refine lv_goto (tgt := 18) E.1 E.2.1 dL_law_655 (by decide) ?_
      rw [show 4 * q + 4 = 4 * (q + 1) by omega] at hl
      exact ih (q + 1) _ _ _ _ _ _ _ _ _ _ ls (by omega) (by omega) hPX hPM hS hR hl
set_option maxHeartbeats 4000000 in
set_option maxRecDepth 100000 in
/-- THE LAW, from its entry -/
theorem whole_start {p : Program} {e : Env} {s : State} {m : MethodId} {below : List Frame} {meth : Method} {c : Code} (l : Launch) {b L : Nat} {xs : Nat → Int32} (hL : L ≤ 256) (C0 : lw_At p s m meth c b L xs) : W p l e room_1 s m #[Value.ref b] below meth c s.heap [] 0 0 (lw_Z below #[Value.ref b] s) (entryFrame m ([Value.ref b] : List Value).toArray 4) := by
  obtain ⟨hx, hb, hr, hml, hown, htb, hX, hbl, hlocks, hgv⟩ := id C0
  have hts : ∀ w ∈ wsL_law, w.before #[Value.ref b] s = true := fun w h => htb w (wsL_law_in w h)
  have E : CallFix p m c cL_law 4 s #[Value.ref b] wsL_law RL := ⟨hx, hb, hml, hown, hts⟩
  have hA : ∀ q : Nat, s.heap.size ≤ q → (fun q : Nat => s.heap.size ≤ q) q := fun _ h => h
  have hA2 : ∀ q : Nat, q < s.heap.size → ¬ (fun q : Nat => s.heap.size ≤ q) q := fun q h => Nat.not_le.mpr h
  have hs := flat_of_before _ hgv
  obtain ⟨adK, adV, hVS, hVE⟩ := vk_Sof (N := 1) (tm := fun _ => Term.string "SnowTerm$Page" 49) (len := [5]) (byt := [[115, 121, 103, 98, 116]]) (args := #[Value.ref b]) (s := s) (A := fun q : Nat => s.heap.size ≤ q) (fun i hi => by obtain rfl : i = 0 := (by omega); decide) (fun i hi => hs _ (by decide +kernel)) (fun i hi => hs _ (by decide +kernel)) (fun i hi => hs _ (by decide +kernel)) (fun i hi => by obtain rfl : i = 0 := (by omega); exact hs _ (by decide +kernel)) (fun i hi j hj => by
    obtain rfl : i = 0 := by omega
    have hj5 : j < 5 := hj
    rcases (show j = 0 ∨ j = 1 ∨ j = 2 ∨ j = 3 ∨ j = 4 by omega) with rfl | rfl | rfl | rfl | rfl
    · exact hs _ (by decide +kernel)
    · exact hs _ (by decide +kernel)
    · exact hs _ (by decide +kernel)
    · exact hs _ (by decide +kernel)
    · exact hs _ (by decide +kernel)) (fun i j hi hj hne => absurd (by omega) hne) hA2
  have hZ : zS (adK 0) (adV 0) (fun q : Nat => s.heap.size ≤ q) s s.heap := by
    refine ⟨vk_R.of (htb (.stringRef RX0 49 "sygbt") (by decide +kernel)) (hVE 0 (by omega)), ⟨fun i hi => ?_, fun i j hi hj _ => by omega⟩, va_Zof (htb (.laysStatic "java/lang/String" "COMPACT_STRINGS" "Z") (by decide +kernel)) (htb (.initialized "java/lang/String") (by decide +kernel)) (va_eqt (hs (Cond.eq (Term.static "java/lang/String" "COMPACT_STRINGS" "Z") (Term.int 1)) (by decide +kernel))) hA2, va_Nw.of rfl (htb (.methodLinkNest RX0 45 yX2_isWithin RX2) (by decide +kernel))⟩
    obtain rfl : i = 0 := by omega
    exact hVS.1 0 hi
  obtain ⟨c0, iS0, hKn0⟩ := u_known (C := RX0) (T := TX0) (N := 2) (n := 2) hts inlX0 (hts (.instantiable RX0 2) (List.mem_append_left _ (List.mem_append_left _ (List.mem_append_left _ (List.mem_append_left _ (List.mem_append_left _ (List.mem_of_getElem? (i := 13) rfl)))))))
  obtain ⟨c1, iS1, hKn1⟩ := u_known (C := RX1) (T := TX1) (N := 13) (n := 13) hts inlX1 (hts (.instantiable RX1 13) (List.mem_append_left _ (List.mem_append_left _ (List.mem_append_left _ (List.mem_append_left _ (List.mem_append_left _ (List.mem_of_getElem? (i := 20) rfl)))))))
  obtain ⟨c2, iS2, hKn2⟩ := u_known (C := RX2) (T := TX2) (N := 10) (n := 10) hts inlX2 (hts (.instantiable RX2 10) (List.mem_append_left _ (List.mem_append_left _ (List.mem_append_left _ (List.mem_append_left _ (List.mem_append_left _ (List.mem_of_getElem? (i := 1) rfl)))))))
  obtain ⟨c3, iS3, hKn3⟩ := u_known (C := RX3) (T := TX3) (N := 40) (n := 40) hts inlX3 (hts (.instantiable RX3 40) (List.mem_append_left _ (List.mem_append_left _ (List.mem_append_left _ (List.mem_append_left _ (List.mem_append_left _ (List.mem_of_getElem? (i := 4) rfl)))))))
  obtain ⟨cI, kI, compI, hfI, hkI, hkindI⟩ := Cond.arrayClass_spec (htb (.arrayClass .int) (by decide +kernel))
  obtain ⟨cB, kB, compB, hfB, hkB, hkindB⟩ := Cond.arrayClass_spec (htb (.arrayClass .byte) (by decide +kernel))
  obtain ⟨D, hKc⟩ : ∃ (D : va_G), ∀ (k : Nat) (q : vw_C), vwCl[k]? = some q → u_Kn s q.1 q.2.1 q.2.2 (D.1 k) (D.2 k) := by
    refine ⟨(fun k => if k = 0 then c0 else if k = 1 then c1 else if k = 2 then c2 else c3, fun k => if k = 0 then iS0 else if k = 1 then iS1 else if k = 2 then iS2 else iS3), ?_⟩
    intro k q hq
    match k, hq with
    | 0, hq => cases hq; exact hKn0
    | 1, hq => cases hq; exact hKn1
    | 2, hq => cases hq; exact hKn2
    | 3, hq => cases hq; exact hKn3
    | k + 4, hq => simp [vwCl] at hq
  have hS : va_S (fun q : Nat => s.heap.size ≤ q) s.heap s.heap [] := va_S.rf
  have hK : wK D cI cB s := by
    refine ⟨hKc, fun k q h => ?_⟩
    match k, h with
    | 0, h => cases h; exact ⟨fun n z => ⟨fun k h => (by cases h), kI, hkI, compI, hkindI⟩, hfI⟩
    | 1, h => cases h; exact ⟨fun n z => ⟨fun k h => (by cases h), kB, hkB, compB, hkindB⟩, hfB⟩
    | k + 2, h => simp at h
  have hP : va_P D vwCl [] s.heap := fun k q h => by simp at h
  have hD : va_D (fun q : Nat => s.heap.size ≤ q) [] := ⟨fun i j p q h => by simp at h, fun k q h => by simp at h⟩
  have hl := lv_entry ([.ref b]) (n := 4) (Nat.le_of_ble_eq_true rfl)
  rw [lg_entry_eq]
  generalize (lg_sl ([.ref b]) ++ List.replicate (4 - (lg_sl ([.ref b])).length) Slot.unset).toArray = ls at hl ⊢
  have hl : lv_has ls 4 [(0, .ref b)] := hl
  refine va_new (ci := 2) (fs := [.null, .null, .null, .null, .null, .null, .null, .int 0, .int 0, .int 0]) (C := RX2) (T := TX2) (N := 10) E.1 E.2.1 hts inlX2 tyX2 tyX2_ok E.2.2.2.1 (htb (.classLink RL 7 RX2) (by decide +kernel)) (htb (.instantiable RX2 10) (by decide +kernel)) (htb (.initialized RX2) (by decide +kernel)) hK hP hD hS hA rfl dv_2 (Nat.le_of_ble_eq_true rfl) (Nat.le_of_ble_eq_true rfl) dL_law_0 (fun q0 H hP hD hS => ?_)
  refine W.widen (k := 1) (n := 10) (by omega) (by omega) ?_
  refine lv_dup E.1 E.2.1 dL_law_3 rfl ?_
  have hPc := hP.sub (ws' := [(q0, .inr (2, [.null, .null, .null, .null, .null, .null, .null, .int 0, .int 0, .int 0]))]) [0] rfl
  have hDc := hD.sub (ws' := [(q0, .inr (2, [.null, .null, .null, .null, .null, .null, .null, .int 0, .int 0, .int 0]))]) [0] (by decide) rfl
  have hFc := va_free (wc := [(q0, .inr (2, [.null, .null, .null, .null, .null, .null, .null, .int 0, .int 0, .int 0]))]) hD hS hA [0] rfl
  refine va_callv (va_runI (As := []) (rest := [.ref q0]) E (c_X2_init l D cI cB q0 H.size) (cwI 0 E.2.2.2.2 gL_law_X2_init rfl rfl rfl (htb (.initialized RX2) (by decide +kernel)) (htb (.methodLink RL 9 yX2_init) (by decide +kernel)) (htb (.instanceMethod yX2_init) (by decide +kernel)) rfl (by decide +kernel) ⟨Nat.le_of_ble_eq_true rfl, Nat.le_of_ble_eq_true rfl⟩) ⟨CPc_blind, fun U hU hW => ⟨rfl, by rw [hU], by rw [hU]; exact hPc, va_K.moved hW.alike hK, hDc.weaken (fun _ _ _ _ => trivial)⟩⟩ rfl rfl hl.1 rfl (lv_room (Nat.le_of_ble_eq_true rfl)) dL_law_4 ⟨Nat.le_of_ble_eq_true rfl, Nat.le_of_ble_eq_true rfl⟩) hS (fun q _ h => hFc q h) hFc (fun ad t H1 locs ht hvm hw hB hz1 hk1 hS => ?_)
  obtain ⟨hPX, hIX, hA1⟩ := hB
  rw [ht] at hPX
  obtain rfl : ad 0 = q0 := hw
  have hAX : ∀ k : Nat, k < 25 → s.heap.size ≤ ad k := fun k hk => hFc _ (hA1 k hk)
  have hD : va_D (fun q : Nat => s.heap.size ≤ q) (wX cI ad z0 zz zz) := (wX_D hIX).weaken (fun k q hq hh => by obtain ⟨k2, hk2, e2⟩ := hh; rw [e2]; exact hAX k2 hk2)
  generalize H1 = H at hPX hS ⊢
  have hP := hPX
  refine W.widen (k := 25) (n := 179) (by omega) (by omega) ?_
  refine lv_astore_n (lv' := [(1, .ref (ad 0)), (0, .ref b)]) E.1 E.2.1 dL_law_7 rfl hl (by decide) rfl (fun ls hl => ?_)
  refine va_new (ci := 3) (fs := [.int 0, .int 0, .null, .null, .null, .null, .null, .null, .int 0, .int 0, .int 0, .int 0, .int 0, .null, .null, .null, .int 0, .null, .int 0, .int 0, .null, .int 0, .int 0, .long 0, .null, .int 0, .int 0, .int 0, .int 0, .int 0, .int 0, .int 0, .null, .null, .null, .null, .null, .null, .null, .long 0]) (C := RX3) (T := TX3) (N := 40) E.1 E.2.1 hts inlX3 tyX3 tyX3_ok E.2.2.2.1 (htb (.classLink RL 10 RX3) (by decide +kernel)) (htb (.instantiable RX3 40) (by decide +kernel)) (htb (.initialized RX3) (by decide +kernel)) hK hP hD hS hA rfl dv_3 (Nat.le_of_ble_eq_true rfl) (Nat.le_of_ble_eq_true rfl) dL_law_8 (fun q1 H hP hD hS => ?_)
  have hPX2 : va_P D vwCl (wX cI ad z0 zz zz) H := hP.sub [0, 1, 2, 3, 4, 5, 6, 7, 8, 9, 10, 11, 12, 13, 14, 15, 16, 17, 18, 19, 20, 21, 22, 23, 24] rfl
  refine W.widen (k := 26) (n := 219) (by omega) (by omega) ?_
  refine lv_dup E.1 E.2.1 dL_law_11 rfl ?_
  have hPc := hP.sub (ws' := [(q1, .inr (3, [.int 0, .int 0, .null, .null, .null, .null, .null, .null, .int 0, .int 0, .int 0, .int 0, .int 0, .null, .null, .null, .int 0, .null, .int 0, .int 0, .null, .int 0, .int 0, .long 0, .null, .int 0, .int 0, .int 0, .int 0, .int 0, .int 0, .int 0, .null, .null, .null, .null, .null, .null, .null, .long 0]))]) [25] rfl
  have hDc := hD.sub (ws' := [(q1, .inr (3, [.int 0, .int 0, .null, .null, .null, .null, .null, .null, .int 0, .int 0, .int 0, .int 0, .int 0, .null, .null, .null, .int 0, .null, .int 0, .int 0, .null, .int 0, .int 0, .long 0, .null, .int 0, .int 0, .int 0, .int 0, .int 0, .int 0, .int 0, .null, .null, .null, .null, .null, .null, .null, .long 0]))]) [25] (by decide) rfl
  have hFc := va_free (wc := [(q1, .inr (3, [.int 0, .int 0, .null, .null, .null, .null, .null, .null, .int 0, .int 0, .int 0, .int 0, .int 0, .null, .null, .null, .int 0, .null, .int 0, .int 0, .null, .int 0, .int 0, .long 0, .null, .int 0, .int 0, .int 0, .int 0, .int 0, .int 0, .int 0, .null, .null, .null, .null, .null, .null, .null, .long 0]))]) hD hS hA [25] rfl
  refine va_callv (va_runI (As := []) (rest := [.ref q1]) E (c_X3_init l D cI cB q1 H.size) (cwI 0 E.2.2.2.2 gL_law_X3_init rfl rfl rfl (htb (.initialized RX3) (by decide +kernel)) (htb (.methodLink RL 12 yX3_init) (by decide +kernel)) (htb (.instanceMethod yX3_init) (by decide +kernel)) rfl (by decide +kernel) ⟨Nat.le_of_ble_eq_true rfl, Nat.le_of_ble_eq_true rfl⟩) ⟨CPc_blind, fun U hU hW => ⟨rfl, by rw [hU], by rw [hU]; exact hPc, va_K.moved hW.alike hK, hDc.weaken (fun _ _ _ _ => trivial)⟩⟩ rfl rfl hl.1 rfl (lv_room (Nat.le_of_ble_eq_true rfl)) dL_law_12 ⟨Nat.le_of_ble_eq_true rfl, Nat.le_of_ble_eq_true rfl⟩) hS (fun q _ h => hFc q h) hFc (fun ad2 t H1 locs ht hvm hw hB hz1 hk1 hS => ?_)
  obtain ⟨hPM, hIM, hA1⟩ := hB
  rw [ht] at hPM
  obtain rfl : ad2 0 = q1 := hw
  have hAM : ∀ k : Nat, k < 20 → s.heap.size ≤ ad2 k := fun k hk => hFc _ (hA1 k hk)
  have hXq : ∀ j : Nat, j < 25 → ad j < H.size ∧ ¬ va_A [(ad2 0, .inr (3, [.int 0, .int 0, .null, .null, .null, .null, .null, .null, .int 0, .int 0, .int 0, .int 0, .int 0, .null, .null, .null, .int 0, .null, .int 0, .int 0, .null, .int 0, .int 0, .long 0, .null, .int 0, .int 0, .int 0, .int 0, .int 0, .int 0, .int 0, .null, .null, .null, .null, .null, .null, .null, .long 0]))] H.size (ad j) := fun j hj => by
    obtain ⟨q, hq, e1⟩ : ∃ q, (wX cI ad z0 zz zz)[j]? = some q ∧ q.1 = ad j := by
      have h1 : ((List.range 25).map ad)[j]? = some (ad j) := by simp [hj]
      rw [← wX_fst cI ad z0 zz zz, List.getElem?_map] at h1
      cases hq : (wX cI ad z0 zz zz)[j]? with
      | none => rw [hq] at h1; cases h1
      | some q => rw [hq] at h1; exact ⟨q, rfl, Option.some.inj h1⟩
    have hlt : ad j < H.size := e1 ▸ (hPX2 j q hq).lt
    refine ⟨hlt, fun h => ?_⟩
    rcases h with ⟨k, e2, h⟩ | h
    · have hk0 : k < 1 := (List.getElem?_eq_some_iff.mp h).1
      obtain rfl : k = 0 := by omega
      have e5 : ad2 0 = ad j := congrArg Prod.fst (Option.some.inj h)
      have h3 : (wX cI ad z0 zz zz ++ [(ad2 0, .inr (3, [.int 0, .int 0, .null, .null, .null, .null, .null, .null, .int 0, .int 0, .int 0, .int 0, .int 0, .null, .null, .null, .int 0, .null, .int 0, .int 0, .null, .int 0, .int 0, .long 0, .null, .int 0, .int 0, .int 0, .int 0, .int 0, .int 0, .int 0, .null, .null, .null, .null, .null, .null, .null, .long 0]))])[j]? = some q := by rw [List.getElem?_append_left (by simpa [wX] using hj)]; exact hq
      have h4 : (wX cI ad z0 zz zz ++ [(ad2 0, .inr (3, [.int 0, .int 0, .null, .null, .null, .null, .null, .null, .int 0, .int 0, .int 0, .int 0, .int 0, .null, .null, .null, .int 0, .null, .int 0, .int 0, .null, .int 0, .int 0, .long 0, .null, .int 0, .int 0, .int 0, .int 0, .int 0, .int 0, .int 0, .null, .null, .null, .null, .null, .null, .null, .long 0]))])[25]? = some (ad2 0, .inr (3, [.int 0, .int 0, .null, .null, .null, .null, .null, .null, .int 0, .int 0, .int 0, .int 0, .int 0, .null, .null, .null, .int 0, .null, .int 0, .int 0, .null, .int 0, .int 0, .long 0, .null, .int 0, .int 0, .int 0, .int 0, .int 0, .int 0, .int 0, .null, .null, .null, .null, .null, .null, .null, .long 0])) := rfl
      have := hD.1 j 25 _ _ h3 h4 (e1.trans e5.symm)
      omega
    · omega
  have hXM : ∀ j k : Nat, j < 25 → k < 20 → ad j ≠ ad2 k := fun j k hj hk e1 => (hXq j hj).2 (e1 ▸ hA1 k hk)
  have hPX : va_P D vwCl (wX cI ad z0 zz zz) H1 := hPX2.kept (fun k q hq => by
    obtain ⟨k1, e1⟩ := w_key (wX_fst cI ad z0 zz zz) hq
    rw [e1]
    exact hk1 _ (hXq k k1).1 (hXq k k1).2)
  clear hP hD hPc hDc hPX2 hXq
  generalize H1 = H at hPX hPM hS ⊢
  refine W.widen (k := 45) (n := 348) (by omega) (by omega) ?_
  refine lv_astore_n (lv' := [(2, .ref (ad2 0)), (1, .ref (ad 0)), (0, .ref b)]) E.1 E.2.1 dL_law_15 rfl hl (by decide) rfl (fun ls hl => ?_)
  refine lv_iconst (v := 0) E.1 E.2.1 dL_law_16 (by decide) ?_
  refine lv_istore_n (lv' := [(3, .int (nI (4 * 0))), (2, .ref (ad2 0)), (1, .ref (ad 0)), (0, .ref b)]) E.1 E.2.1 dL_law_17 rfl hl (by decide) rfl (fun ls hl => ?_)
  exact law_loop l E hX hbl hK hIX hIM hAX hAM hXM hZ hr hlocks hL L 0 _ _ _ _ _ _ _ _ _ _ ls (by omega) (by omega) hPX hPM hS Rel_0 (lv_sub hl [0, 3, 2, 1] rfl)
set_option maxHeartbeats 4000000 in
theorem lw_walk (l : Launch) (b : Addr) (xs : List Int32) : MetFree l x (headSpec (Jvm.Cond.code x code maxLocals ret :: tables_1) room_1) (lw_P b xs) (fun _ _ _ _ _ => True) lw_Q := by
  refine MetFree.of_bodyS (code := code) (maxLocals := maxLocals) (ret := ret) (by decide) ?_ ?_
  · intro args s m h hn
    obtain ⟨meth, c, h1, h2, h3, h4, h5, h6, -, -⟩ := Cond.code_spec hn (atoms_spec (ws := Jvm.Cond.code x code maxLocals ret :: tables_1) h _ List.mem_cons_self)
    exact ⟨meth, c, h1, h2, h3, h4, h5, h6⟩
  · intro p e s m args below meth c s₁ B hml0 hP _
    obtain ⟨rfl, hx, hbd, hgv⟩ := hP
    obtain ⟨scr, harrAt, hlist, hof, hsmall⟩ := hx
    obtain ⟨hcb, hkn, -, -⟩ := State.arrayAt?_spec harrAt
    have hown : s.vm.findClass R_law = some m.cls := findClass_of_methodNamed B.named
    have hts0 : ∀ c ∈ (Jvm.Cond.code x code maxLocals ret :: tables_1), c.before #[Value.ref b] s = true := atoms_spec (ws := Jvm.Cond.code x code maxLocals ret :: tables_1) B.pre
    have hts : ∀ w ∈ lw_tbl, w.before #[Value.ref b] s = true := k2_hts_sels lw_privs (fun w hw => hts0 w (List.mem_cons_of_mem _ hw)) lw_privs_ok
    have hml : c.maxLocals = 4 := B.maxLocals_eq (hts0 _ List.mem_cons_self)
    have X₀ : Stand p l e room_1 s m #[Value.ref b] below meth c s₁ [] 0 0 := Stand.of_body B
    have hh0 : s₁.heap = s.heap := by rw [B.state]; rfl
    have hsz : scr.slots.size = xs.length := by rw [← Array.length_toList, hlist, List.length_map]
    have hval : ∀ j : Nat, j < xs.length → scr.slots[j]? = some (.int (xs.getD j 0)) := fun j hj => by
      rw [← Array.getElem?_toList, hlist]
      simp [hj]
    have hbl : b < s.heap.size := (Array.getElem?_eq_some_iff.mp hcb).1
    have hX : va_X b xs.length (fun j => xs.getD j 0) s s.heap := ⟨scr, hcb, hof, hkn, hsz, hval⟩
    have K : W p l e room_1 s m #[Value.ref b] below meth c s₁.heap [] 0 0 (lw_Z below #[Value.ref b] s) (entryFrame m ([Value.ref b] : List Value).toArray 4) := by
      rw [hh0]
      exact whole_start l hbd ⟨B.exec, B.bytes, B.returns, hml, hown, hts, hX, hbl, B.notSynchronized, hgv⟩
    obtain ⟨t, a1, o, b1, b2, b3⟩ := K s₁ rfl X₀
    exact ⟨t, o, a1, b1, b2, b3⟩
theorem lw_pre_spec {args : Array Value} {s : State} (h : (Jvm.Cond.and given_1 narrow_1).before args s = true) (hr : rest_1_c.before args s = true) : ∃ (b : Addr) (xs : List Int32), lw_P b xs args s := by
  have hs := flat_of_before _ h
  have hq := flat_of_before _ hr
  have hc : (Cond.count 1).before args s = true := hs _ (by decide +kernel)
  have harr : (Cond.arrayOf (.arg 0) .int).before args s = true := hs _ (by decide +kernel)
  have hle : (Cond.le (.length (.arg 0)) (.int 256)).before args s = true := hs _ (by decide +kernel)
  have hlen : (Cond.isInt (.length (.arg 0))).before args s = true := hq _ (by decide +kernel)
  have hall : (Cond.all (.arg 0) (.isInt (.elem (.arg 0) (.index 0)))).before args s = true := hq _ (by decide +kernel)
  obtain ⟨b, xs, hb, hx⟩ := State.ints_of_pre rfl harr hlen hall
  have hsm : xs.length < 2 ^ 31 := hx.choose_spec.2.2.2
  have hev : (Term.length (.arg 0)).eval args s none [] s = some (.int xs.length.toInt32) := hx.length_eval hb
  have hv := Cond.le_ints hev (show (Term.int 256).eval args s none [] s = some (.int 256) from rfl)
  have hd : xs.length.toInt32 ≤ 256 := by
    simpa [Cond.before, Cond.holds, hv] using hle
  have hN : xs.length ≤ 256 := (Int32.ofNat_le_ofNat hsm (by decide)).mp (show Int32.ofNat xs.length ≤ Int32.ofNat 256 from hd)
  exact ⟨b, xs, Cond.one_arg hc (show args[0]? = some (.ref b) from hb), hx, hN, h⟩
theorem lw_comes (l : Launch) : Comes l x (Jvm.Cond.code x code maxLocals ret :: tables_1) room_1 (fun tb e args s => Calls_1 tb e args s ∧ rest_1 tb e args s ∧ Pre_1 tb e args s)
    (fun _ _ args s o t => lw_Q args s o t) := by
  intro p e ha hc hk s m args below hf hfit hheap happ hpre
  obtain ⟨b, xs, hP⟩ := lw_pre_spec hpre.2.2 hpre.2.1
  obtain ⟨k, o, h1, h2, h3, hQ⟩ := lw_walk l b xs p e ha hc hk s m args below hf ((Spec.applies_iff_loose hf).mp happ).1 hP trivial
  exact ⟨k, o, h1, h2, h3, hQ⟩
theorem lw_frame {s t : State} {o : Outcome} {args : Array Value} (h : Framed s o t [] 45 348) :
    Framed s o t (fieldLocs frame_1_writes args s ++ arrayLocs frame_1_arrays args s ++ staticLocs frame_1_statics s) 45 348 := h
theorem lw_limb (L : Cond) (hL : ∀ (args : Array Value) (s t : State), L.after args s (.returned (some (.int 1))) t = true) :
    ArmFor flags0 classFile x code maxLocals ret World_1 tables_1 room_1 Calls_1 rest_1 Pre_1
      (fun tb e a s o t => postC L tb e a s o t ∧ Framed s o t (fieldLocs frame_1_writes a s ++ arrayLocs frame_1_arrays a s ++ staticLocs frame_1_statics s) 45 348) := by
  intro l _ _ _ p e ha hc hk s m args below hf hfit hheap happ hpre
  obtain ⟨k, o, h1, h2, h3, rfl, hF⟩ := lw_comes l p e ha hc hk s m args below hf hfit hheap happ hpre
  exact ⟨k, _, h1, h2, h3, hL args s _, lw_frame hF⟩
theorem i_vc : Claimed_1_1 ∧ Claimed_1_2 := ⟨lw_limb limb_1_1 (fun args s t => by simp [limb_1_1, Cond.after, Cond.holds, Cond.value]), lw_limb limb_1_2 (fun args s t => Cond.after_iff.mpr (by
  first | (rw [show limb_1_2 = Cond.eq .result (.int 1) from rfl, Cond.eq_ints (x := 1) (y := 1) rfl rfl]; simp; done) | (simp [limb_1_2, Cond.value, Term.eval]; done)))⟩
