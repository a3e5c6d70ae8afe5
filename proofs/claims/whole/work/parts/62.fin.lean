/-! THE CLAIM OUT OF ONE WALK OF THE LAW'S BODY. Your part is whole_start (and what it stands on); all else here is the same for every law, but numbers. -/
def R_law : String := "GradeRowsLaw"
def lw_P (b : Addr) (xs : List Int32) (args : Array Value) (s : State) : Prop := args = #[.ref b] ∧ s.IntsAt b xs ∧ xs.length ≤ 2560 ∧ (Jvm.Cond.and given_1 narrow_1).before args s = true
def lw_Q (_ : Array Value) (s : State) (o : Outcome) (t : State) : Prop := o = .returned (some (.int 1)) ∧ Framed s o t [] 600000 7302250
def lw_Z (below : List Frame) (a : Array Value) (s : State) : State → Prop := fun t => ∃ o, t.status = .running ∧ Ended t below o ∧ lw_Q a s o t
/-- the law's own end, with 1 on the stack, nothing written that was there before, its room as the claim has it -/
theorem lw_ret {p : Program} {l : Launch} {e : Env} {s : State} {m : MethodId} {below : List Frame} {meth : Method} {c : Code} {b : Nat} (hx : p.tables.exec = Jvm.exec) (hb : c.code = code) (hr : meth.sig.returnType = ret) (hlocks : meth.locks = false) {pc : Nat} {H : Heap} {ls : Array Slot} (hdg : decode code pc = .ok (.ireturn, 1)) : W p l e room_1 s m #[Value.ref b] below meth c H [] 600000 7302250 (lw_Z below #[Value.ref b] s) (F0 m pc ls [.int 1]) := by
  intro T hT X
  obtain ⟨fs, hret, hrun, hended, hW, hframe⟩ := X.leave (v := some (.int 1)) (hlocks := hlocks) (fun h => by rw [hr] at h; cases h)
  have hmeth' : T.vm.method? m = some meth := X.method'
  refine ⟨T.setFrames fs, ?_, .returned (some (.int 1)), hrun, hended, rfl, ⟨_, rfl⟩, hW, hframe⟩
  jvm_step X.here [X.here.top, hx, hb, hdg, hmeth', hr, ret, narrow_b1]
  (try refine ⟨rfl, ?_⟩); (try refine ⟨rfl, ?_⟩)
  first | (intro acts; rw [hret _ acts rfl rfl rfl]) | rw [hret _ _ rfl rfl rfl]
  exact Steps.refl _
/-- what holds at the law's entry: the machine, the code, the tables' words (any of lw_tbl by 'hts w (by decide +kernel)'), the script of L ints xs at the cell b, what the Statement gives of the start (any of its parts by flat_of_before) -/
def lw_At (p : Program) (s : State) (m : MethodId) (meth : Method) (c : Code) (b L : Nat) (xs : Nat → Int32) : Prop :=
  p.tables.exec = Jvm.exec ∧ c.code = code ∧ meth.sig.returnType = ret ∧ c.maxLocals = 4 ∧ s.vm.findClass R_law = some m.cls ∧ (∀ w ∈ lw_tbl, w.before #[Value.ref b] s = true) ∧ va_X b L xs s s.heap ∧ b < s.heap.size ∧ meth.locks = false ∧ (Jvm.Cond.and given_1 narrow_1).before #[Value.ref b] s = true
set_option maxHeartbeats 4000000 in
set_option maxRecDepth 100000 in
theorem law_loop {p : Program} {l : Launch} {e : Env} {s : State} {m : MethodId} {below : List Frame} {meth : Method} {c : Code} {b0 L : Nat} {xs : Nat → Int32} (G : qG) (hx : p.tables.exec = Jvm.exec) (hb : c.code = code) (hml : c.maxLocals = 4) (hown : s.vm.findClass "GradeRowsLaw" = some m.cls) (htb : ∀ w ∈ qTb, w.before #[Value.ref b0] s = true) (hN : qNw s) (hK : va_K G.1 vwCl (qTy G) s) (hX : va_X b0 L xs s s.heap) (hbl : b0 < s.heap.size) (hL : L ≤ 2560) (hr : meth.sig.returnType = ret) (hlocks : meth.locks = false) {ax am : Nat} : ∀ (N t i : Nat) (fk : Nat → Option Nat) (z : qZ) (wX kw wM : va_W) (H : Heap) (locs : List Loc) (ls : Array Slot), L - i < N → i = 5 * t → i ≤ L → qInv G s ax am fk z wX kw wM H locs → lv_has ls 4 [(3, .int (nI i)), (2, .ref am), (1, .ref ax), (0, .ref b0)] → W p l e room_1 s m #[Value.ref b0] below meth c H locs (33 + 5 * t) (9241 + 407 * t) (lw_Z below #[Value.ref b0] s) (F0 m 18 ls []) := by
  intro N
  induction N with
  | zero => intro t i fk z wX kw wM H locs ls hm; exact absurd hm (Nat.not_lt_zero _)
  | succ N ih =>
    intro t i fk z wX kw wM H locs ls hm hit hiL I hl
    have hS := I.2.2.2.2.2.2
    have hbA : ¬ (fun q : Nat => s.heap.size ≤ q) b0 := Nat.not_le.mpr hbl
    have hexit : W p l e room_1 s m #[Value.ref b0] below meth c H locs (33 + 5 * t) (9241 + 407 * t) (lw_Z below #[Value.ref b0] s) (F0 m 613 ls []) := by
      refine lv_iconst (v := 1) hx hb dL_law_613 (by decide) ?_
      refine va_forget hS.2.2 ?_
      refine W.widen (k := 600000) (n := 7302250) (by omega) (by omega) ?_
      exact lw_ret hx hb hr hlocks dL_law_614
    refine lv_iload_n hx hb dL_law_18 rfl (lv_at hl 0 rfl) ?_
    refine lv_aload_n hx hb dL_law_19 rfl (lv_at hl 3 rfl) ?_
    refine va_slen hx hb hX hbl hbA hS dL_law_20 ?_
    refine qk_topi (t := nI L) rfl ?_
    refine lv_iconst (v := nI 5) hx hb dL_law_21 (by decide) ?_
    refine lv_isub hx hb dL_law_22 ?_
    by_cases h5 : 5 ≤ L
    · refine qk_topi (t := nI (L - 5)) (pk_sub h5) ?_
      refine lv_icmp_gt (tgt := 613) hx hb dL_law_23 (by decide) (fun _ => hexit) (fun c1 => ?_)
      have c1 : ¬ (L - 5 < i) := fun q => c1 (nI_lt q (by omega))
      refine lv_aload_n hx hb dL_law_26 rfl (lv_at hl 3 rfl) ?_
      refine lv_iload_n hx hb dL_law_27 rfl (lv_at hl 0 rfl) ?_
      refine va_sld hx hb hX hbl hbA hS (vp_in_nI (n := i) (by omega) (by omega)) dL_law_28 ?_
      refine lv_bipush (v := nI 31) hx hb dL_law_29 (by decide) ?_
      refine lv_iand hx hb dL_law_31 ?_
      obtain ⟨j, hj, ej⟩ := pk_andE (xs (nI i).toNatClampNeg) (m := nI 31) 5 (by decide)
      refine qk_topi (t := nI j) ej ?_
      have hnext : ∀ (fk : Nat → Option Nat) (z : qZ) (wX kw wM : va_W) (H : Heap) (locs : List Loc), qInv G s ax am fk z wX kw wM H locs → W p l e room_1 s m #[Value.ref b0] below meth c H locs (33 + 5 * t + 5) (9241 + 407 * t + 407) (lw_Z below #[Value.ref b0] s) (F0 m 607 ls []) := by
        intro fk z wX kw wM H locs I
        refine lv_iinc (v := nI (i + 5)) (lv' := [(3, .int (nI (i + 5))), (2, .ref am), (1, .ref ax), (0, .ref b0)]) hx hb dL_law_607 hl (k := 0) rfl (nI_add i 5) (by decide) rfl (fun ls hl => ?_)
        refine lv_goto (tgt := 18) hx hb dL_law_610 (by decide) ?_
        refine W.cs (cells' := 33 + 5 * (t + 1)) (slots' := 9241 + 407 * (t + 1)) (by omega) (by omega) ?_
        exact ih (t + 1) (i + 5) fk z wX kw wM H locs ls (by omega) (by omega) (by omega) I hl
      obtain hd9 : j = 0 ∨ j = 1 ∨ j = 2 ∨ j = 3 ∨ j = 4 ∨ j = 5 ∨ j = 6 ∨ j = 7 ∨ j = 8 ∨ j = 9 ∨ j = 10 ∨ j = 11 ∨ j = 12 ∨ j = 13 ∨ j = 14 ∨ j = 15 ∨ j = 16 ∨ j = 17 ∨ 18 ≤ j := by omega
      rcases hd9 with rfl | rfl | rfl | rfl | rfl | rfl | rfl | rfl | rfl | rfl | rfl | rfl | rfl | rfl | rfl | rfl | rfl | rfl | h18
      · refine lv_tableIn (tgt := 120) hx hb dL_law_32 (by decide) (by decide) rfl (by decide) ?_
        exact ql_c0 G (lw_Z below #[Value.ref b0] s) hx hb hml hown htb hN hK hX hbl hL (by omega) (by omega) (by omega) I hl hnext
      · refine lv_tableIn (tgt := 153) hx hb dL_law_32 (by decide) (by decide) rfl (by decide) ?_
        exact ql_c1 G (lw_Z below #[Value.ref b0] s) hx hb hml hown htb hN hK hX hbl hL (by omega) (by omega) (by omega) I hl hnext
      · refine lv_tableIn (tgt := 196) hx hb dL_law_32 (by decide) (by decide) rfl (by decide) ?_
        exact ql_c2 G (lw_Z below #[Value.ref b0] s) hx hb hml hown htb hN hK hX hbl hL (by omega) (by omega) (by omega) I hl hnext
      · refine lv_tableIn (tgt := 219) hx hb dL_law_32 (by decide) (by decide) rfl (by decide) ?_
        exact ql_c3 G (lw_Z below #[Value.ref b0] s) hx hb hml hown htb hN hK hX hbl hL (by omega) (by omega) (by omega) I hl hnext
      · refine lv_tableIn (tgt := 232) hx hb dL_law_32 (by decide) (by decide) rfl (by decide) ?_
        exact ql_c4 G (lw_Z below #[Value.ref b0] s) hx hb hml hown htb hN hK hX hbl hL (by omega) (by omega) (by omega) I hl hnext
      · refine lv_tableIn (tgt := 256) hx hb dL_law_32 (by decide) (by decide) rfl (by decide) ?_
        exact ql_c5 G (lw_Z below #[Value.ref b0] s) hx hb hml hown htb hN hK hX hbl hL (by omega) (by omega) (by omega) I hl hnext
      · refine lv_tableIn (tgt := 280) hx hb dL_law_32 (by decide) (by decide) rfl (by decide) ?_
        exact ql_c6 G (lw_Z below #[Value.ref b0] s) hx hb hml hown htb hN hK hX hbl hL (by omega) (by omega) (by omega) I hl hnext
      · refine lv_tableIn (tgt := 373) hx hb dL_law_32 (by decide) (by decide) rfl (by decide) ?_
        exact ql_c7 G (lw_Z below #[Value.ref b0] s) hx hb hml hown htb hN hK hX hbl hL (by omega) (by omega) (by omega) I hl hnext
      · refine lv_tableIn (tgt := 386) hx hb dL_law_32 (by decide) (by decide) rfl (by decide) ?_
        exact ql_c8 G (lw_Z below #[Value.ref b0] s) hx hb hml hown htb hN hK hX hbl hL (by omega) (by omega) (by omega) I hl hnext
      · refine lv_tableIn (tgt := 399) hx hb dL_law_32 (by decide) (by decide) rfl (by decide) ?_
        exact ql_c9 G (lw_Z below #[Value.ref b0] s) hx hb hml hown htb hN hK hX hbl hL (by omega) (by omega) (by omega) I hl hnext
      · refine lv_tableIn (tgt := 453) hx hb dL_law_32 (by decide) (by decide) rfl (by decide) ?_
        exact ql_c10 G (lw_Z below #[Value.ref b0] s) hx hb hml hown htb hN hK hX hbl hL (by omega) (by omega) (by omega) I hl hnext
      · refine lv_tableIn (tgt := 476) hx hb dL_law_32 (by decide) (by decide) rfl (by decide) ?_
        exact ql_c11 G (lw_Z below #[Value.ref b0] s) hx hb hml hown htb hN hK hX hbl hL (by omega) (by omega) (by omega) I hl hnext
      · refine lv_tableIn (tgt := 489) hx hb dL_law_32 (by decide) (by decide) rfl (by decide) ?_
        exact ql_c12 G (lw_Z below #[Value.ref b0] s) hx hb hml hown htb hN hK hX hbl hL (by omega) (by omega) (by omega) I hl hnext
      · refine lv_tableIn (tgt := 502) hx hb dL_law_32 (by decide) (by decide) rfl (by decide) ?_
        exact ql_c13 G (lw_Z below #[Value.ref b0] s) hx hb hml hown htb hN hK hX hbl hL (by omega) (by omega) (by omega) I hl hnext
      · refine lv_tableIn (tgt := 525) hx hb dL_law_32 (by decide) (by decide) rfl (by decide) ?_
        exact ql_c14 G (lw_Z below #[Value.ref b0] s) hx hb hml hown htb hN hK hX hbl hL (by omega) (by omega) (by omega) I hl hnext
      · refine lv_tableIn (tgt := 548) hx hb dL_law_32 (by decide) (by decide) rfl (by decide) ?_
        exact ql_c15 G (lw_Z below #[Value.ref b0] s) hx hb hml hown htb hN hK hX hbl hL (by omega) (by omega) (by omega) I hl hnext
      · refine lv_tableIn (tgt := 561) hx hb dL_law_32 (by decide) (by decide) rfl (by decide) ?_
        exact ql_c16 G (lw_Z below #[Value.ref b0] s) hx hb hml hown htb hN hK hX hbl hL (by omega) (by omega) (by omega) I hl hnext
      · refine lv_tableIn (tgt := 584) hx hb dL_law_32 (by decide) (by decide) rfl (by decide) ?_
        exact ql_c17 G (lw_Z below #[Value.ref b0] s) hx hb hml hown htb hN hK hX hbl hL (by omega) (by omega) (by omega) I hl hnext
      · refine lv_tableOut (tgt := 607) hx hb dL_law_32 (Or.inr (by rw [nI_toInt (by omega)]; omega)) (by decide) ?_
        refine W.widen (k := 33 + 5 * t + 5) (n := 9241 + 407 * t + 407) (by omega) (by omega) ?_
        exact hnext fk z wX kw wM H locs I
    · refine lv_icmp_gt (tgt := 613) hx hb dL_law_23 (by decide) (fun _ => hexit) (fun c1 => ?_)
      exact absurd (by rw [Int32.lt_iff_toInt_lt, pk_sub_toInt (by omega) (by omega), nI_toInt (by omega)]; omega) c1
set_option maxHeartbeats 4000000 in
set_option maxRecDepth 100000 in
theorem whole_start {p : Program} {e : Env} {s : State} {m : MethodId} {below : List Frame} {meth : Method} {c : Code} (l : Launch) {b L : Nat} {xs : Nat → Int32} (hL : L ≤ 2560) (C0 : lw_At p s m meth c b L xs) : W p l e room_1 s m #[Value.ref b] below meth c s.heap [] 0 0 (lw_Z below #[Value.ref b] s) (entryFrame m ([Value.ref b] : List Value).toArray 4) := by
  obtain ⟨hx, hb, hr, hml, hown, hts, hX, hbl, hlocks, hgv⟩ := id C0
  have hown : s.vm.findClass "GradeRowsLaw" = some m.cls := hown
  have htb := fun (w : Cond) (h : w ∈ qTb) => hts w (List.mem_filter.mp h).1
  have hN : qNw s := ⟨fun w hw => va_Nw.of (qNs_in w hw).2 (hts w (qNs_in w hw).1), va_AO.of (hts _ (List.mem_of_getElem? (i := 120) (by decide +kernel)))⟩
  have hA : ∀ q : Nat, s.heap.size ≤ q → (fun q : Nat => s.heap.size ≤ q) q := fun _ h => h
  obtain ⟨c0, iS0, hKn0⟩ := u_known (C := "GradeRows$Classes") (T := TX0) (N := 3) (n := 3) htb inX0 (htb _ qw_104)
  obtain ⟨c1, iS1, hKn1⟩ := u_known (C := "GradeRows$Row") (T := TX1) (N := 3) (n := 3) htb inX1 (htb _ qw_356)
  obtain ⟨c2, iS2, hKn2⟩ := u_known (C := "GradeRows$Rules") (T := TX2) (N := 5) (n := 5) htb inX2 (htb _ qw_32)
  obtain ⟨c3, iS3, hKn3⟩ := u_known (C := "GradeRows$Sorted") (T := TX3) (N := 2) (n := 2) htb inX3 (htb _ qw_62)
  obtain ⟨c4, iS4, hKn4⟩ := u_known (C := "GradeRows$Steps") (T := TX4) (N := 9) (n := 9) htb inX4 (htb _ qw_56)
  obtain ⟨c5, iS5, hKn5⟩ := u_known (C := "GradeRows") (T := TX5) (N := 6) (n := 6) htb inX5 (htb _ qw_24)
  obtain ⟨c6, iS6, hKn6⟩ := u_known (C := "GradeRowsModel") (T := TX6) (N := 16) (n := 16) htb inX6 (htb _ qw_428)
  obtain ⟨aI, kI, pI, nI1, fI, gI⟩ := Cond.arrayClass_spec (htb _ qw_53)
  obtain ⟨aJ, kJ, pJ, nJ, fJ, gJ⟩ := Cond.arrayClass_spec (htb _ qw_54)
  obtain ⟨aZ, kZ, pZ, nZ, fZ, gZ⟩ := Cond.arrayClass_spec (htb _ qw_74)
  obtain ⟨aR, kR, pR, nR, fR, gR, hR⟩ := q_row hN.2
  obtain ⟨dC, dI, hKc⟩ : ∃ (dC : Nat → ClassId) (dI : Nat → Nat → Nat), ∀ (k : Nat) (q : vw_C), vwCl[k]? = some q → u_Kn s q.1 q.2.1 q.2.2 (dC k) (dI k) := by
    refine ⟨fun k => if k = 0 then c0 else if k = 1 then c1 else if k = 2 then c2 else if k = 3 then c3 else if k = 4 then c4 else if k = 5 then c5 else c6, fun k => if k = 0 then iS0 else if k = 1 then iS1 else if k = 2 then iS2 else if k = 3 then iS3 else if k = 4 then iS4 else if k = 5 then iS5 else iS6, ?_⟩
    intro k q hq
    match k, hq with
    | 0, hq => cases hq; exact hKn0
    | 1, hq => cases hq; exact hKn1
    | 2, hq => cases hq; exact hKn2
    | 3, hq => cases hq; exact hKn3
    | 4, hq => cases hq; exact hKn4
    | 5, hq => cases hq; exact hKn5
    | 6, hq => cases hq; exact hKn6
    | k + 7, hq => simp [vwCl] at hq
  have hK : va_K (dC, dI) vwCl (qTy ((dC, dI), aI, aJ, aZ, aR)) s := by
    refine ⟨hKc, fun k q h => ?_⟩
    match k, h with
    | 0, h => cases h; exact ⟨fun n z => ⟨fun k h => (by cases h), kI, fI, pI, gI⟩, nI1⟩
    | 1, h => cases h; exact ⟨fun n z => ⟨fun k h => (by cases h), kJ, fJ, pJ, gJ⟩, nJ⟩
    | 2, h => cases h; exact ⟨fun n z => ⟨fun k h => (by cases h), kZ, fZ, pZ, gZ⟩, nZ⟩
    | 3, h => cases h; exact ⟨fun n z => ⟨fun k h => (by cases h), kR, fR, pR, gR⟩, kR, pR, fR, gR, hR, nR⟩
    | k + 4, h => simp at h
  obtain ⟨G, hGe⟩ : ∃ G : qG, G = ((dC, dI), aI, aJ, aZ, aR) := ⟨_, rfl⟩
  have hK : va_K G.1 vwCl (qTy G) s := by rw [hGe]; exact hK
  have hS : va_S (fun q : Nat => s.heap.size ≤ q) s.heap s.heap [] := va_S.rf
  have hP : va_P G.1 vwCl [] s.heap := fun k q h => by simp at h
  have hD : va_D (fun q : Nat => s.heap.size ≤ q) [] := ⟨fun i j p q h => by simp at h, fun k q h => by simp at h⟩
  have hl := lv_entry ([.ref b]) (n := 4) (Nat.le_of_ble_eq_true rfl)
  rw [lg_entry_eq]
  generalize (lg_sl ([.ref b]) ++ List.replicate (4 - (lg_sl ([.ref b])).length) Slot.unset).toArray = ls at hl ⊢
  have hl : lv_has ls 4 [(0, .ref b)] := hl
  refine va_new (ci := 5) (fs := [.null, .null, .null, .null, .int 0, .int 0]) (C := "GradeRows") (T := TX5) (N := 6) hx hb htb inX5 tyX5 tyX5_ok hown (htb _ qw_23) (htb _ qw_24) (htb _ qw_13) hK hP hD hS hA rfl (fun j hj => by rcases (show j = 0 ∨ j = 1 ∨ j = 2 ∨ j = 3 ∨ j = 4 ∨ j = 5 by omega) with rfl | rfl | rfl | rfl | rfl | rfl <;> rfl) (Nat.le_of_ble_eq_true rfl) (Nat.le_of_ble_eq_true rfl) dL_law_0 (fun ax H hP hD hS => ?_)
  have hP : va_P G.1 vwCl ([(ax, .inr (5, [.null, .null, .null, .null, .int 0, .int 0]))] ++ []) H := hP
  have hD : va_D (fun q : Nat => s.heap.size ≤ q) ([(ax, .inr (5, [.null, .null, .null, .null, .int 0, .int 0]))] ++ []) := hD
  refine W.widen (k := 1) (n := 6) (by omega) (by omega) ?_
  refine lv_dup hx hb dL_law_3 rfl ?_
  have hPc := qk_mem (wc := [(ax, .inr (5, [.null, .null, .null, .null, .int 0, .int 0]))]) hP (fun q h => List.mem_append_left _ h)
  have hDc := qk_left hD
  have hFc := qk_freeA hD hS hA
  refine va_callv (va_runI (As := []) (rest := [.ref ax]) ⟨hx, hb, hml, hown, htb⟩ (qc_X_init l G ax H.size) (cwI 0 htb (qW_good qw_27) rfl rfl rfl (htb _ qw_13) (htb _ qw_25) (htb _ qw_26) rfl (by decide +kernel) ⟨Nat.le_of_ble_eq_true rfl, Nat.le_of_ble_eq_true rfl⟩) (qk_psw hK hPc hN hDc) rfl rfl hl.1 rfl (lv_room (Nat.le_of_ble_eq_true rfl)) dL_law_4 ⟨Nat.le_of_ble_eq_true rfl, Nat.le_of_ble_eq_true rfl⟩) hS (fun q _ h => hFc q h) hFc (fun wX t9 H1 locs ht9 hvm hXr hB hz1 hk1 hS => ?_)
  obtain ⟨hP1, hK1, hD1⟩ := hB
  rw [ht9] at hP1
  obtain ⟨hP, hD⟩ := qk_joinA hP hD hk1 hFc hP1 hD1
  generalize H1 = H at hP hS ⊢
  refine W.widen (k := 21) (n := 1838) (by omega) (by omega) ?_
  refine lv_astore_n (lv' := [(1, .ref ax), (0, .ref b)]) hx hb dL_law_7 rfl hl (by decide) rfl (fun ls hl => ?_)
  refine va_new (ci := 6) (fs := [.int 0, .int 0, .null, .null, .null, .null, .null, .null, .int 0, .int 0, .null, .null, .int 0, .null, .null, .null]) (C := "GradeRowsModel") (T := TX6) (N := 16) hx hb htb inX6 tyX6 tyX6_ok hown (htb _ qw_427) (htb _ qw_428) (htb _ qw_18) hK hP hD hS hA rfl (fun j hj => by rcases (show j = 0 ∨ j = 1 ∨ j = 2 ∨ j = 3 ∨ j = 4 ∨ j = 5 ∨ j = 6 ∨ j = 7 ∨ j = 8 ∨ j = 9 ∨ j = 10 ∨ j = 11 ∨ j = 12 ∨ j = 13 ∨ j = 14 ∨ j = 15 by omega) with rfl | rfl | rfl | rfl | rfl | rfl | rfl | rfl | rfl | rfl | rfl | rfl | rfl | rfl | rfl | rfl <;> rfl) (Nat.le_of_ble_eq_true rfl) (Nat.le_of_ble_eq_true rfl) dL_law_8 (fun am H hP hD hS => ?_)
  have hP : va_P G.1 vwCl ([(am, .inr (6, [.int 0, .int 0, .null, .null, .null, .null, .null, .null, .int 0, .int 0, .null, .null, .int 0, .null, .null, .null]))] ++ (wX ++ [])) H := qk_mem hP (fun q h => by simp only [List.mem_append] at h ⊢; rcases h with h | h | h; exact Or.inr h; exact Or.inl (Or.inl h); exact Or.inl (Or.inr h))
  have hD := qk_rot hD
  refine W.widen (k := 22) (n := 1854) (by omega) (by omega) ?_
  refine lv_dup hx hb dL_law_11 rfl ?_
  have hPc := qk_mem (wc := [(am, .inr (6, [.int 0, .int 0, .null, .null, .null, .null, .null, .null, .int 0, .int 0, .null, .null, .int 0, .null, .null, .null]))]) hP (fun q h => List.mem_append_left _ h)
  have hDc := qk_left hD
  have hFc := qk_freeA hD hS hA
  refine va_callv (va_runI (As := []) (rest := [.ref am]) ⟨hx, hb, hml, hown, htb⟩ (qc_M_init l G am H.size) (cwI 0 htb (qW_good qw_431) rfl rfl rfl (htb _ qw_18) (htb _ qw_429) (htb _ qw_430) rfl (by decide +kernel) ⟨Nat.le_of_ble_eq_true rfl, Nat.le_of_ble_eq_true rfl⟩) (qk_psw hK hPc hN hDc) rfl rfl hl.1 rfl (lv_room (Nat.le_of_ble_eq_true rfl)) dL_law_12 ⟨Nat.le_of_ble_eq_true rfl, Nat.le_of_ble_eq_true rfl⟩) hS (fun q _ h => hFc q h) hFc (fun wM t9 H1 locs ht9 hvm hMr hB hz1 hk1 hS => ?_)
  obtain ⟨hP1, hK1, hD1⟩ := hB
  rw [ht9] at hP1
  obtain ⟨hP, hD⟩ := qk_joinA hP hD hk1 hFc hP1 hD1
  generalize H1 = H at hP hS ⊢
  obtain ⟨hP, hD⟩ := qk_back hP hD
  refine W.widen (k := 33) (n := 9241) (by omega) (by omega) ?_
  refine lv_astore_n (lv' := [(2, .ref am), (1, .ref ax), (0, .ref b)]) hx hb dL_law_15 rfl hl (by decide) rfl (fun ls hl => ?_)
  refine lv_iconst (v := nI 0) hx hb dL_law_16 (by decide) ?_
  refine lv_istore_n (lv' := [(3, .int (nI 0)), (2, .ref am), (1, .ref ax), (0, .ref b)]) hx hb dL_law_17 rfl hl (by decide) rfl (fun ls hl => ?_)
  exact law_loop G hx hb hml hown htb hN hK hX hbl hL hr hlocks (L + 1) 0 0 (fun _ => none) qz_0 wX [] wM _ _ ls (by omega) rfl (Nat.zero_le _) ⟨qz_0_ok, hXr, fun i hi => absurd hi (Nat.not_lt_zero i), hMr, hP, hD, hS⟩ hl
-- ===== YOUR PART ENDS =====
set_option maxHeartbeats 4000000 in
theorem lw_walk (l : Launch) (b : Addr) (xs : List Int32) : MetFree l x (headSpec (Jvm.Cond.code x code maxLocals ret :: tables_1) room_1) (lw_P b xs) (fun _ _ _ _ _ => True) lw_Q := by
  refine MetFree.of_bodyS (code := code) (maxLocals := maxLocals) (ret := ret) (by decide) ?_ ?_
  · intro args s m h hn
    obtain ⟨meth, c, h1, h2, h3, h4, h5, h6, -, -⟩ := Cond.code_spec hn (atoms_spec (ws := Jvm.Cond.code x code maxLocals ret :: tables_1) h _ List.mem_cons_self)
    exact ⟨meth, c, h1, h2, h3, h4, h5, h6⟩
  · intro p e s m args below meth c s₁ B hml0 hP _
    obtain ⟨rfl, hx, hbd, hgv⟩ := hP
    obtain ⟨scr, harrAt, hlist, hof, hsmall⟩ := hx
    obtain ⟨hcb, hkn, -, -⟩ := State.arrayAt?_spec harrAt
    have hown : s.vm.findClass R_law = some m.cls := findClass_of_methodNamed B.named
    have hts0 : ∀ c ∈ (Jvm.Cond.code x code maxLocals ret :: tables_1), c.before #[Value.ref b] s = true := atoms_spec (ws := Jvm.Cond.code x code maxLocals ret :: tables_1) B.pre
    have hts : ∀ w ∈ lw_tbl, w.before #[Value.ref b] s = true := k2_hts_sels lw_privs (fun w hw => hts0 w (List.mem_cons_of_mem _ hw)) lw_privs_ok
    have hml : c.maxLocals = 4 := B.maxLocals_eq (hts0 _ List.mem_cons_self)
    have X₀ : Stand p l e room_1 s m #[Value.ref b] below meth c s₁ [] 0 0 := Stand.of_body B
    have hh0 : s₁.heap = s.heap := by rw [B.state]; rfl
    have hsz : scr.slots.size = xs.length := by rw [← Array.length_toList, hlist, List.length_map]
    have hval : ∀ j : Nat, j < xs.length → scr.slots[j]? = some (.int (xs.getD j 0)) := fun j hj => by
      rw [← Array.getElem?_toList, hlist]
      simp [hj]
    have hbl : b < s.heap.size := (Array.getElem?_eq_some_iff.mp hcb).1
    have hX : va_X b xs.length (fun j => xs.getD j 0) s s.heap := ⟨scr, hcb, hof, hkn, hsz, hval⟩
    have K : W p l e room_1 s m #[Value.ref b] below meth c s₁.heap [] 0 0 (lw_Z below #[Value.ref b] s) (entryFrame m ([Value.ref b] : List Value).toArray 4) := by
      rw [hh0]
      exact whole_start l hbd ⟨B.exec, B.bytes, B.returns, hml, hown, hts, hX, hbl, B.notSynchronized, hgv⟩
    obtain ⟨t, a1, o, b1, b2, b3⟩ := K s₁ rfl X₀
    exact ⟨t, o, a1, b1, b2, b3⟩
theorem lw_pre_spec {args : Array Value} {s : State} (h : (Jvm.Cond.and given_1 narrow_1).before args s = true) (hr : rest_1_c.before args s = true) : ∃ (b : Addr) (xs : List Int32), lw_P b xs args s := by
  have hs := flat_of_before _ h
  have hq := flat_of_before _ hr
  have hc : (Cond.count 1).before args s = true := hs _ (by decide +kernel)
  have harr : (Cond.arrayOf (.arg 0) .int).before args s = true := hs _ (by decide +kernel)
  have hle : (Cond.le (.length (.arg 0)) (.int 2560)).before args s = true := hs _ (by decide +kernel)
  have hlen : (Cond.isInt (.length (.arg 0))).before args s = true := hq _ (by decide +kernel)
  have hall : (Cond.all (.arg 0) (.isInt (.elem (.arg 0) (.index 0)))).before args s = true := hq _ (by decide +kernel)
  obtain ⟨b, xs, hb, hx⟩ := State.ints_of_pre rfl harr hlen hall
  have hsm : xs.length < 2 ^ 31 := hx.choose_spec.2.2.2
  have hev : (Term.length (.arg 0)).eval args s none [] s = some (.int xs.length.toInt32) := hx.length_eval hb
  have hv := Cond.le_ints hev (show (Term.int 2560).eval args s none [] s = some (.int 2560) from rfl)
  have hd : xs.length.toInt32 ≤ 2560 := by
    simpa [Cond.before, Cond.holds, hv] using hle
  have hN : xs.length ≤ 2560 := (Int32.ofNat_le_ofNat hsm (by decide)).mp (show Int32.ofNat xs.length ≤ Int32.ofNat 2560 from hd)
  exact ⟨b, xs, Cond.one_arg hc (show args[0]? = some (.ref b) from hb), hx, hN, h⟩
theorem lw_comes (l : Launch) : Comes l x (Jvm.Cond.code x code maxLocals ret :: tables_1) room_1 (fun tb e args s => Calls_1 tb e args s ∧ rest_1 tb e args s ∧ Pre_1 tb e args s)
    (fun _ _ args s o t => lw_Q args s o t) := by
  intro p e ha hc hk s m args below hf hfit hheap happ hpre
  obtain ⟨b, xs, hP⟩ := lw_pre_spec hpre.2.2 hpre.2.1
  obtain ⟨k, o, h1, h2, h3, hQ⟩ := lw_walk l b xs p e ha hc hk s m args below hf ((Spec.applies_iff_loose hf).mp happ).1 hP trivial
  exact ⟨k, o, h1, h2, h3, hQ⟩
theorem lw_frame {s t : State} {o : Outcome} {args : Array Value} (h : Framed s o t [] 600000 7302250) :
    Framed s o t (fieldLocs frame_1_writes args s ++ arrayLocs frame_1_arrays args s ++ staticLocs frame_1_statics s) 600000 7302250 := h
theorem lw_limb (L : Cond) (hL : ∀ (args : Array Value) (s t : State), L.after args s (.returned (some (.int 1))) t = true) :
    ArmFor flags0 classFile x code maxLocals ret World_1 tables_1 room_1 Calls_1 rest_1 Pre_1
      (fun tb e a s o t => postC L tb e a s o t ∧ Framed s o t (fieldLocs frame_1_writes a s ++ arrayLocs frame_1_arrays a s ++ staticLocs frame_1_statics s) 600000 7302250) := by
  intro l _ _ _ p e ha hc hk s m args below hf hfit hheap happ hpre
  obtain ⟨k, o, h1, h2, h3, rfl, hF⟩ := lw_comes l p e ha hc hk s m args below hf hfit hheap happ hpre
  exact ⟨k, _, h1, h2, h3, hL args s _, lw_frame hF⟩
theorem i_vc : Claimed_1_1 ∧ Claimed_1_2 := ⟨lw_limb limb_1_1 (fun args s t => by simp [limb_1_1, Cond.after, Cond.holds, Cond.value]), lw_limb limb_1_2 (fun args s t => Cond.after_iff.mpr (by
  first | (rw [show limb_1_2 = Cond.eq .result (.int 1) from rfl, Cond.eq_ints (x := 1) (y := 1) rfl rfl]; simp; done) | (simp [limb_1_2, Cond.value, Term.eval]; done)))⟩
