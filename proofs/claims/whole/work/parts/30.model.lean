set_option maxHeartbeats 4000000 in
set_option maxRecDepth 100000 in
/-- the reference: count -/
theorem qc_M_count (l : Launch) (G : qG) (h0 : Nat) (th : Int32) (nr : Nat) (qw : Nat) (qx : Nat) (qz : Nat) (qb : Nat) (qh : Nat) (qd : Nat) (kn : Nat) (nc : Nat) (ql : Nat) (qg : Nat) (cur : Nat) (qs : Nat) (qm : Nat) (qt : Nat) (fz : Nat → Int32) (n : Nat) (hz : fz 10 = nI n) : Met l yX6_count wsX6_count ({ frames := 0, cells := 0, slots := 0, locals := 0 } : Room) (va_Pc [.ref h0] (qk_pre G vwCl [(h0, .inr (6, [.int th, .int (nI nr), .ref qw, .ref qx, .ref qz, .ref qb, .ref qh, .ref qd, .int (nI kn), .int (nI nc), .ref ql, .ref qg, .int (nI cur), .ref qs, .ref qm, .ref qt])), (qz, .inl (G.2.1, 11, .inl fz))])) (vp_Si (fun r => r = nI n)) 0 0 (fun _ => False) := by
  refine Met.ofW (cc := cX6_count) (maxL := 1) (ret := (some .int)) (by decide) rfl ?_
  intro p e s m args below meth c s₁ B hml hv
  obtain ⟨rfl, hP, hK, hN⟩ := hv
  have hx := B.exec
  have hb := B.bytes
  have hr := B.returns
  have hlocks := B.notSynchronized
  have hts := atoms_spec (ws := wsX6_count) B.pre
  have htb := fun (w : Cond) (h : w ∈ qTb) => hts w (List.mem_cons_of_mem _ h)
  have hown : s.vm.findClass "GradeRowsModel" = some m.cls := findClass_of_methodNamed B.named
  have hP : va_P G.1 vwCl [(h0, .inr (6, [.int th, .int (nI nr), .ref qw, .ref qx, .ref qz, .ref qb, .ref qh, .ref qd, .int (nI kn), .int (nI nc), .ref ql, .ref qg, .int (nI cur), .ref qs, .ref qm, .ref qt])), (qz, .inl (G.2.1, 11, .inl fz))] s.heap := hP
  have hl := lv_entry ([.ref h0]) (n := 1) (Nat.le_of_ble_eq_true rfl)
  rw [lg_entry_eq]
  generalize (lg_sl ([.ref h0]) ++ List.replicate (1 - (lg_sl ([.ref h0])).length) Slot.unset).toArray = ls at hl ⊢
  have hl : lv_has ls 1 [(0, .ref h0)] := hl
  refine lv_aload_n hx hb dX6_count_0 rfl (lv_at hl 0 rfl) ?_
  refine va_get (D := G.1) (ci := 6) (v := .ref qz) (C := "GradeRowsModel") (T := TX6) (N := 16) hx hb htb inX6 hown hK hP 0 rfl rfl 4 (by decide) (htb _ qw_437) (fun _ h9 => h9) rfl dX6_count_1 ?_
  refine lv_bipush (v := nI 10) hx hb dX6_count_4 (by decide) ?_
  refine qk_iald hx hb hK hP 1 0 rfl rfl (i := 10) (by omega) (by omega) (v := nI n) hz dX6_count_6 ?_
  exact W.iret (v := nI n) hx hb hr (fun t9 ht9 hW9 => ⟨_, rfl, rfl, ht9⟩) (fun q h => absurd h List.not_mem_nil) dX6_count_7

set_option maxHeartbeats 4000000 in
set_option maxRecDepth 100000 in
/-- the reference: way -/
theorem qc_M_way (l : Launch) (G : qG) (x : Int64) (y : Int64)  : Met l yX6_way wsX6_way ({ frames := 0, cells := 0, slots := 0, locals := 0 } : Room) (va_Pc [.long x, .long y] (qk_pre G vwCl [])) (vp_Si (fun r => qm_sg x y r)) 0 0 (fun _ => False) := by
  refine Met.ofW (cc := cX6_way) (maxL := 4) (ret := (some .int)) (by decide) rfl ?_
  intro p e s m args below meth c s₁ B hml hv
  obtain ⟨rfl, hP, hK, hN⟩ := hv
  have hx := B.exec
  have hb := B.bytes
  have hr := B.returns
  have hlocks := B.notSynchronized
  have hts := atoms_spec (ws := wsX6_way) B.pre
  have htb := fun (w : Cond) (h : w ∈ qTb) => hts w (List.mem_cons_of_mem _ h)
  have hown : s.vm.findClass "GradeRowsModel" = some m.cls := findClass_of_methodNamed B.named
  have hP : va_P G.1 vwCl [] s.heap := hP
  have hl := lv_entry ([.long x, .long y]) (n := 4) (Nat.le_of_ble_eq_true rfl)
  rw [lg_entry_eq]
  generalize (lg_sl ([.long x, .long y]) ++ List.replicate (4 - (lg_sl ([.long x, .long y])).length) Slot.unset).toArray = ls at hl ⊢
  have hl : lv_has ls 4 [(0, .long x), (2, .long y)] := hl
  refine lv_lload_n hx hb dX6_way_0 rfl (lv_at hl 0 rfl) ?_
  refine lv_lload_n hx hb dX6_way_1 rfl (lv_at hl 1 rfl) ?_
  refine W.lcmp hx hb dX6_way_2 ?_
  refine lv_if_ge (tgt := 10) hx hb dX6_way_3 (by decide) (fun c1 => ?_) (fun c1 => ?_)
  · have c1 : y ≤ x := (lg_cmp_ge _ _).mp c1
    refine lv_lload_n hx hb dX6_way_10 rfl (lv_at hl 0 rfl) ?_
    refine lv_lload_n hx hb dX6_way_11 rfl (lv_at hl 1 rfl) ?_
    refine W.lcmp hx hb dX6_way_12 ?_
    refine lv_if_le (tgt := 20) hx hb dX6_way_13 (by decide) (fun c2 => ?_) (fun c2 => ?_)
    · have c2 : x ≤ y := (lg_cmp_le _ _).mp c2
      refine lv_iconst (v := nI 0) hx hb dX6_way_20 (by decide) ?_
      exact W.iret (v := nI 0) hx hb hr (fun t9 ht9 hW9 => ⟨_, rfl, Or.inr (Or.inl ⟨by rw [Int64.le_iff_toInt_le] at c1 c2; rw [← Int64.toInt_inj]; omega, rfl⟩), ht9⟩) (fun q h => absurd h List.not_mem_nil) dX6_way_21
    · have c2 : ¬ (x ≤ y) := fun q9 => c2 ((lg_cmp_le _ _).mpr q9)
      refine lv_iconst (v := nI 1) hx hb dX6_way_16 (by decide) ?_
      refine lv_goto (tgt := 21) hx hb dX6_way_17 (by decide) ?_
      exact W.iret (v := nI 1) hx hb hr (fun t9 ht9 hW9 => ⟨_, rfl, Or.inr (Or.inr ⟨by rw [Int64.le_iff_toInt_le] at c2; rw [Int64.lt_iff_toInt_lt]; omega, rfl⟩), ht9⟩) (fun q h => absurd h List.not_mem_nil) dX6_way_21
  · have c1 : ¬ (y ≤ x) := fun q9 => c1 ((lg_cmp_ge _ _).mpr q9)
    refine lv_iconst (v := (-1)) hx hb dX6_way_6 (by decide) ?_
    refine lv_goto (tgt := 21) hx hb dX6_way_7 (by decide) ?_
    exact W.iret (v := (-1)) hx hb hr (fun t9 ht9 hW9 => ⟨_, rfl, Or.inl ⟨by rw [Int64.le_iff_toInt_le] at c1; rw [Int64.lt_iff_toInt_lt]; omega, rfl⟩, ht9⟩) (fun q h => absurd h List.not_mem_nil) dX6_way_21

set_option maxHeartbeats 4000000 in
set_option maxRecDepth 100000 in
/-- the reference: costOf -/
theorem qc_M_cost (l : Launch) (G : qG) (h0 : Nat) (th : Int32) (nr : Nat) (qw : Nat) (qx : Nat) (qz : Nat) (qb : Nat) (qh : Nat) (qd : Nat) (kn : Nat) (nc : Nat) (ql : Nat) (qg : Nat) (cur : Nat) (qs : Nat) (qm : Nat) (qt : Nat) (fw : Nat → Int32) (fx : Nat → Int32) (fb : Nat → Int32) (fh : Nat → Int32) (fd : Nat → Int32) (w : Nat → Nat) (x : Nat → Nat) (row : Nat) (sq : Nat → qS) (k : Nat) (hrow : row ≤ 10) (hR : qm_okR nr w x) (hw : ∀ i, i < nr → fw i = nI (w i) ∧ fx i = nI (x i)) (hk : k < 200) (hs : ∀ j, j ≤ k → fb (200 * row + j) = nM (sq j).1 ∧ fh (200 * row + j) = nI (sq j).2.1 ∧ fd (200 * row + j) = nI (sq j).2.2) (ho : ∀ j, j ≤ k → qm_okS nr (sq j)) : Met l yX6_costOf wsX6_costOf ({ frames := 0, cells := 0, slots := 0, locals := 0 } : Room) (va_Pc [.ref h0, .int (nI row), .int (nI k)] (qk_pre G vwCl [(h0, .inr (6, [.int th, .int (nI nr), .ref qw, .ref qx, .ref qz, .ref qb, .ref qh, .ref qd, .int (nI kn), .int (nI nc), .ref ql, .ref qg, .int (nI cur), .ref qs, .ref qm, .ref qt])), (qw, .inl (G.2.1, 40, .inl fw)), (qx, .inl (G.2.1, 40, .inl fx)), (qb, .inl (G.2.1, 2200, .inl fb)), (qh, .inl (G.2.1, 2200, .inl fh)), (qd, .inl (G.2.1, 2200, .inl fd))])) (vp_Sl (fun r => r = lN (qm_cost w x sq k))) 0 0 (fun _ => False) := by
  refine Met.ofW (cc := cX6_costOf) (maxL := 7) (ret := (some .long)) (by decide) rfl ?_
  intro p e s m args below meth c s₁ B hml hv
  obtain ⟨rfl, hP, hK, hN⟩ := hv
  have hx := B.exec
  have hb := B.bytes
  have hr := B.returns
  have hlocks := B.notSynchronized
  have hts := atoms_spec (ws := wsX6_costOf) B.pre
  have htb := fun (w : Cond) (h : w ∈ qTb) => hts w (List.mem_cons_of_mem _ h)
  have hown : s.vm.findClass "GradeRowsModel" = some m.cls := findClass_of_methodNamed B.named
  have hP : va_P G.1 vwCl [(h0, .inr (6, [.int th, .int (nI nr), .ref qw, .ref qx, .ref qz, .ref qb, .ref qh, .ref qd, .int (nI kn), .int (nI nc), .ref ql, .ref qg, .int (nI cur), .ref qs, .ref qm, .ref qt])), (qw, .inl (G.2.1, 40, .inl fw)), (qx, .inl (G.2.1, 40, .inl fx)), (qb, .inl (G.2.1, 2200, .inl fb)), (qh, .inl (G.2.1, 2200, .inl fh)), (qd, .inl (G.2.1, 2200, .inl fd))] s.heap := hP
  have hl := lv_entry ([.ref h0, .int (nI row), .int (nI k)]) (n := 7) (Nat.le_of_ble_eq_true rfl)
  rw [lg_entry_eq]
  generalize (lg_sl ([.ref h0, .int (nI row), .int (nI k)]) ++ List.replicate (7 - (lg_sl ([.ref h0, .int (nI row), .int (nI k)])).length) Slot.unset).toArray = ls at hl ⊢
  have hl : lv_has ls 7 [(0, .ref h0), (1, .int (nI row)), (2, .int (nI k))] := hl
  have hokk := ho k (Nat.le_refl k)
  have hr40 := hR.1
  have hz1 : (sq k).1 ≤ 40 := by rcases hokk with h | h <;> omega
  have hz2 : (sq k).2.1 ≤ 255 := by rcases hokk with h | h <;> omega
  have hsk := hs k (Nat.le_refl k)
  refine lv_sipush (v := nI 200) hx hb dX6_costOf_0 (by decide) ?_
  refine lv_iload_n hx hb dX6_costOf_3 rfl (lv_at hl 1 rfl) ?_
  refine lv_imul hx hb dX6_costOf_4 ?_
  refine qk_topi (t := nI (200 * row)) (pk_mul _ _) ?_
  refine lv_iload_n hx hb dX6_costOf_5 rfl (lv_at hl 2 rfl) ?_
  refine lv_iadd hx hb dX6_costOf_6 ?_
  refine qk_topi (t := nI ((200 * row) + k)) ((nI_add _ _).trans rfl) ?_
  refine lv_istore_n (lv' := [(3, .int (nI ((200 * row) + k))), (0, .ref h0), (1, .int (nI row)), (2, .int (nI k))]) hx hb dX6_costOf_7 rfl hl (by decide) rfl (fun ls hl => ?_)
  refine lv_aload_n hx hb dX6_costOf_8 rfl (lv_at hl 1 rfl) ?_
  refine va_get (D := G.1) (ci := 6) (v := .ref qb) (C := "GradeRowsModel") (T := TX6) (N := 16) hx hb htb inX6 hown hK hP 0 rfl rfl 5 (by decide) (htb _ qw_438) (fun _ h9 => h9) rfl dX6_costOf_9 ?_
  refine lv_iload_n hx hb dX6_costOf_12 rfl (lv_at hl 0 rfl) ?_
  refine qk_iald hx hb hK hP 3 0 rfl rfl (i := ((200 * row) + k)) (by omega) (by omega) (v := nM (sq k).1) hsk.1 dX6_costOf_13 ?_
  refine lv_iconst (v := (-1)) hx hb dX6_costOf_14 (by decide) ?_
  refine lv_icmp_ne (tgt := 53) hx hb dX6_costOf_15 (by decide) (fun cg => ?_) (fun cg => ?_)
  · have cg : ¬ ((sq k).1 = 0) := fun q9 => cg ((nM_eq1 (by omega)).mpr q9)
    have hok1 : 1 ≤ (sq k).1 ∧ (sq k).1 ≤ nr ∧ (sq k).2.2 ≤ 9 := by rcases hokk with h | h <;> omega
    have hmm := qm_w_le hR (b := (sq k).2.2) hok1.1 hok1.2.1
    have hwk := hw ((sq k).1 - 1) (by omega)
    have hxk := (hR.2 ((sq k).1 - 1) (by omega))
    refine lv_iconst (v := nI 1) hx hb dX6_costOf_53 (by decide) ?_
    refine qk_topi (t := if qm_cnt (qm_rs sq) 0 (sq k).1 = 0 then nI 1 else nI 0) (if_pos rfl).symm ?_
    refine lv_istore (lv' := [(4, .int (if qm_cnt (qm_rs sq) 0 (sq k).1 = 0 then nI 1 else nI 0)), (3, .int (nI ((200 * row) + k))), (0, .ref h0), (1, .int (nI row)), (2, .int (nI k))]) hx hb dX6_costOf_54 hl (by decide) rfl (fun ls hl => ?_)
    refine lv_iconst (v := nI 0) hx hb dX6_costOf_56 (by decide) ?_
    refine lv_istore (lv' := [(5, .int (nI 0)), (4, .int (if qm_cnt (qm_rs sq) 0 (sq k).1 = 0 then nI 1 else nI 0)), (3, .int (nI ((200 * row) + k))), (0, .ref h0), (1, .int (nI row)), (2, .int (nI k))]) hx hb dX6_costOf_57 hl (by decide) rfl (fun ls hl => ?_)
    have loop_59 : ∀ (N : Nat) (j : Nat) (ls : Array Slot), k - j < N → (j ≤ k) → lv_has ls 7 [(5, .int (nI j)), (4, .int (if qm_cnt (qm_rs sq) j (sq k).1 = 0 then nI 1 else nI 0)), (3, .int (nI (200 * row + k))), (0, .ref h0), (1, .int (nI row)), (2, .int (nI k))] → W p l e (headSpec wsX6_costOf ({ frames := 0, cells := 0, slots := 0, locals := 0 } : Room)).room s m ([.ref h0, .int (nI row), .int (nI k)] : List Value).toArray below meth c s.heap [] 0 0 (MQ below (vp_Sl (fun r => r = lN (qm_cost w x sq k))) ([.ref h0, .int (nI row), .int (nI k)] : List Value).toArray s 0 0 (fun _ => False)) (F0 m 59 ls []) := by
      intro N
      induction N with
      | zero => intro j ls hm; exact absurd hm (Nat.not_lt_zero _)
      | succ N ih_59 =>
        intro j ls hm hj hl
        refine lv_iload hx hb dX6_costOf_59 (lv_at hl 0 rfl) ?_
        refine lv_iload_n hx hb dX6_costOf_61 rfl (lv_at hl 5 rfl) ?_
        refine lv_icmp_ge (tgt := 105) hx hb dX6_costOf_62 (by decide) (fun c_2 => ?_) (fun c_2 => ?_)
        · have c_2 : k ≤ j := (nI_leI (by omega) (by omega)).mp c_2
          refine lv_aload_n hx hb dX6_costOf_105 rfl (lv_at hl 3 rfl) ?_
          refine va_get (D := G.1) (ci := 6) (v := .ref qw) (C := "GradeRowsModel") (T := TX6) (N := 16) hx hb htb inX6 hown hK hP 0 rfl rfl 2 (by decide) (htb _ qw_435) (fun _ h9 => h9) rfl dX6_costOf_106 ?_
          refine lv_aload_n hx hb dX6_costOf_109 rfl (lv_at hl 3 rfl) ?_
          refine va_get (D := G.1) (ci := 6) (v := .ref qb) (C := "GradeRowsModel") (T := TX6) (N := 16) hx hb htb inX6 hown hK hP 0 rfl rfl 5 (by decide) (htb _ qw_438) (fun _ h9 => h9) rfl dX6_costOf_110 ?_
          refine lv_iload_n hx hb dX6_costOf_113 rfl (lv_at hl 2 rfl) ?_
          refine qk_iald hx hb hK hP 3 0 rfl rfl (i := (200 * row + k)) (by omega) (by omega) (v := nI ((sq k).1 - 1)) (hsk.1.trans (nM_p (by omega))) dX6_costOf_114 ?_
          refine qk_iald hx hb hK hP 1 0 rfl rfl (i := ((sq k).1 - 1)) (by omega) (by omega) (v := nI (w ((sq k).1 - 1))) hwk.1 dX6_costOf_115 ?_
          refine lv_i2l (v := lN (w ((sq k).1 - 1))) hx hb dX6_costOf_116 (nI_l (by omega)) ?_
          refine lv_bipush (v := nI 12) hx hb dX6_costOf_117 (by decide) ?_
          refine lv_aload_n hx hb dX6_costOf_119 rfl (lv_at hl 3 rfl) ?_
          refine va_get (D := G.1) (ci := 6) (v := .ref qd) (C := "GradeRowsModel") (T := TX6) (N := 16) hx hb htb inX6 hown hK hP 0 rfl rfl 7 (by decide) (htb _ qw_440) (fun _ h9 => h9) rfl dX6_costOf_120 ?_
          refine lv_iload_n hx hb dX6_costOf_123 rfl (lv_at hl 2 rfl) ?_
          refine qk_iald hx hb hK hP 5 0 rfl rfl (i := (200 * row + k)) (by omega) (by omega) (v := nI (sq k).2.2) hsk.2.2 dX6_costOf_124 ?_
          refine lv_isub hx hb dX6_costOf_125 ?_
          refine qk_topi (t := nI (12 - (sq k).2.2)) (pk_sub (by omega)) ?_
          refine lv_i2l (v := lN (12 - (sq k).2.2)) hx hb dX6_costOf_126 (nI_l (by omega)) ?_
          refine lv_lmul hx hb dX6_costOf_127 ?_
          refine qk_topl (t := lN ((w ((sq k).1 - 1)) * (12 - (sq k).2.2))) (lN_mul _ _) ?_
          refine lv_ldc2 (v := 4) hx hb hown (htb _ qw_517) dX6_costOf_128 ?_
          refine qk_topl (t := lN 4) (by decide) ?_
          refine lv_ldiv hx hb dX6_costOf_131 (by decide) ?_
          refine qk_topl (t := lN (((w ((sq k).1 - 1)) * (12 - (sq k).2.2)) / 4)) (pk_lDiv (by omega) (by omega) (by omega)) ?_
          refine lv_lstore (lv' := [(5, .long (lN (((w ((sq k).1 - 1)) * (12 - (sq k).2.2)) / 4))), (4, .int (if qm_cnt (qm_rs sq) j (sq k).1 = 0 then nI 1 else nI 0)), (3, .int (nI (200 * row + k))), (0, .ref h0), (1, .int (nI row)), (2, .int (nI k))]) hx hb dX6_costOf_132 hl (by decide) rfl (fun ls hl => ?_)
          refine lv_iload hx hb dX6_costOf_134 (lv_at hl 1 rfl) ?_
          refine lv_if_eq (tgt := 157) hx hb dX6_costOf_136 (by decide) (fun cf => ?_) (fun cf => ?_)
          · have cf : ¬ (qm_cnt (qm_rs sq) j (sq k).1 = 0) := fun q9 => qk_ite0.mpr q9 cf
            refine lv_lload hx hb dX6_costOf_157 (lv_at hl 0 rfl) ?_
            exact W.lret (v := lN (((w ((sq k).1 - 1)) * (12 - (sq k).2.2)) / 4)) hx hb hr (fun t9 ht9 hW9 => ⟨_, rfl, by unfold qm_cost; rw [show j = k by omega] at cf; rw [if_neg (by omega), if_neg cf, Nat.add_zero], ht9⟩) (fun q h => absurd h List.not_mem_nil) dX6_costOf_159
          · have cf : qm_cnt (qm_rs sq) j (sq k).1 = 0 := qk_ite0.mp cf
            refine lv_lload hx hb dX6_costOf_139 (lv_at hl 0 rfl) ?_
            refine lv_aload_n hx hb dX6_costOf_141 rfl (lv_at hl 3 rfl) ?_
            refine va_get (D := G.1) (ci := 6) (v := .ref qx) (C := "GradeRowsModel") (T := TX6) (N := 16) hx hb htb inX6 hown hK hP 0 rfl rfl 3 (by decide) (htb _ qw_436) (fun _ h9 => h9) rfl dX6_costOf_142 ?_
            refine lv_aload_n hx hb dX6_costOf_145 rfl (lv_at hl 3 rfl) ?_
            refine va_get (D := G.1) (ci := 6) (v := .ref qb) (C := "GradeRowsModel") (T := TX6) (N := 16) hx hb htb inX6 hown hK hP 0 rfl rfl 5 (by decide) (htb _ qw_438) (fun _ h9 => h9) rfl dX6_costOf_146 ?_
            refine lv_iload_n hx hb dX6_costOf_149 rfl (lv_at hl 2 rfl) ?_
            refine qk_iald hx hb hK hP 3 0 rfl rfl (i := (200 * row + k)) (by omega) (by omega) (v := nI ((sq k).1 - 1)) (hsk.1.trans (nM_p (by omega))) dX6_costOf_150 ?_
            refine qk_iald hx hb hK hP 2 0 rfl rfl (i := ((sq k).1 - 1)) (by omega) (by omega) (v := nI (x ((sq k).1 - 1))) hwk.2 dX6_costOf_151 ?_
            refine lv_i2l (v := lN (x ((sq k).1 - 1))) hx hb dX6_costOf_152 (nI_l (by omega)) ?_
            refine lv_ladd hx hb dX6_costOf_153 ?_
            refine qk_topl (t := lN ((((w ((sq k).1 - 1)) * (12 - (sq k).2.2)) / 4) + (x ((sq k).1 - 1)))) ((lN_add _ _).trans rfl) ?_
            refine lv_goto (tgt := 159) hx hb dX6_costOf_154 (by decide) ?_
            exact W.lret (v := lN ((((w ((sq k).1 - 1)) * (12 - (sq k).2.2)) / 4) + (x ((sq k).1 - 1)))) hx hb hr (fun t9 ht9 hW9 => ⟨_, rfl, by unfold qm_cost; rw [show j = k by omega] at cf; rw [if_neg (by omega), if_pos cf], ht9⟩) (fun q h => absurd h List.not_mem_nil) dX6_costOf_159
        · have c_2 : ¬ (k ≤ j) := fun q9 => c_2 ((nI_leI (by omega) (by omega)).mpr q9)
          refine lv_iload hx hb dX6_costOf_65 (lv_at hl 1 rfl) ?_
          refine lv_if_eq (tgt := 96) hx hb dX6_costOf_67 (by decide) (fun c1 => ?_) (fun c1 => ?_)
          · have c1 : ¬ (qm_cnt (qm_rs sq) j (sq k).1 = 0) := fun q9 => qk_ite0.mpr q9 c1
            refine lv_iconst (v := nI 0) hx hb dX6_costOf_96 (by decide) ?_
            refine qk_topi (t := if qm_cnt (qm_rs sq) (j + 1) (sq k).1 = 0 then nI 1 else nI 0) (if_neg (qm_cnt_s1 (by first | exact Or.inl c1 | exact Or.inr c2))).symm ?_
            refine lv_istore (lv' := [(4, .int (if qm_cnt (qm_rs sq) (j + 1) (sq k).1 = 0 then nI 1 else nI 0)), (5, .int (nI j)), (3, .int (nI (200 * row + k))), (0, .ref h0), (1, .int (nI row)), (2, .int (nI k))]) hx hb dX6_costOf_97 hl (by decide) rfl (fun ls hl => ?_)
            refine lv_iinc (v := nI (j + 1)) (lv' := [(5, .int (nI (j + 1))), (4, .int (if qm_cnt (qm_rs sq) (j + 1) (sq k).1 = 0 then nI 1 else nI 0)), (3, .int (nI (200 * row + k))), (0, .ref h0), (1, .int (nI row)), (2, .int (nI k))]) hx hb dX6_costOf_99 hl (k := 1) rfl (nI_1 j) (by decide) rfl (fun ls hl => ?_)
            refine lv_goto (tgt := 59) hx hb dX6_costOf_102 (by decide) ?_
            exact ih_59 (j + 1) ls (by omega) (by omega) (lv_sub hl [0, 1, 2, 3, 4, 5] rfl)
          · have c1 : qm_cnt (qm_rs sq) j (sq k).1 = 0 := qk_ite0.mp c1
            refine lv_aload_n hx hb dX6_costOf_70 rfl (lv_at hl 3 rfl) ?_
            refine va_get (D := G.1) (ci := 6) (v := .ref qb) (C := "GradeRowsModel") (T := TX6) (N := 16) hx hb htb inX6 hown hK hP 0 rfl rfl 5 (by decide) (htb _ qw_438) (fun _ h9 => h9) rfl dX6_costOf_71 ?_
            refine lv_sipush (v := nI 200) hx hb dX6_costOf_74 (by decide) ?_
            refine lv_iload_n hx hb dX6_costOf_77 rfl (lv_at hl 4 rfl) ?_
            refine lv_imul hx hb dX6_costOf_78 ?_
            refine qk_topi (t := nI (200 * row)) (pk_mul _ _) ?_
            refine lv_iload hx hb dX6_costOf_79 (lv_at hl 0 rfl) ?_
            refine lv_iadd hx hb dX6_costOf_81 ?_
            refine qk_topi (t := nI ((200 * row) + j)) ((nI_add _ _).trans rfl) ?_
            have hz4 : (sq j).1 ≤ 40 := by rcases ho j (by omega) with h | h <;> omega
            refine qk_iald hx hb hK hP 3 0 rfl rfl (i := ((200 * row) + j)) (by omega) (by omega) (v := nM (sq j).1) (hs j (by omega)).1 dX6_costOf_82 ?_
            refine lv_aload_n hx hb dX6_costOf_83 rfl (lv_at hl 3 rfl) ?_
            refine va_get (D := G.1) (ci := 6) (v := .ref qb) (C := "GradeRowsModel") (T := TX6) (N := 16) hx hb htb inX6 hown hK hP 0 rfl rfl 5 (by decide) (htb _ qw_438) (fun _ h9 => h9) rfl dX6_costOf_84 ?_
            refine lv_iload_n hx hb dX6_costOf_87 rfl (lv_at hl 2 rfl) ?_
            refine qk_iald hx hb hK hP 3 0 rfl rfl (i := (200 * row + k)) (by omega) (by omega) (v := nM (sq k).1) hsk.1 dX6_costOf_88 ?_
            refine lv_icmp_eq (tgt := 96) hx hb dX6_costOf_89 (by decide) (fun c2 => ?_) (fun c2 => ?_)
            · have c2 : (sq j).1 = (sq k).1 := (nM_eq (by omega) (by omega)).mp c2
              refine lv_iconst (v := nI 0) hx hb dX6_costOf_96 (by decide) ?_
              refine qk_topi (t := if qm_cnt (qm_rs sq) (j + 1) (sq k).1 = 0 then nI 1 else nI 0) (if_neg (qm_cnt_s1 (by first | exact Or.inl c1 | exact Or.inr c2))).symm ?_
              refine lv_istore (lv' := [(4, .int (if qm_cnt (qm_rs sq) (j + 1) (sq k).1 = 0 then nI 1 else nI 0)), (5, .int (nI j)), (3, .int (nI (200 * row + k))), (0, .ref h0), (1, .int (nI row)), (2, .int (nI k))]) hx hb dX6_costOf_97 hl (by decide) rfl (fun ls hl => ?_)
              refine lv_iinc (v := nI (j + 1)) (lv' := [(5, .int (nI (j + 1))), (4, .int (if qm_cnt (qm_rs sq) (j + 1) (sq k).1 = 0 then nI 1 else nI 0)), (3, .int (nI (200 * row + k))), (0, .ref h0), (1, .int (nI row)), (2, .int (nI k))]) hx hb dX6_costOf_99 hl (k := 1) rfl (nI_1 j) (by decide) rfl (fun ls hl => ?_)
              refine lv_goto (tgt := 59) hx hb dX6_costOf_102 (by decide) ?_
              exact ih_59 (j + 1) ls (by omega) (by omega) (lv_sub hl [0, 1, 2, 3, 4, 5] rfl)
            · have c2 : ¬ ((sq j).1 = (sq k).1) := fun q9 => c2 ((nM_eq (by omega) (by omega)).mpr q9)
              refine lv_iconst (v := nI 1) hx hb dX6_costOf_92 (by decide) ?_
              refine lv_goto (tgt := 97) hx hb dX6_costOf_93 (by decide) ?_
              refine qk_topi (t := if qm_cnt (qm_rs sq) (j + 1) (sq k).1 = 0 then nI 1 else nI 0) (if_pos (qm_cnt_s0 c1 c2)).symm ?_
              refine lv_istore (lv' := [(4, .int (if qm_cnt (qm_rs sq) (j + 1) (sq k).1 = 0 then nI 1 else nI 0)), (5, .int (nI j)), (3, .int (nI (200 * row + k))), (0, .ref h0), (1, .int (nI row)), (2, .int (nI k))]) hx hb dX6_costOf_97 hl (by decide) rfl (fun ls hl => ?_)
              refine lv_iinc (v := nI (j + 1)) (lv' := [(5, .int (nI (j + 1))), (4, .int (if qm_cnt (qm_rs sq) (j + 1) (sq k).1 = 0 then nI 1 else nI 0)), (3, .int (nI (200 * row + k))), (0, .ref h0), (1, .int (nI row)), (2, .int (nI k))]) hx hb dX6_costOf_99 hl (k := 1) rfl (nI_1 j) (by decide) rfl (fun ls hl => ?_)
              refine lv_goto (tgt := 59) hx hb dX6_costOf_102 (by decide) ?_
              exact ih_59 (j + 1) ls (by omega) (by omega) (lv_sub hl [0, 1, 2, 3, 4, 5] rfl)
    exact loop_59 (k - 0 + 1) 0 ls (by omega) (Nat.zero_le k) (lv_sub hl [0, 1, 2, 3, 4, 5] rfl)
  · have cg : (sq k).1 = 0 := (nM_eq1 (by omega)).mp cg
    have cg : (sq k).1 = 0 := cg
    refine lv_ldc2 (v := 1000) hx hb hown (htb _ qw_516) dX6_costOf_18 ?_
    refine qk_topl (t := lN 1000) (by decide) ?_
    refine lv_aload_n hx hb dX6_costOf_21 rfl (lv_at hl 1 rfl) ?_
    refine va_get (D := G.1) (ci := 6) (v := .ref qh) (C := "GradeRowsModel") (T := TX6) (N := 16) hx hb htb inX6 hown hK hP 0 rfl rfl 6 (by decide) (htb _ qw_439) (fun _ h9 => h9) rfl dX6_costOf_22 ?_
    refine lv_iload_n hx hb dX6_costOf_25 rfl (lv_at hl 0 rfl) ?_
    refine qk_iald hx hb hK hP 4 0 rfl rfl (i := ((200 * row) + k)) (by omega) (by omega) (v := nI (sq k).2.1) hsk.2.1 dX6_costOf_26 ?_
    refine lv_i2l (v := lN (sq k).2.1) hx hb dX6_costOf_27 (nI_l (by omega)) ?_
    refine lv_lmul hx hb dX6_costOf_28 ?_
    refine qk_topl (t := lN (1000 * (sq k).2.1)) (lN_mul _ _) ?_
    refine lv_iload_n hx hb dX6_costOf_29 rfl (lv_at hl 3 rfl) ?_
    refine lv_if_le (tgt := 49) hx hb dX6_costOf_30 (by decide) (fun ck => ?_) (fun ck => ?_)
    · have ck : k ≤ 0 := (z0le (by omega)).mp ck
      refine lv_iconst (v := nI 1) hx hb dX6_costOf_49 (by decide) ?_
      refine lv_i2l (v := lN 1) hx hb dX6_costOf_50 (nI_l (by omega)) ?_
      refine lv_lmul hx hb dX6_costOf_51 ?_
      refine qk_topl (t := lN ((1000 * (sq k).2.1) * 1)) (lN_mul _ _) ?_
      exact W.lret (v := lN ((1000 * (sq k).2.1) * 1)) hx hb hr (fun t9 ht9 hW9 => ⟨_, rfl, by unfold qm_cost; rw [if_pos cg, if_neg (by omega)]; congr 1; omega, ht9⟩) (fun q h => absurd h List.not_mem_nil) dX6_costOf_52
    · have ck : ¬ (k ≤ 0) := fun q9 => ck ((z0le (by omega)).mpr q9)
      refine lv_aload_n hx hb dX6_costOf_33 rfl (lv_at hl 1 rfl) ?_
      refine va_get (D := G.1) (ci := 6) (v := .ref qb) (C := "GradeRowsModel") (T := TX6) (N := 16) hx hb htb inX6 hown hK hP 0 rfl rfl 5 (by decide) (htb _ qw_438) (fun _ h9 => h9) rfl dX6_costOf_34 ?_
      refine lv_iload_n hx hb dX6_costOf_37 rfl (lv_at hl 0 rfl) ?_
      refine lv_iconst (v := nI 1) hx hb dX6_costOf_38 (by decide) ?_
      refine lv_isub hx hb dX6_costOf_39 ?_
      refine qk_topi (t := nI (((200 * row) + k) - 1)) (pk_sub (by omega)) ?_
      have hz3 : (sq (k - 1)).1 ≤ 40 := by rcases ho (k - 1) (by omega) with h | h <;> omega
      refine qk_iald hx hb hK hP 3 0 rfl rfl (i := (((200 * row) + k) - 1)) (by omega) (by omega) (v := nM (sq (k - 1)).1) (by rw [show 200 * row + k - 1 = 200 * row + (k - 1) by omega]; exact (hs (k - 1) (by omega)).1) dX6_costOf_40 ?_
      refine lv_iconst (v := (-1)) hx hb dX6_costOf_41 (by decide) ?_
      refine lv_icmp_ne (tgt := 49) hx hb dX6_costOf_42 (by decide) (fun cp => ?_) (fun cp => ?_)
      · have cp : ¬ ((sq (k - 1)).1 = 0) := fun q9 => cp ((nM_eq1 (by omega)).mpr q9)
        refine lv_iconst (v := nI 1) hx hb dX6_costOf_49 (by decide) ?_
        refine lv_i2l (v := lN 1) hx hb dX6_costOf_50 (nI_l (by omega)) ?_
        refine lv_lmul hx hb dX6_costOf_51 ?_
        refine qk_topl (t := lN ((1000 * (sq k).2.1) * 1)) (lN_mul _ _) ?_
        exact W.lret (v := lN ((1000 * (sq k).2.1) * 1)) hx hb hr (fun t9 ht9 hW9 => ⟨_, rfl, by unfold qm_cost; rw [if_pos cg, if_neg (by omega)]; congr 1; omega, ht9⟩) (fun q h => absurd h List.not_mem_nil) dX6_costOf_52
      · have cp : (sq (k - 1)).1 = 0 := (nM_eq1 (by omega)).mp cp
        refine lv_iconst (v := nI 2) hx hb dX6_costOf_45 (by decide) ?_
        refine lv_goto (tgt := 50) hx hb dX6_costOf_46 (by decide) ?_
        refine lv_i2l (v := lN 2) hx hb dX6_costOf_50 (nI_l (by omega)) ?_
        refine lv_lmul hx hb dX6_costOf_51 ?_
        refine qk_topl (t := lN ((1000 * (sq k).2.1) * 2)) (lN_mul _ _) ?_
        exact W.lret (v := lN ((1000 * (sq k).2.1) * 2)) hx hb hr (fun t9 ht9 hW9 => ⟨_, rfl, by unfold qm_cost; rw [if_pos cg, if_pos ⟨by omega, cp⟩]; congr 1; omega, ht9⟩) (fun q h => absurd h List.not_mem_nil) dX6_costOf_52

set_option maxHeartbeats 4000000 in
set_option maxRecDepth 100000 in
/-- the reference: sumOf -/
theorem qc_M_sum (l : Launch) (G : qG) (h0 : Nat) (th : Int32) (nr : Nat) (qw : Nat) (qx : Nat) (qz : Nat) (qb : Nat) (qh : Nat) (qd : Nat) (kn : Nat) (nc : Nat) (ql : Nat) (qg : Nat) (cur : Nat) (qs : Nat) (qm : Nat) (qt : Nat) (fw : Nat → Int32) (fx : Nat → Int32) (fb : Nat → Int32) (fh : Nat → Int32) (fd : Nat → Int32) (w : Nat → Nat) (x : Nat → Nat) (row : Nat) (sq : Nat → qS) (fz : Nat → Int32) (z : Nat) (n : Nat) (hrow : row ≤ 10) (hR : qm_okR nr w x) (hw : ∀ i, i < nr → fw i = nI (w i) ∧ fx i = nI (x i)) (hz : z ≤ 200) (hs : ∀ j, j < z → fb (200 * row + j) = nM (sq j).1 ∧ fh (200 * row + j) = nI (sq j).2.1 ∧ fd (200 * row + j) = nI (sq j).2.2) (ho : ∀ j, j < z → qm_okS nr (sq j)) (hzr : fz row = nI z) (hn : n < 2 ^ 31) : Met l yX6_sumOf wsX6_sumOf ({ frames := 1, cells := 0, slots := 0, locals := 26 } : Room) (va_Pc [.ref h0, .int (nI row), .int (nI n)] (qk_pre G vwCl [(h0, .inr (6, [.int th, .int (nI nr), .ref qw, .ref qx, .ref qz, .ref qb, .ref qh, .ref qd, .int (nI kn), .int (nI nc), .ref ql, .ref qg, .int (nI cur), .ref qs, .ref qm, .ref qt])), (qw, .inl (G.2.1, 40, .inl fw)), (qx, .inl (G.2.1, 40, .inl fx)), (qb, .inl (G.2.1, 2200, .inl fb)), (qh, .inl (G.2.1, 2200, .inl fh)), (qd, .inl (G.2.1, 2200, .inl fd)), (qz, .inl (G.2.1, 11, .inl fz))])) (vp_Sl (fun r => r = lN (qm_sum (qm_cost w x sq) (if n < z then n else z)))) 0 0 (fun _ => False) := by
  refine Met.ofW (cc := cX6_sumOf) (maxL := 6) (ret := (some .long)) (by decide) rfl ?_
  intro p e s m args below meth c s₁ B hml hv
  obtain ⟨rfl, hP, hK, hN⟩ := hv
  have hx := B.exec
  have hb := B.bytes
  have hr := B.returns
  have hlocks := B.notSynchronized
  have hts := atoms_spec (ws := wsX6_sumOf) B.pre
  have htb := fun (w : Cond) (h : w ∈ qTb) => hts w (List.mem_cons_of_mem _ h)
  have hown : s.vm.findClass "GradeRowsModel" = some m.cls := findClass_of_methodNamed B.named
  have hP : va_P G.1 vwCl [(h0, .inr (6, [.int th, .int (nI nr), .ref qw, .ref qx, .ref qz, .ref qb, .ref qh, .ref qd, .int (nI kn), .int (nI nc), .ref ql, .ref qg, .int (nI cur), .ref qs, .ref qm, .ref qt])), (qw, .inl (G.2.1, 40, .inl fw)), (qx, .inl (G.2.1, 40, .inl fx)), (qb, .inl (G.2.1, 2200, .inl fb)), (qh, .inl (G.2.1, 2200, .inl fh)), (qd, .inl (G.2.1, 2200, .inl fd)), (qz, .inl (G.2.1, 11, .inl fz))] s.heap := hP
  have hl := lv_entry ([.ref h0, .int (nI row), .int (nI n)]) (n := 6) (Nat.le_of_ble_eq_true rfl)
  rw [lg_entry_eq]
  generalize (lg_sl ([.ref h0, .int (nI row), .int (nI n)]) ++ List.replicate (6 - (lg_sl ([.ref h0, .int (nI row), .int (nI n)])).length) Slot.unset).toArray = ls at hl ⊢
  have hl : lv_has ls 6 [(0, .ref h0), (1, .int (nI row)), (2, .int (nI n))] := hl
  refine lv_lconst (v := lN 0) hx hb dX6_sumOf_0 (by decide) ?_
  refine lv_lstore_n (lv' := [(3, .long (lN 0)), (0, .ref h0), (1, .int (nI row)), (2, .int (nI n))]) hx hb dX6_sumOf_1 rfl hl (by decide) rfl (fun ls hl => ?_)
  refine lv_iconst (v := nI 0) hx hb dX6_sumOf_2 (by decide) ?_
  refine lv_istore (lv' := [(5, .int (nI 0)), (3, .long (lN 0)), (0, .ref h0), (1, .int (nI row)), (2, .int (nI n))]) hx hb dX6_sumOf_3 hl (by decide) rfl (fun ls hl => ?_)
  have loop_5 : ∀ (N : Nat) (k : Nat) (ls : Array Slot), z - k < N → (k ≤ n ∧ k ≤ z) → lv_has ls 6 [(5, .int (nI k)), (3, .long (lN (qm_sum (qm_cost w x sq) k))), (0, .ref h0), (1, .int (nI row)), (2, .int (nI n))] → W p l e (headSpec wsX6_sumOf ({ frames := 1, cells := 0, slots := 0, locals := 26 } : Room)).room s m ([.ref h0, .int (nI row), .int (nI n)] : List Value).toArray below meth c s.heap [] 0 0 (MQ below (vp_Sl (fun r => r = lN (qm_sum (qm_cost w x sq) (if n < z then n else z)))) ([.ref h0, .int (nI row), .int (nI n)] : List Value).toArray s 0 0 (fun _ => False)) (F0 m 5 ls []) := by
    intro N
    induction N with
    | zero => intro k ls hm; exact absurd hm (Nat.not_lt_zero _)
    | succ N ih_5 =>
      intro k ls hm hk hl
      refine lv_iload hx hb dX6_sumOf_5 (lv_at hl 0 rfl) ?_
      refine lv_iload_n hx hb dX6_sumOf_7 rfl (lv_at hl 4 rfl) ?_
      refine lv_icmp_ge (tgt := 38) hx hb dX6_sumOf_8 (by decide) (fun c1 => ?_) (fun c1 => ?_)
      · have c1 : n ≤ k := (nI_leI (by omega) (by omega)).mp c1
        refine lv_lload_n hx hb dX6_sumOf_38 rfl (lv_at hl 1 rfl) ?_
        exact W.lret (v := lN (qm_sum (qm_cost w x sq) k)) hx hb hr (fun t9 ht9 hW9 => ⟨_, rfl, by congr 2; split <;> omega, ht9⟩) (fun q h => absurd h List.not_mem_nil) dX6_sumOf_39
      · have c1 : ¬ (n ≤ k) := fun q9 => c1 ((nI_leI (by omega) (by omega)).mpr q9)
        refine lv_iload hx hb dX6_sumOf_11 (lv_at hl 0 rfl) ?_
        refine lv_aload_n hx hb dX6_sumOf_13 rfl (lv_at hl 2 rfl) ?_
        refine va_get (D := G.1) (ci := 6) (v := .ref qz) (C := "GradeRowsModel") (T := TX6) (N := 16) hx hb htb inX6 hown hK hP 0 rfl rfl 4 (by decide) (htb _ qw_437) (fun _ h9 => h9) rfl dX6_sumOf_14 ?_
        refine lv_iload_n hx hb dX6_sumOf_17 rfl (lv_at hl 3 rfl) ?_
        refine qk_iald hx hb hK hP 6 0 rfl rfl (i := row) (by omega) (by omega) (v := nI z) hzr dX6_sumOf_18 ?_
        refine lv_icmp_ge (tgt := 38) hx hb dX6_sumOf_19 (by decide) (fun c2 => ?_) (fun c2 => ?_)
        · have c2 : z ≤ k := (nI_leI (by omega) (by omega)).mp c2
          refine lv_lload_n hx hb dX6_sumOf_38 rfl (lv_at hl 1 rfl) ?_
          exact W.lret (v := lN (qm_sum (qm_cost w x sq) k)) hx hb hr (fun t9 ht9 hW9 => ⟨_, rfl, by congr 2; split <;> omega, ht9⟩) (fun q h => absurd h List.not_mem_nil) dX6_sumOf_39
        · have c2 : ¬ (z ≤ k) := fun q9 => c2 ((nI_leI (by omega) (by omega)).mpr q9)
          refine lv_lload_n hx hb dX6_sumOf_22 rfl (lv_at hl 1 rfl) ?_
          refine lv_aload_n hx hb dX6_sumOf_23 rfl (lv_at hl 2 rfl) ?_
          refine lv_iload_n hx hb dX6_sumOf_24 rfl (lv_at hl 3 rfl) ?_
          refine lv_iload hx hb dX6_sumOf_25 (lv_at hl 0 rfl) ?_
          have hPc := hP.sub (ws' := [(h0, .inr (6, [.int th, .int (nI nr), .ref qw, .ref qx, .ref qz, .ref qb, .ref qh, .ref qd, .int (nI kn), .int (nI nc), .ref ql, .ref qg, .int (nI cur), .ref qs, .ref qm, .ref qt])), (qw, .inl (G.2.1, 40, .inl fw)), (qx, .inl (G.2.1, 40, .inl fx)), (qb, .inl (G.2.1, 2200, .inl fb)), (qh, .inl (G.2.1, 2200, .inl fh)), (qd, .inl (G.2.1, 2200, .inl fd))]) [0, 1, 2, 3, 4, 5] rfl
          refine vp_callSl (va_runV (As := [.int (nI row), .int (nI k)]) (rest := [.long (lN (qm_sum (qm_cost w x sq) k))]) ⟨hx, hb, hml, hown, htb⟩ (qc_M_cost l G h0 th nr qw qx qz qb qh qd kn nc ql qg cur qs qm qt fw fx fb fh fd w x row sq k hrow hR hw (by omega) (fun j hj => hs j (by omega)) (fun j hj => ho j (by omega))) (cwV 2 htb (qW_V qw_512 qw_514 qw_7 qw_18 qw_515) rfl rfl rfl (by decide +kernel) ⟨Nat.le_of_ble_eq_true rfl, Nat.le_of_ble_eq_true rfl⟩) (qk_pv (ci := 6) (q0 := 0) hK hPc hN rfl rfl) rfl rfl hl.1 rfl (lv_room (Nat.le_of_ble_eq_true rfl)) dX6_sumOf_27 ⟨Nat.le_of_ble_eq_true rfl, Nat.le_of_ble_eq_true rfl⟩).run (fun r_27 e_27 => ?_)
          have e_27 := e_27.symm
          subst e_27
          refine lv_ladd hx hb dX6_sumOf_30 ?_
          refine qk_topl (t := lN ((qm_sum (qm_cost w x sq) k) + (qm_cost w x sq k))) ((lN_add _ _).trans rfl) ?_
          refine lv_lstore_n (lv' := [(3, .long (lN ((qm_sum (qm_cost w x sq) k) + (qm_cost w x sq k)))), (5, .int (nI k)), (0, .ref h0), (1, .int (nI row)), (2, .int (nI n))]) hx hb dX6_sumOf_31 rfl hl (by decide) rfl (fun ls hl => ?_)
          refine lv_iinc (v := nI (k + 1)) (lv' := [(5, .int (nI (k + 1))), (3, .long (lN ((qm_sum (qm_cost w x sq) k) + (qm_cost w x sq k)))), (0, .ref h0), (1, .int (nI row)), (2, .int (nI n))]) hx hb dX6_sumOf_32 hl (k := 1) rfl (nI_1 k) (by decide) rfl (fun ls hl => ?_)
          refine lv_goto (tgt := 5) hx hb dX6_sumOf_35 (by decide) ?_
          exact ih_5 (k + 1) ls (by omega) (⟨by omega, by omega⟩) (lv_sub hl [0, 1, 2, 3, 4] rfl)
  exact loop_5 (z - 0 + 1) 0 ls (by omega) (⟨Nat.zero_le n, Nat.zero_le z⟩) (lv_sub hl [0, 1, 2, 3, 4] rfl)

set_option maxHeartbeats 4000000 in
set_option maxRecDepth 100000 in
/-- the reference: all -/
theorem qc_M_all (l : Launch) (G : qG) (h0 : Nat) (th : Int32) (nr : Nat) (qw : Nat) (qx : Nat) (qz : Nat) (qb : Nat) (qh : Nat) (qd : Nat) (kn : Nat) (nc : Nat) (ql : Nat) (qg : Nat) (cur : Nat) (qs : Nat) (qm : Nat) (qt : Nat) (fw : Nat → Int32) (fx : Nat → Int32) (fb : Nat → Int32) (fh : Nat → Int32) (fd : Nat → Int32) (w : Nat → Nat) (x : Nat → Nat) (sq : Nat → qS) (fz : Nat → Int32) (z : Nat) (hR : qm_okR nr w x) (hw : ∀ i, i < nr → fw i = nI (w i) ∧ fx i = nI (x i)) (hz : z ≤ 200) (hs : ∀ j, j < z → fb (2000 + j) = nM (sq j).1 ∧ fh (2000 + j) = nI (sq j).2.1 ∧ fd (2000 + j) = nI (sq j).2.2) (ho : ∀ j, j < z → qm_okS nr (sq j)) (hzr : fz 10 = nI z) : Met l yX6_all wsX6_all ({ frames := 2, cells := 0, slots := 0, locals := 51 } : Room) (va_Pc [.ref h0] (qk_pre G vwCl [(h0, .inr (6, [.int th, .int (nI nr), .ref qw, .ref qx, .ref qz, .ref qb, .ref qh, .ref qd, .int (nI kn), .int (nI nc), .ref ql, .ref qg, .int (nI cur), .ref qs, .ref qm, .ref qt])), (qw, .inl (G.2.1, 40, .inl fw)), (qx, .inl (G.2.1, 40, .inl fx)), (qb, .inl (G.2.1, 2200, .inl fb)), (qh, .inl (G.2.1, 2200, .inl fh)), (qd, .inl (G.2.1, 2200, .inl fd)), (qz, .inl (G.2.1, 11, .inl fz))])) (vp_Sl (fun r => r = lN (qm_sum (qm_cost w x sq) z))) 0 0 (fun _ => False) := by
  refine Met.ofW (cc := cX6_all) (maxL := 1) (ret := (some .long)) (by decide) rfl ?_
  intro p e s m args below meth c s₁ B hml hv
  obtain ⟨rfl, hP, hK, hN⟩ := hv
  have hx := B.exec
  have hb := B.bytes
  have hr := B.returns
  have hlocks := B.notSynchronized
  have hts := atoms_spec (ws := wsX6_all) B.pre
  have htb := fun (w : Cond) (h : w ∈ qTb) => hts w (List.mem_cons_of_mem _ h)
  have hown : s.vm.findClass "GradeRowsModel" = some m.cls := findClass_of_methodNamed B.named
  have hP : va_P G.1 vwCl [(h0, .inr (6, [.int th, .int (nI nr), .ref qw, .ref qx, .ref qz, .ref qb, .ref qh, .ref qd, .int (nI kn), .int (nI nc), .ref ql, .ref qg, .int (nI cur), .ref qs, .ref qm, .ref qt])), (qw, .inl (G.2.1, 40, .inl fw)), (qx, .inl (G.2.1, 40, .inl fx)), (qb, .inl (G.2.1, 2200, .inl fb)), (qh, .inl (G.2.1, 2200, .inl fh)), (qd, .inl (G.2.1, 2200, .inl fd)), (qz, .inl (G.2.1, 11, .inl fz))] s.heap := hP
  have hl := lv_entry ([.ref h0]) (n := 1) (Nat.le_of_ble_eq_true rfl)
  rw [lg_entry_eq]
  generalize (lg_sl ([.ref h0]) ++ List.replicate (1 - (lg_sl ([.ref h0])).length) Slot.unset).toArray = ls at hl ⊢
  have hl : lv_has ls 1 [(0, .ref h0)] := hl
  refine lv_aload_n hx hb dX6_all_0 rfl (lv_at hl 0 rfl) ?_
  refine lv_bipush (v := nI 10) hx hb dX6_all_1 (by decide) ?_
  refine lv_sipush (v := nI 200) hx hb dX6_all_3 (by decide) ?_
  have hPc := hP.sub (ws' := [(h0, .inr (6, [.int th, .int (nI nr), .ref qw, .ref qx, .ref qz, .ref qb, .ref qh, .ref qd, .int (nI kn), .int (nI nc), .ref ql, .ref qg, .int (nI cur), .ref qs, .ref qm, .ref qt])), (qw, .inl (G.2.1, 40, .inl fw)), (qx, .inl (G.2.1, 40, .inl fx)), (qb, .inl (G.2.1, 2200, .inl fb)), (qh, .inl (G.2.1, 2200, .inl fh)), (qd, .inl (G.2.1, 2200, .inl fd)), (qz, .inl (G.2.1, 11, .inl fz))]) [0, 1, 2, 3, 4, 5, 6] rfl
  refine vp_callSl (va_runV (As := [.int (nI 10), .int (nI 200)]) (rest := []) ⟨hx, hb, hml, hown, htb⟩ (qc_M_sum l G h0 th nr qw qx qz qb qh qd kn nc ql qg cur qs qm qt fw fx fb fh fd w x 10 sq fz z 200 (by omega) hR hw hz hs ho hzr (by omega)) (cwV 2 htb (qW_V qw_522 qw_524 qw_8 qw_18 qw_525) rfl rfl rfl (by decide +kernel) ⟨Nat.le_of_ble_eq_true rfl, Nat.le_of_ble_eq_true rfl⟩) (qk_pv (ci := 6) (q0 := 0) hK hPc hN rfl rfl) rfl rfl hl.1 rfl (lv_room (Nat.le_of_ble_eq_true rfl)) dX6_all_6 ⟨Nat.le_of_ble_eq_true rfl, Nat.le_of_ble_eq_true rfl⟩).run (fun r_6 e_6 => ?_)
  have e_6 := e_6.symm
  subst e_6
  refine qk_topl (t := lN (qm_sum (qm_cost w x sq) z)) (by congr 2; split <;> omega) ?_
  exact W.lret (v := lN (qm_sum (qm_cost w x sq) z)) hx hb hr (fun t9 ht9 hW9 => ⟨_, rfl, rfl, ht9⟩) (fun q h => absurd h List.not_mem_nil) dX6_all_9

set_option maxHeartbeats 4000000 in
set_option maxRecDepth 100000 in
/-- the reference: classOf -/
theorem qc_M_of (l : Launch) (G : qG) (h0 : Nat) (th : Int32) (nr : Nat) (qw : Nat) (qx : Nat) (qz : Nat) (qb : Nat) (qh : Nat) (qd : Nat) (kn : Nat) (nc : Nat) (ql : Nat) (qg : Nat) (cur : Nat) (qs : Nat) (qm : Nat) (qt : Nat) (lo : Nat → Int64) (hi : Nat → Int64) (v : Int64) (hn : nc ≤ 20) : Met l yX6_classOf wsX6_classOf ({ frames := 0, cells := 0, slots := 0, locals := 0 } : Room) (va_Pc [.ref h0, .long v] (qk_pre G vwCl [(h0, .inr (6, [.int th, .int (nI nr), .ref qw, .ref qx, .ref qz, .ref qb, .ref qh, .ref qd, .int (nI kn), .int (nI nc), .ref ql, .ref qg, .int (nI cur), .ref qs, .ref qm, .ref qt])), (ql, .inl (G.2.2.1, 20, .inr (.inl lo))), (qg, .inl (G.2.2.1, 20, .inr (.inl hi)))])) (vp_Si (fun r => r = qm_ans nc (qm_cof lo hi v nc 0))) 0 0 (fun _ => False) := by
  refine Met.ofW (cc := cX6_classOf) (maxL := 4) (ret := (some .int)) (by decide) rfl ?_
  intro p e s m args below meth c s₁ B hml hv
  obtain ⟨rfl, hP, hK, hN⟩ := hv
  have hx := B.exec
  have hb := B.bytes
  have hr := B.returns
  have hlocks := B.notSynchronized
  have hts := atoms_spec (ws := wsX6_classOf) B.pre
  have htb := fun (w : Cond) (h : w ∈ qTb) => hts w (List.mem_cons_of_mem _ h)
  have hown : s.vm.findClass "GradeRowsModel" = some m.cls := findClass_of_methodNamed B.named
  have hP : va_P G.1 vwCl [(h0, .inr (6, [.int th, .int (nI nr), .ref qw, .ref qx, .ref qz, .ref qb, .ref qh, .ref qd, .int (nI kn), .int (nI nc), .ref ql, .ref qg, .int (nI cur), .ref qs, .ref qm, .ref qt])), (ql, .inl (G.2.2.1, 20, .inr (.inl lo))), (qg, .inl (G.2.2.1, 20, .inr (.inl hi)))] s.heap := hP
  have hl := lv_entry ([.ref h0, .long v]) (n := 4) (Nat.le_of_ble_eq_true rfl)
  rw [lg_entry_eq]
  generalize (lg_sl ([.ref h0, .long v]) ++ List.replicate (4 - (lg_sl ([.ref h0, .long v])).length) Slot.unset).toArray = ls at hl ⊢
  have hl : lv_has ls 4 [(0, .ref h0), (1, .long v)] := hl
  refine lv_iconst (v := nI 0) hx hb dX6_classOf_0 (by decide) ?_
  refine lv_istore_n (lv' := [(3, .int (nI 0)), (0, .ref h0), (1, .long v)]) hx hb dX6_classOf_1 rfl hl (by decide) rfl (fun ls hl => ?_)
  have loop_2 : ∀ (N : Nat) (i : Nat) (ls : Array Slot), nc - i < N → (i ≤ nc) → (qm_cof lo hi v nc 0 = qm_cof lo hi v (nc - i) i) → lv_has ls 4 [(3, .int (nI i)), (0, .ref h0), (1, .long v)] → W p l e (headSpec wsX6_classOf ({ frames := 0, cells := 0, slots := 0, locals := 0 } : Room)).room s m ([.ref h0, .long v] : List Value).toArray below meth c s.heap [] 0 0 (MQ below (vp_Si (fun r => r = qm_ans nc (qm_cof lo hi v nc 0))) ([.ref h0, .long v] : List Value).toArray s 0 0 (fun _ => False)) (F0 m 2 ls []) := by
    intro N
    induction N with
    | zero => intro i ls hm; exact absurd hm (Nat.not_lt_zero _)
    | succ N ih_2 =>
      intro i ls hm hi1 hq hl
      refine lv_iload_n hx hb dX6_classOf_2 rfl (lv_at hl 0 rfl) ?_
      refine lv_aload_n hx hb dX6_classOf_3 rfl (lv_at hl 1 rfl) ?_
      refine va_get (D := G.1) (ci := 6) (v := .int (nI nc)) (C := "GradeRowsModel") (T := TX6) (N := 16) hx hb htb inX6 hown hK hP 0 rfl rfl 9 (by decide) (htb _ qw_442) (fun _ h9 => h9) rfl dX6_classOf_4 ?_
      refine lv_icmp_ge (tgt := 40) hx hb dX6_classOf_7 (by decide) (fun c_1 => ?_) (fun c_1 => ?_)
      · have c_1 : nc ≤ i := (nI_leI (by omega) (by omega)).mp c_1
        refine lv_iconst (v := (-1)) hx hb dX6_classOf_40 (by decide) ?_
        exact W.iret (v := (-1)) hx hb hr (fun t9 ht9 hW9 => ⟨_, rfl, (qm_cof_end hq (by omega) hi1).symm, ht9⟩) (fun q h => absurd h List.not_mem_nil) dX6_classOf_41
      · have c_1 : ¬ (nc ≤ i) := fun q9 => c_1 ((nI_leI (by omega) (by omega)).mpr q9)
        refine lv_lload_n hx hb dX6_classOf_10 rfl (lv_at hl 2 rfl) ?_
        refine lv_aload_n hx hb dX6_classOf_11 rfl (lv_at hl 1 rfl) ?_
        refine va_get (D := G.1) (ci := 6) (v := .ref ql) (C := "GradeRowsModel") (T := TX6) (N := 16) hx hb htb inX6 hown hK hP 0 rfl rfl 10 (by decide) (htb _ qw_443) (fun _ h9 => h9) rfl dX6_classOf_12 ?_
        refine lv_iload_n hx hb dX6_classOf_15 rfl (lv_at hl 0 rfl) ?_
        refine qk_lald hx hb hK hP 1 1 rfl rfl (i := i) (by omega) (by omega) (v := lo i) rfl dX6_classOf_16 ?_
        refine W.lcmp hx hb dX6_classOf_17 ?_
        refine lv_if_lt (tgt := 34) hx hb dX6_classOf_18 (by decide) (fun c1 => ?_) (fun c1 => ?_)
        · have c1 : v < (lo i) := (lg_cmp_lt _ _).mp c1
          have c1n : ¬ lo i ≤ v := by rw [Int64.lt_iff_toInt_lt] at c1; rw [Int64.le_iff_toInt_le]; omega
          refine lv_iinc (v := nI (i + 1)) (lv' := [(3, .int (nI (i + 1))), (0, .ref h0), (1, .long v)]) hx hb dX6_classOf_34 hl (k := 0) rfl (nI_1 i) (by decide) rfl (fun ls hl => ?_)
          refine lv_goto (tgt := 2) hx hb dX6_classOf_37 (by decide) ?_
          exact ih_2 (i + 1) ls (by omega) (by omega) (hq.trans (qm_cof_next (by omega) (by first | (intro h; exact c1n h.1) | (intro h; exact c2n h.2)))) (lv_sub hl [0, 1, 2] rfl)
        · have c1 : ¬ (v < (lo i)) := fun q9 => c1 ((lg_cmp_lt _ _).mpr q9)
          refine lv_lload_n hx hb dX6_classOf_21 rfl (lv_at hl 2 rfl) ?_
          refine lv_aload_n hx hb dX6_classOf_22 rfl (lv_at hl 1 rfl) ?_
          refine va_get (D := G.1) (ci := 6) (v := .ref qg) (C := "GradeRowsModel") (T := TX6) (N := 16) hx hb htb inX6 hown hK hP 0 rfl rfl 11 (by decide) (htb _ qw_444) (fun _ h9 => h9) rfl dX6_classOf_23 ?_
          refine lv_iload_n hx hb dX6_classOf_26 rfl (lv_at hl 0 rfl) ?_
          refine qk_lald hx hb hK hP 2 1 rfl rfl (i := i) (by omega) (by omega) (v := hi i) rfl dX6_classOf_27 ?_
          refine W.lcmp hx hb dX6_classOf_28 ?_
          refine lv_if_gt (tgt := 34) hx hb dX6_classOf_29 (by decide) (fun c2 => ?_) (fun c2 => ?_)
          · have c2 : (hi i) < v := (lg_cmp_gt _ _).mp c2
            have c2n : ¬ v ≤ hi i := by rw [Int64.lt_iff_toInt_lt] at c2; rw [Int64.le_iff_toInt_le]; omega
            refine lv_iinc (v := nI (i + 1)) (lv' := [(3, .int (nI (i + 1))), (0, .ref h0), (1, .long v)]) hx hb dX6_classOf_34 hl (k := 0) rfl (nI_1 i) (by decide) rfl (fun ls hl => ?_)
            refine lv_goto (tgt := 2) hx hb dX6_classOf_37 (by decide) ?_
            exact ih_2 (i + 1) ls (by omega) (by omega) (hq.trans (qm_cof_next (by omega) (by first | (intro h; exact c1n h.1) | (intro h; exact c2n h.2)))) (lv_sub hl [0, 1, 2] rfl)
          · have c2 : ¬ ((hi i) < v) := fun q9 => c2 ((lg_cmp_gt _ _).mpr q9)
            refine lv_iload_n hx hb dX6_classOf_32 rfl (lv_at hl 0 rfl) ?_
            exact W.iret (v := nI i) hx hb hr (fun t9 ht9 hW9 => ⟨_, rfl, (qm_cof_hit hq (by omega) (qm_lnlt c1) (qm_lnlt c2)).symm, ht9⟩) (fun q h => absurd h List.not_mem_nil) dX6_classOf_33
  exact loop_2 (nc - 0 + 1) 0 ls (by omega) (Nat.zero_le nc) rfl (lv_sub hl [0, 1, 2] rfl)

set_option maxHeartbeats 4000000 in
set_option maxRecDepth 100000 in
/-- the reference: like -/
theorem qc_M_like (l : Launch) (G : qG) (h0 : Nat) (th : Int32) (nr : Nat) (qw : Nat) (qx : Nat) (qz : Nat) (qb : Nat) (qh : Nat) (qd : Nat) (kn : Nat) (nc : Nat) (ql : Nat) (qg : Nat) (cur : Nat) (qs : Nat) (qm : Nat) (qt : Nat) (fz : Nat → Int32) (fb : Nat → Int32) (fh : Nat → Int32) (fd : Nat → Int32) (row : Nat) (sq : Nat → qS) (z : Nat) (t0 : qS) (k : Nat) (hrow : row ≤ 10) (hz : z ≤ 200) (hk : k < 200) (hzr : fz row = nI z) (hs : ∀ j, j < z → fb (200 * row + j) = nM (sq j).1 ∧ fh (200 * row + j) = nI (sq j).2.1 ∧ fd (200 * row + j) = nI (sq j).2.2) (ho : ∀ j, j < z → qm_okS nr (sq j)) (ht : fb (2000 + k) = nM t0.1 ∧ fh (2000 + k) = nI t0.2.1 ∧ fd (2000 + k) = nI t0.2.2) (ho2 : qm_okS nr t0) (hr40 : nr ≤ 40) : Met l yX6_like wsX6_like ({ frames := 0, cells := 0, slots := 0, locals := 0 } : Room) (va_Pc [.ref h0, .int (nI row), .int (nI k)] (qk_pre G vwCl [(h0, .inr (6, [.int th, .int (nI nr), .ref qw, .ref qx, .ref qz, .ref qb, .ref qh, .ref qd, .int (nI kn), .int (nI nc), .ref ql, .ref qg, .int (nI cur), .ref qs, .ref qm, .ref qt])), (qz, .inl (G.2.1, 11, .inl fz)), (qb, .inl (G.2.1, 2200, .inl fb)), (qh, .inl (G.2.1, 2200, .inl fh)), (qd, .inl (G.2.1, 2200, .inl fd))])) (vp_Si (fun r => r = nI (qm_cnt sq z t0))) 0 0 (fun _ => False) := by
  refine Met.ofW (cc := cX6_like) (maxL := 6) (ret := (some .int)) (by decide) rfl ?_
  intro p e s m args below meth c s₁ B hml hv
  obtain ⟨rfl, hP, hK, hN⟩ := hv
  have hx := B.exec
  have hb := B.bytes
  have hr := B.returns
  have hlocks := B.notSynchronized
  have hts := atoms_spec (ws := wsX6_like) B.pre
  have htb := fun (w : Cond) (h : w ∈ qTb) => hts w (List.mem_cons_of_mem _ h)
  have hown : s.vm.findClass "GradeRowsModel" = some m.cls := findClass_of_methodNamed B.named
  have hP : va_P G.1 vwCl [(h0, .inr (6, [.int th, .int (nI nr), .ref qw, .ref qx, .ref qz, .ref qb, .ref qh, .ref qd, .int (nI kn), .int (nI nc), .ref ql, .ref qg, .int (nI cur), .ref qs, .ref qm, .ref qt])), (qz, .inl (G.2.1, 11, .inl fz)), (qb, .inl (G.2.1, 2200, .inl fb)), (qh, .inl (G.2.1, 2200, .inl fh)), (qd, .inl (G.2.1, 2200, .inl fd))] s.heap := hP
  have hl := lv_entry ([.ref h0, .int (nI row), .int (nI k)]) (n := 6) (Nat.le_of_ble_eq_true rfl)
  rw [lg_entry_eq]
  generalize (lg_sl ([.ref h0, .int (nI row), .int (nI k)]) ++ List.replicate (6 - (lg_sl ([.ref h0, .int (nI row), .int (nI k)])).length) Slot.unset).toArray = ls at hl ⊢
  have hl : lv_has ls 6 [(0, .ref h0), (1, .int (nI row)), (2, .int (nI k))] := hl
  refine lv_iconst (v := nI 0) hx hb dX6_like_0 (by decide) ?_
  refine lv_istore_n (lv' := [(3, .int (nI 0)), (0, .ref h0), (1, .int (nI row)), (2, .int (nI k))]) hx hb dX6_like_1 rfl hl (by decide) rfl (fun ls hl => ?_)
  refine lv_sipush (v := nI 2000) hx hb dX6_like_2 (by decide) ?_
  refine lv_iload_n hx hb dX6_like_5 rfl (lv_at hl 3 rfl) ?_
  refine lv_iadd hx hb dX6_like_6 ?_
  refine qk_topi (t := nI (2000 + k)) ((nI_add _ _).trans rfl) ?_
  refine lv_istore (lv' := [(4, .int (nI (2000 + k))), (3, .int (nI 0)), (0, .ref h0), (1, .int (nI row)), (2, .int (nI k))]) hx hb dX6_like_7 hl (by decide) rfl (fun ls hl => ?_)
  refine lv_sipush (v := nI 200) hx hb dX6_like_9 (by decide) ?_
  refine lv_iload_n hx hb dX6_like_12 rfl (lv_at hl 3 rfl) ?_
  refine lv_imul hx hb dX6_like_13 ?_
  refine qk_topi (t := nI (200 * row)) (pk_mul _ _) ?_
  refine lv_istore (lv' := [(5, .int (nI (200 * row))), (4, .int (nI (2000 + k))), (3, .int (nI 0)), (0, .ref h0), (1, .int (nI row)), (2, .int (nI k))]) hx hb dX6_like_14 hl (by decide) rfl (fun ls hl => ?_)
  have loop_16 : ∀ (N : Nat) (j : Nat) (a : Nat) (ls : Array Slot), z - j < N → (j ≤ z) → (a ≤ j) → (qm_cnt sq j t0 = a) → lv_has ls 6 [(5, .int (nI (200 * row + j))), (4, .int (nI (2000 + k))), (3, .int (nI a)), (0, .ref h0), (1, .int (nI row)), (2, .int (nI k))] → W p l e (headSpec wsX6_like ({ frames := 0, cells := 0, slots := 0, locals := 0 } : Room)).room s m ([.ref h0, .int (nI row), .int (nI k)] : List Value).toArray below meth c s.heap [] 0 0 (MQ below (vp_Si (fun r => r = nI (qm_cnt sq z t0))) ([.ref h0, .int (nI row), .int (nI k)] : List Value).toArray s 0 0 (fun _ => False)) (F0 m 16 ls []) := by
    intro N
    induction N with
    | zero => intro j a ls hm; exact absurd hm (Nat.not_lt_zero _)
    | succ N ih_16 =>
      intro j a ls hm hj ha hq hl
      refine lv_iload hx hb dX6_like_16 (lv_at hl 0 rfl) ?_
      refine lv_sipush (v := nI 200) hx hb dX6_like_18 (by decide) ?_
      refine lv_iload_n hx hb dX6_like_21 rfl (lv_at hl 4 rfl) ?_
      refine lv_imul hx hb dX6_like_22 ?_
      refine qk_topi (t := nI (200 * row)) (pk_mul _ _) ?_
      refine lv_aload_n hx hb dX6_like_23 rfl (lv_at hl 3 rfl) ?_
      refine va_get (D := G.1) (ci := 6) (v := .ref qz) (C := "GradeRowsModel") (T := TX6) (N := 16) hx hb htb inX6 hown hK hP 0 rfl rfl 4 (by decide) (htb _ qw_437) (fun _ h9 => h9) rfl dX6_like_24 ?_
      refine lv_iload_n hx hb dX6_like_27 rfl (lv_at hl 4 rfl) ?_
      refine qk_iald hx hb hK hP 1 0 rfl rfl (i := row) (by omega) (by omega) (v := nI z) hzr dX6_like_28 ?_
      refine lv_iadd hx hb dX6_like_29 ?_
      refine qk_topi (t := nI ((200 * row) + z)) ((nI_add _ _).trans rfl) ?_
      refine lv_icmp_ge (tgt := 98) hx hb dX6_like_30 (by decide) (fun c_1 => ?_) (fun c_1 => ?_)
      · have c_1 : ((200 * row) + z) ≤ (200 * row + j) := (nI_leI (by omega) (by omega)).mp c_1
        refine lv_iload_n hx hb dX6_like_98 rfl (lv_at hl 2 rfl) ?_
        exact W.iret (v := nI a) hx hb hr (fun t9 ht9 hW9 => ⟨_, rfl, by rw [← hq, show j = z by omega], ht9⟩) (fun q h => absurd h List.not_mem_nil) dX6_like_99
      · have c_1 : ¬ (((200 * row) + z) ≤ (200 * row + j)) := fun q9 => c_1 ((nI_leI (by omega) (by omega)).mpr q9)
        refine lv_iload_n hx hb dX6_like_33 rfl (lv_at hl 2 rfl) ?_
        refine lv_aload_n hx hb dX6_like_34 rfl (lv_at hl 3 rfl) ?_
        refine va_get (D := G.1) (ci := 6) (v := .ref qb) (C := "GradeRowsModel") (T := TX6) (N := 16) hx hb htb inX6 hown hK hP 0 rfl rfl 5 (by decide) (htb _ qw_438) (fun _ h9 => h9) rfl dX6_like_35 ?_
        refine lv_iload hx hb dX6_like_38 (lv_at hl 0 rfl) ?_
        have hoj := ho j (by omega)
        have hsj := hs j (by omega)
        have hj1 : (sq j).1 ≤ 40 := by rcases hoj with h | h <;> omega
        have hj2 : (sq j).2.1 ≤ 255 := by rcases hoj with h | h <;> omega
        have hj3 : (sq j).2.2 ≤ 9 := by rcases hoj with h | h <;> omega
        have ht1 : t0.1 ≤ 40 := by rcases ho2 with h | h <;> omega
        have ht2 : t0.2.1 ≤ 255 := by rcases ho2 with h | h <;> omega
        have ht3 : t0.2.2 ≤ 9 := by rcases ho2 with h | h <;> omega
        refine qk_iald hx hb hK hP 2 0 rfl rfl (i := (200 * row + j)) (by omega) (by omega) (v := nM (sq j).1) hsj.1 dX6_like_40 ?_
        refine lv_aload_n hx hb dX6_like_41 rfl (lv_at hl 3 rfl) ?_
        refine va_get (D := G.1) (ci := 6) (v := .ref qb) (C := "GradeRowsModel") (T := TX6) (N := 16) hx hb htb inX6 hown hK hP 0 rfl rfl 5 (by decide) (htb _ qw_438) (fun _ h9 => h9) rfl dX6_like_42 ?_
        refine lv_iload hx hb dX6_like_45 (lv_at hl 1 rfl) ?_
        refine qk_iald hx hb hK hP 2 0 rfl rfl (i := (2000 + k)) (by omega) (by omega) (v := nM t0.1) ht.1 dX6_like_47 ?_
        refine lv_icmp_ne (tgt := 89) hx hb dX6_like_48 (by decide) (fun c1 => ?_) (fun c1 => ?_)
        · have c1 : ¬ ((sq j).1 = t0.1) := fun q9 => c1 ((nM_eq (by omega) (by omega)).mpr q9)
          refine lv_iconst (v := nI 0) hx hb dX6_like_89 (by decide) ?_
          refine lv_iadd hx hb dX6_like_90 ?_
          refine qk_topi (t := nI a) ((nI_add _ _).trans rfl) ?_
          refine lv_istore_n (lv' := [(3, .int (nI a)), (5, .int (nI (200 * row + j))), (4, .int (nI (2000 + k))), (0, .ref h0), (1, .int (nI row)), (2, .int (nI k))]) hx hb dX6_like_91 rfl hl (by decide) rfl (fun ls hl => ?_)
          refine lv_iinc (v := nI ((200 * row + j) + 1)) (lv' := [(5, .int (nI ((200 * row + j) + 1))), (3, .int (nI a)), (4, .int (nI (2000 + k))), (0, .ref h0), (1, .int (nI row)), (2, .int (nI k))]) hx hb dX6_like_92 hl (k := 1) rfl (nI_1 (200 * row + j)) (by decide) rfl (fun ls hl => ?_)
          refine lv_goto (tgt := 16) hx hb dX6_like_95 (by decide) ?_
          exact ih_16 (j + 1) a ls (by omega) (by omega) (by omega) (qm_cnt_miss hq (by intro h; subst h; first | exact c1 rfl | exact c2 rfl | exact c3 rfl)) (lv_sub hl [0, 2, 1, 3, 4, 5] rfl)
        · have c1 : (sq j).1 = t0.1 := (nM_eq (by omega) (by omega)).mp c1
          refine lv_aload_n hx hb dX6_like_51 rfl (lv_at hl 3 rfl) ?_
          refine va_get (D := G.1) (ci := 6) (v := .ref qh) (C := "GradeRowsModel") (T := TX6) (N := 16) hx hb htb inX6 hown hK hP 0 rfl rfl 6 (by decide) (htb _ qw_439) (fun _ h9 => h9) rfl dX6_like_52 ?_
          refine lv_iload hx hb dX6_like_55 (lv_at hl 0 rfl) ?_
          refine qk_iald hx hb hK hP 3 0 rfl rfl (i := (200 * row + j)) (by omega) (by omega) (v := nI (sq j).2.1) hsj.2.1 dX6_like_57 ?_
          refine lv_aload_n hx hb dX6_like_58 rfl (lv_at hl 3 rfl) ?_
          refine va_get (D := G.1) (ci := 6) (v := .ref qh) (C := "GradeRowsModel") (T := TX6) (N := 16) hx hb htb inX6 hown hK hP 0 rfl rfl 6 (by decide) (htb _ qw_439) (fun _ h9 => h9) rfl dX6_like_59 ?_
          refine lv_iload hx hb dX6_like_62 (lv_at hl 1 rfl) ?_
          refine qk_iald hx hb hK hP 3 0 rfl rfl (i := (2000 + k)) (by omega) (by omega) (v := nI t0.2.1) ht.2.1 dX6_like_64 ?_
          refine lv_icmp_ne (tgt := 89) hx hb dX6_like_65 (by decide) (fun c2 => ?_) (fun c2 => ?_)
          · have c2 : ¬ ((sq j).2.1 = t0.2.1) := fun q9 => c2 ((nI_eq (by omega) (by omega)).mpr q9)
            refine lv_iconst (v := nI 0) hx hb dX6_like_89 (by decide) ?_
            refine lv_iadd hx hb dX6_like_90 ?_
            refine qk_topi (t := nI a) ((nI_add _ _).trans rfl) ?_
            refine lv_istore_n (lv' := [(3, .int (nI a)), (5, .int (nI (200 * row + j))), (4, .int (nI (2000 + k))), (0, .ref h0), (1, .int (nI row)), (2, .int (nI k))]) hx hb dX6_like_91 rfl hl (by decide) rfl (fun ls hl => ?_)
            refine lv_iinc (v := nI ((200 * row + j) + 1)) (lv' := [(5, .int (nI ((200 * row + j) + 1))), (3, .int (nI a)), (4, .int (nI (2000 + k))), (0, .ref h0), (1, .int (nI row)), (2, .int (nI k))]) hx hb dX6_like_92 hl (k := 1) rfl (nI_1 (200 * row + j)) (by decide) rfl (fun ls hl => ?_)
            refine lv_goto (tgt := 16) hx hb dX6_like_95 (by decide) ?_
            exact ih_16 (j + 1) a ls (by omega) (by omega) (by omega) (qm_cnt_miss hq (by intro h; subst h; first | exact c1 rfl | exact c2 rfl | exact c3 rfl)) (lv_sub hl [0, 2, 1, 3, 4, 5] rfl)
          · have c2 : (sq j).2.1 = t0.2.1 := (nI_eq (by omega) (by omega)).mp c2
            refine lv_aload_n hx hb dX6_like_68 rfl (lv_at hl 3 rfl) ?_
            refine va_get (D := G.1) (ci := 6) (v := .ref qd) (C := "GradeRowsModel") (T := TX6) (N := 16) hx hb htb inX6 hown hK hP 0 rfl rfl 7 (by decide) (htb _ qw_440) (fun _ h9 => h9) rfl dX6_like_69 ?_
            refine lv_iload hx hb dX6_like_72 (lv_at hl 0 rfl) ?_
            refine qk_iald hx hb hK hP 4 0 rfl rfl (i := (200 * row + j)) (by omega) (by omega) (v := nI (sq j).2.2) hsj.2.2 dX6_like_74 ?_
            refine lv_aload_n hx hb dX6_like_75 rfl (lv_at hl 3 rfl) ?_
            refine va_get (D := G.1) (ci := 6) (v := .ref qd) (C := "GradeRowsModel") (T := TX6) (N := 16) hx hb htb inX6 hown hK hP 0 rfl rfl 7 (by decide) (htb _ qw_440) (fun _ h9 => h9) rfl dX6_like_76 ?_
            refine lv_iload hx hb dX6_like_79 (lv_at hl 1 rfl) ?_
            refine qk_iald hx hb hK hP 4 0 rfl rfl (i := (2000 + k)) (by omega) (by omega) (v := nI t0.2.2) ht.2.2 dX6_like_81 ?_
            refine lv_icmp_ne (tgt := 89) hx hb dX6_like_82 (by decide) (fun c3 => ?_) (fun c3 => ?_)
            · have c3 : ¬ ((sq j).2.2 = t0.2.2) := fun q9 => c3 ((nI_eq (by omega) (by omega)).mpr q9)
              refine lv_iconst (v := nI 0) hx hb dX6_like_89 (by decide) ?_
              refine lv_iadd hx hb dX6_like_90 ?_
              refine qk_topi (t := nI a) ((nI_add _ _).trans rfl) ?_
              refine lv_istore_n (lv' := [(3, .int (nI a)), (5, .int (nI (200 * row + j))), (4, .int (nI (2000 + k))), (0, .ref h0), (1, .int (nI row)), (2, .int (nI k))]) hx hb dX6_like_91 rfl hl (by decide) rfl (fun ls hl => ?_)
              refine lv_iinc (v := nI ((200 * row + j) + 1)) (lv' := [(5, .int (nI ((200 * row + j) + 1))), (3, .int (nI a)), (4, .int (nI (2000 + k))), (0, .ref h0), (1, .int (nI row)), (2, .int (nI k))]) hx hb dX6_like_92 hl (k := 1) rfl (nI_1 (200 * row + j)) (by decide) rfl (fun ls hl => ?_)
              refine lv_goto (tgt := 16) hx hb dX6_like_95 (by decide) ?_
              exact ih_16 (j + 1) a ls (by omega) (by omega) (by omega) (qm_cnt_miss hq (by intro h; subst h; first | exact c1 rfl | exact c2 rfl | exact c3 rfl)) (lv_sub hl [0, 2, 1, 3, 4, 5] rfl)
            · have c3 : (sq j).2.2 = t0.2.2 := (nI_eq (by omega) (by omega)).mp c3
              refine lv_iconst (v := nI 1) hx hb dX6_like_85 (by decide) ?_
              refine lv_goto (tgt := 90) hx hb dX6_like_86 (by decide) ?_
              refine lv_iadd hx hb dX6_like_90 ?_
              refine qk_topi (t := nI (a + 1)) ((nI_add _ _).trans rfl) ?_
              refine lv_istore_n (lv' := [(3, .int (nI (a + 1))), (5, .int (nI (200 * row + j))), (4, .int (nI (2000 + k))), (0, .ref h0), (1, .int (nI row)), (2, .int (nI k))]) hx hb dX6_like_91 rfl hl (by decide) rfl (fun ls hl => ?_)
              refine lv_iinc (v := nI ((200 * row + j) + 1)) (lv' := [(5, .int (nI ((200 * row + j) + 1))), (3, .int (nI (a + 1))), (4, .int (nI (2000 + k))), (0, .ref h0), (1, .int (nI row)), (2, .int (nI k))]) hx hb dX6_like_92 hl (k := 1) rfl (nI_1 (200 * row + j)) (by decide) rfl (fun ls hl => ?_)
              refine lv_goto (tgt := 16) hx hb dX6_like_95 (by decide) ?_
              exact ih_16 (j + 1) (a + 1) ls (by omega) (by omega) (by omega) (qm_cnt_hit hq (qm_same3 c1 c2 c3)) (lv_sub hl [0, 2, 1, 3, 4, 5] rfl)
  exact loop_16 (z - 0 + 1) 0 0 ls (by omega) (Nat.zero_le z) (Nat.le_refl 0) rfl (lv_sub hl [0, 1, 2, 3, 4, 5] rfl)
