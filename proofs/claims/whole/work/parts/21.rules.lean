set_option maxHeartbeats 4000000 in
set_option maxRecDepth 100000 in
/-- Rules.has -/
theorem qc_R_has (l : Launch) (G : qG) (h0 : Nat) (qw : Nat) (qx : Nat) (qu : Nat) (qs : Nat) (n : Nat) (x : Int32)  : Met l yX2_has wsX2_has ({ frames := 0, cells := 0, slots := 0, locals := 0 } : Room) (va_Pc [.ref h0, .int x] (qk_pre G vwCl [(h0, .inr (2, [.ref qw, .ref qx, .ref qu, .ref qs, .int (nI n)]))])) (vp_Si (fun r => r = if ¬ x < 0 ∧ x < nI n then nI 1 else nI 0)) 0 0 (fun _ => False) := by
  refine Met.ofW (cc := cX2_has) (maxL := 2) (ret := (some .boolean)) (by decide) rfl ?_
  intro p e s m args below meth c s₁ B hml hv
  obtain ⟨rfl, hP, hK, hN⟩ := hv
  have hx := B.exec
  have hb := B.bytes
  have hr := B.returns
  have hlocks := B.notSynchronized
  have hts := atoms_spec (ws := wsX2_has) B.pre
  have htb := fun (w : Cond) (h : w ∈ qTb) => hts w (List.mem_cons_of_mem _ h)
  have hown : s.vm.findClass "GradeRows$Rules" = some m.cls := findClass_of_methodNamed B.named
  have hP : va_P G.1 vwCl [(h0, .inr (2, [.ref qw, .ref qx, .ref qu, .ref qs, .int (nI n)]))] s.heap := hP
  have hl := lv_entry ([.ref h0, .int x]) (n := 2) (Nat.le_of_ble_eq_true rfl)
  rw [lg_entry_eq]
  generalize (lg_sl ([.ref h0, .int x]) ++ List.replicate (2 - (lg_sl ([.ref h0, .int x])).length) Slot.unset).toArray = ls at hl ⊢
  have hl : lv_has ls 2 [(0, .ref h0), (1, .int x)] := hl
  refine lv_iload_n hx hb dX2_has_0 rfl (lv_at hl 1 rfl) ?_
  refine lv_if_lt (tgt := 16) hx hb dX2_has_1 (by decide) (fun c1 => ?_) (fun c1 => ?_)
  · refine lv_iconst (v := nI 0) hx hb dX2_has_16 (by decide) ?_
    exact W.zret (v := nI 0) (ty := .boolean) hx hb hr (by decide) (fun t9 ht9 hW9 => ⟨_, rfl, (if_neg (fun h => h.1 c1)).symm, ht9⟩) (fun q h => absurd h List.not_mem_nil) dX2_has_17
  · refine lv_iload_n hx hb dX2_has_4 rfl (lv_at hl 1 rfl) ?_
    refine lv_aload_n hx hb dX2_has_5 rfl (lv_at hl 0 rfl) ?_
    refine va_get (D := G.1) (ci := 2) (v := .int (nI n)) (C := "GradeRows$Rules") (T := TX2) (N := 5) hx hb htb inX2 hown hK hP 0 rfl rfl 4 (by decide) (htb _ qw_41) (fun _ h9 => h9) rfl dX2_has_6 ?_
    refine lv_icmp_ge (tgt := 16) hx hb dX2_has_9 (by decide) (fun c2 => ?_) (fun c2 => ?_)
    · refine lv_iconst (v := nI 0) hx hb dX2_has_16 (by decide) ?_
      exact W.zret (v := nI 0) (ty := .boolean) hx hb hr (by decide) (fun t9 ht9 hW9 => ⟨_, rfl, (if_neg (fun h => qm_lt_nle h.2 c2)).symm, ht9⟩) (fun q h => absurd h List.not_mem_nil) dX2_has_17
    · refine lv_iconst (v := nI 1) hx hb dX2_has_12 (by decide) ?_
      refine lv_goto (tgt := 17) hx hb dX2_has_13 (by decide) ?_
      exact W.zret (v := nI 1) (ty := .boolean) hx hb hr (by decide) (fun t9 ht9 hW9 => ⟨_, rfl, (if_pos ⟨c1, qm_nle c2⟩).symm, ht9⟩) (fun q h => absurd h List.not_mem_nil) dX2_has_17

set_option maxHeartbeats 4000000 in
set_option maxRecDepth 100000 in
/-- Rules.add, full -/
theorem qc_R_add0 (l : Launch) (G : qG) (h0 : Nat) (qw : Nat) (qx : Nat) (qu : Nat) (qs : Nat) (n : Nat) (x : Int32) (y : Int32) (hn : ¬ n < 40) (hn2 : n ≤ 40) : Met l yX2_add wsX2_add ({ frames := 0, cells := 0, slots := 0, locals := 0 } : Room) (va_Pc [.ref h0, .int x, .int y] (qk_pre G vwCl [(h0, .inr (2, [.ref qw, .ref qx, .ref qu, .ref qs, .int (nI n)]))])) (vp_Si (fun r => r = (-1))) 0 0 (fun _ => False) := by
  refine Met.ofW (cc := cX2_add) (maxL := 3) (ret := (some .int)) (by decide) rfl ?_
  intro p e s m args below meth c s₁ B hml hv
  obtain ⟨rfl, hP, hK, hN⟩ := hv
  have hx := B.exec
  have hb := B.bytes
  have hr := B.returns
  have hlocks := B.notSynchronized
  have hts := atoms_spec (ws := wsX2_add) B.pre
  have htb := fun (w : Cond) (h : w ∈ qTb) => hts w (List.mem_cons_of_mem _ h)
  have hown : s.vm.findClass "GradeRows$Rules" = some m.cls := findClass_of_methodNamed B.named
  have hP : va_P G.1 vwCl [(h0, .inr (2, [.ref qw, .ref qx, .ref qu, .ref qs, .int (nI n)]))] s.heap := hP
  have hl := lv_entry ([.ref h0, .int x, .int y]) (n := 3) (Nat.le_of_ble_eq_true rfl)
  rw [lg_entry_eq]
  generalize (lg_sl ([.ref h0, .int x, .int y]) ++ List.replicate (3 - (lg_sl ([.ref h0, .int x, .int y])).length) Slot.unset).toArray = ls at hl ⊢
  have hl : lv_has ls 3 [(0, .ref h0), (1, .int x), (2, .int y)] := hl
  refine lv_aload_n hx hb dX2_add_0 rfl (lv_at hl 0 rfl) ?_
  refine va_get (D := G.1) (ci := 2) (v := .int (nI n)) (C := "GradeRows$Rules") (T := TX2) (N := 5) hx hb htb inX2 hown hK hP 0 rfl rfl 4 (by decide) (htb _ qw_41) (fun _ h9 => h9) rfl dX2_add_1 ?_
  refine lv_bipush (v := nI 40) hx hb dX2_add_4 (by decide) ?_
  refine lv_icmp_lt (tgt := 11) hx hb dX2_add_6 (by decide) (fun c_1 => ?_) (fun c_1 => ?_)
  · have c_1 : n < 40 := (nI_ltI (by omega) (by omega)).mp c_1
    exfalso; omega
  · have c_1 : ¬ (n < 40) := fun q9 => c_1 ((nI_ltI (by omega) (by omega)).mpr q9)
    refine lv_iconst (v := (-1)) hx hb dX2_add_9 (by decide) ?_
    exact W.iret (v := (-1)) hx hb hr (fun t9 ht9 hW9 => ⟨_, rfl, rfl, ht9⟩) (fun q h => absurd h List.not_mem_nil) dX2_add_10

set_option maxHeartbeats 4000000 in
set_option maxRecDepth 100000 in
/-- Rules.add -/
theorem qc_R_add1 (l : Launch) (G : qG) (h0 : Nat) (qw : Nat) (qx : Nat) (qu : Nat) (qs : Nat) (n : Nat) (fw : Nat → Int32) (fx : Nat → Int32) (x : Int32) (y : Int32) (sz : Nat) (hn : n < 40) : Met l yX2_add wsX2_add ({ frames := 0, cells := 0, slots := 0, locals := 0 } : Room) (va_Pc [.ref h0, .int x, .int y] (qk_prw G vwCl [(h0, .inr (2, [.ref qw, .ref qx, .ref qu, .ref qs, .int (nI n)])), (qw, .inl (G.2.1, 40, .inl fw)), (qx, .inl (G.2.1, 40, .inl fx))] sz)) (va_Qi (fun (r : Int32) (_ : Unit) => r = nI n) (qk_B G vwCl (va_A [(h0, .inr (2, [.ref qw, .ref qx, .ref qu, .ref qs, .int (nI n)])), (qw, .inl (G.2.1, 40, .inl fw)), (qx, .inl (G.2.1, 40, .inl fx))] sz) (fun (_ : Unit) => [(h0, .inr (2, [.ref qw, .ref qx, .ref qu, .ref qs, .int (nI (n + 1))])), (qw, .inl (G.2.1, 40, .inl (upd fw n x))), (qx, .inl (G.2.1, 40, .inl (upd fx n y)))])) (va_A [(h0, .inr (2, [.ref qw, .ref qx, .ref qu, .ref qs, .int (nI n)])), (qw, .inl (G.2.1, 40, .inl fw)), (qx, .inl (G.2.1, 40, .inl fx))] sz)) 0 0 (va_A [(h0, .inr (2, [.ref qw, .ref qx, .ref qu, .ref qs, .int (nI n)])), (qw, .inl (G.2.1, 40, .inl fw)), (qx, .inl (G.2.1, 40, .inl fx))] sz) := by
  refine Met.ofW (cc := cX2_add) (maxL := 3) (ret := (some .int)) (by decide) rfl ?_
  intro p e s m args below meth c s₁ B hml hv
  obtain ⟨rfl, hsz, hP, hK, hD0, hN⟩ := hv
  have hx := B.exec
  have hb := B.bytes
  have hr := B.returns
  have hlocks := B.notSynchronized
  have hts := atoms_spec (ws := wsX2_add) B.pre
  have htb := fun (w : Cond) (h : w ∈ qTb) => hts w (List.mem_cons_of_mem _ h)
  have hown : s.vm.findClass "GradeRows$Rules" = some m.cls := findClass_of_methodNamed B.named
  subst hsz
  have hD := hD0.self (sz := s.heap.size)
  generalize hAe : va_A [(h0, .inr (2, [.ref qw, .ref qx, .ref qu, .ref qs, .int (nI n)])), (qw, .inl (G.2.1, 40, .inl fw)), (qx, .inl (G.2.1, 40, .inl fx))] s.heap.size = A at hD ⊢
  have hA : ∀ q : Nat, s.heap.size ≤ q → A q := fun q h => by rw [← hAe]; exact Or.inr h
  have hS : va_S A s.heap s.heap [] := va_S.rf
  have hP : va_P G.1 vwCl [(h0, .inr (2, [.ref qw, .ref qx, .ref qu, .ref qs, .int (nI n)])), (qw, .inl (G.2.1, 40, .inl fw)), (qx, .inl (G.2.1, 40, .inl fx))] s.heap := hP
  have hl := lv_entry ([.ref h0, .int x, .int y]) (n := 3) (Nat.le_of_ble_eq_true rfl)
  rw [lg_entry_eq]
  generalize (lg_sl ([.ref h0, .int x, .int y]) ++ List.replicate (3 - (lg_sl ([.ref h0, .int x, .int y])).length) Slot.unset).toArray = ls at hl ⊢
  have hl : lv_has ls 3 [(0, .ref h0), (1, .int x), (2, .int y)] := hl
  refine lv_aload_n hx hb dX2_add_0 rfl (lv_at hl 0 rfl) ?_
  refine va_get (D := G.1) (ci := 2) (v := .int (nI n)) (C := "GradeRows$Rules") (T := TX2) (N := 5) hx hb htb inX2 hown hK hP 0 rfl rfl 4 (by decide) (htb _ qw_41) (fun _ h9 => h9) rfl dX2_add_1 ?_
  refine lv_bipush (v := nI 40) hx hb dX2_add_4 (by decide) ?_
  refine lv_icmp_lt (tgt := 11) hx hb dX2_add_6 (by decide) (fun c_1 => ?_) (fun c_1 => ?_)
  · have c_1 : n < 40 := (nI_ltI (by omega) (by omega)).mp c_1
    refine lv_aload_n hx hb dX2_add_11 rfl (lv_at hl 0 rfl) ?_
    refine va_get (D := G.1) (ci := 2) (v := .ref qw) (C := "GradeRows$Rules") (T := TX2) (N := 5) hx hb htb inX2 hown hK hP 0 rfl rfl 0 (by decide) (htb _ qw_37) (fun _ h9 => h9) rfl dX2_add_12 ?_
    refine lv_aload_n hx hb dX2_add_15 rfl (lv_at hl 0 rfl) ?_
    refine va_get (D := G.1) (ci := 2) (v := .int (nI n)) (C := "GradeRows$Rules") (T := TX2) (N := 5) hx hb htb inX2 hown hK hP 0 rfl rfl 4 (by decide) (htb _ qw_41) (fun _ h9 => h9) rfl dX2_add_16 ?_
    refine lv_iload_n hx hb dX2_add_19 rfl (lv_at hl 1 rfl) ?_
    refine qk_iast hx hb hK hP hD hS 1 0 rfl rfl (i := n) (by omega) (by omega) dX2_add_20 (fun H locs hP hD hS => ?_)
    have hP : va_P G.1 vwCl [(h0, .inr (2, [.ref qw, .ref qx, .ref qu, .ref qs, .int (nI n)])), (qw, .inl (G.2.1, 40, .inl (upd fw n x))), (qx, .inl (G.2.1, 40, .inl fx))] H := hP
    have hD : va_D A [(h0, .inr (2, [.ref qw, .ref qx, .ref qu, .ref qs, .int (nI n)])), (qw, .inl (G.2.1, 40, .inl (upd fw n x))), (qx, .inl (G.2.1, 40, .inl fx))] := hD
    refine lv_aload_n hx hb dX2_add_21 rfl (lv_at hl 0 rfl) ?_
    refine va_get (D := G.1) (ci := 2) (v := .ref qx) (C := "GradeRows$Rules") (T := TX2) (N := 5) hx hb htb inX2 hown hK hP 0 rfl rfl 1 (by decide) (htb _ qw_38) (fun _ h9 => h9) rfl dX2_add_22 ?_
    refine lv_aload_n hx hb dX2_add_25 rfl (lv_at hl 0 rfl) ?_
    refine va_get (D := G.1) (ci := 2) (v := .int (nI n)) (C := "GradeRows$Rules") (T := TX2) (N := 5) hx hb htb inX2 hown hK hP 0 rfl rfl 4 (by decide) (htb _ qw_41) (fun _ h9 => h9) rfl dX2_add_26 ?_
    refine lv_iload_n hx hb dX2_add_29 rfl (lv_at hl 2 rfl) ?_
    refine qk_iast hx hb hK hP hD hS 2 0 rfl rfl (i := n) (by omega) (by omega) dX2_add_30 (fun H locs hP hD hS => ?_)
    have hP : va_P G.1 vwCl [(h0, .inr (2, [.ref qw, .ref qx, .ref qu, .ref qs, .int (nI n)])), (qw, .inl (G.2.1, 40, .inl (upd fw n x))), (qx, .inl (G.2.1, 40, .inl (upd fx n y)))] H := hP
    have hD : va_D A [(h0, .inr (2, [.ref qw, .ref qx, .ref qu, .ref qs, .int (nI n)])), (qw, .inl (G.2.1, 40, .inl (upd fw n x))), (qx, .inl (G.2.1, 40, .inl (upd fx n y)))] := hD
    refine lv_aload_n hx hb dX2_add_31 rfl (lv_at hl 0 rfl) ?_
    refine lv_dup hx hb dX2_add_32 rfl ?_
    refine va_get (D := G.1) (ci := 2) (v := .int (nI n)) (C := "GradeRows$Rules") (T := TX2) (N := 5) hx hb htb inX2 hown hK hP 0 rfl rfl 4 (by decide) (htb _ qw_41) (fun _ h9 => h9) rfl dX2_add_33 ?_
    refine lv_iconst (v := nI 1) hx hb dX2_add_36 (by decide) ?_
    refine lv_iadd hx hb dX2_add_37 ?_
    refine qk_topi (t := nI (n + 1)) ((nI_add _ _).trans rfl) ?_
    refine va_put (D := G.1) (ci := 2) (v := .int (nI (n + 1))) (ty := .int) (C := "GradeRows$Rules") (T := TX2) (N := 5) hx hb htb inX2 tyX2 tyX2_ok nmX2 hown hK hP hD hS 0 rfl rfl 4 (by decide) (htb _ qw_41) (fun _ h9 => h9) rfl (by decide +kernel) rfl rfl (Nat.le_of_ble_eq_true rfl) dX2_add_38 (fun H locs hP hD hS => ?_)
    have hP : va_P G.1 vwCl [(h0, .inr (2, [.ref qw, .ref qx, .ref qu, .ref qs, .int (nI (n + 1))])), (qw, .inl (G.2.1, 40, .inl (upd fw n x))), (qx, .inl (G.2.1, 40, .inl (upd fx n y)))] H := hP
    have hD : va_D A [(h0, .inr (2, [.ref qw, .ref qx, .ref qu, .ref qs, .int (nI (n + 1))])), (qw, .inl (G.2.1, 40, .inl (upd fw n x))), (qx, .inl (G.2.1, 40, .inl (upd fx n y)))] := hD
    refine lv_aload_n hx hb dX2_add_41 rfl (lv_at hl 0 rfl) ?_
    refine va_get (D := G.1) (ci := 2) (v := .int (nI (n + 1))) (C := "GradeRows$Rules") (T := TX2) (N := 5) hx hb htb inX2 hown hK hP 0 rfl rfl 4 (by decide) (htb _ qw_41) (fun _ h9 => h9) rfl dX2_add_42 ?_
    refine lv_iconst (v := nI 1) hx hb dX2_add_45 (by decide) ?_
    refine lv_isub hx hb dX2_add_46 ?_
    refine qk_topi (t := nI n) (nI_pred n) ?_
    have hP9 := hP.sub (ws' := [(h0, .inr (2, [.ref qw, .ref qx, .ref qu, .ref qs, .int (nI (n + 1))])), (qw, .inl (G.2.1, 40, .inl (upd fw n x))), (qx, .inl (G.2.1, 40, .inl (upd fx n y)))]) [0, 1, 2] rfl
    have hD9 := hD.sub (ws' := [(h0, .inr (2, [.ref qw, .ref qx, .ref qu, .ref qs, .int (nI (n + 1))])), (qw, .inl (G.2.1, 40, .inl (upd fw n x))), (qx, .inl (G.2.1, 40, .inl (upd fx n y)))]) [0, 1, 2] (by decide) rfl
    exact W.iret (v := nI n) hx hb hr (fun t9 ht9 hW9 => ⟨⟨_, (), rfl, rfl, by rw [ht9]; exact hP9, va_K.moved hW9.alike hK, hD9⟩, hS.F ht9⟩) hS.2.2 dX2_add_47
  · have c_1 : ¬ (n < 40) := fun q9 => c_1 ((nI_ltI (by omega) (by omega)).mpr q9)
    exfalso; omega

set_option maxHeartbeats 4000000 in
set_option maxRecDepth 100000 in
/-- Rules.priceOfNext -/
theorem qc_R_price (l : Launch) (G : qG) (h0 : Nat) (qw : Nat) (qx : Nat) (qu : Nat) (qs : Nat) (n : Nat) (fw : Nat → Int32) (fx : Nat → Int32) (fu : Nat → Int32) (k : Nat) (b : Nat) (wk : Nat) (xk : Nat) (uk : Nat) (hk : k < n) (hn : n ≤ 40) (hw : fw k = nI wk) (hx1 : fx k = nI xk) (hu : fu k = nI uk) (hm : wk * (12 - b) ≤ 120000) (hxk : xk ≤ 100000) (huk : uk ≤ 200) (hb1 : b ≤ 12) : Met l yX2_priceOfNext wsX2_priceOfNext ({ frames := 1, cells := 0, slots := 0, locals := 21 } : Room) (va_Pc [.ref h0, .int (nI k), .int (nI b)] (qk_pre G vwCl [(h0, .inr (2, [.ref qw, .ref qx, .ref qu, .ref qs, .int (nI n)])), (qw, .inl (G.2.1, 40, .inl fw)), (qx, .inl (G.2.1, 40, .inl fx)), (qu, .inl (G.2.1, 40, .inl fu))])) (vp_Si (fun r => r = nI (wk * (12 - b) / 4 + (if uk = 0 then xk else 0)))) 0 0 (fun _ => False) := by
  refine Met.ofW (cc := cX2_priceOfNext) (maxL := 4) (ret := (some .int)) (by decide) rfl ?_
  intro p e s m args below meth c s₁ B hml hv
  obtain ⟨rfl, hP, hK, hN⟩ := hv
  have hx := B.exec
  have hb := B.bytes
  have hr := B.returns
  have hlocks := B.notSynchronized
  have hts := atoms_spec (ws := wsX2_priceOfNext) B.pre
  have htb := fun (w : Cond) (h : w ∈ qTb) => hts w (List.mem_cons_of_mem _ h)
  have hown : s.vm.findClass "GradeRows$Rules" = some m.cls := findClass_of_methodNamed B.named
  have hP : va_P G.1 vwCl [(h0, .inr (2, [.ref qw, .ref qx, .ref qu, .ref qs, .int (nI n)])), (qw, .inl (G.2.1, 40, .inl fw)), (qx, .inl (G.2.1, 40, .inl fx)), (qu, .inl (G.2.1, 40, .inl fu))] s.heap := hP
  have hl := lv_entry ([.ref h0, .int (nI k), .int (nI b)]) (n := 4) (Nat.le_of_ble_eq_true rfl)
  rw [lg_entry_eq]
  generalize (lg_sl ([.ref h0, .int (nI k), .int (nI b)]) ++ List.replicate (4 - (lg_sl ([.ref h0, .int (nI k), .int (nI b)])).length) Slot.unset).toArray = ls at hl ⊢
  have hl : lv_has ls 4 [(0, .ref h0), (1, .int (nI k)), (2, .int (nI b))] := hl
  refine lv_aload_n hx hb dX2_priceOfNext_0 rfl (lv_at hl 0 rfl) ?_
  refine lv_iload_n hx hb dX2_priceOfNext_1 rfl (lv_at hl 1 rfl) ?_
  have hPc := hP.sub (ws' := [(h0, .inr (2, [.ref qw, .ref qx, .ref qu, .ref qs, .int (nI n)]))]) [0] rfl
  refine vp_callSi (va_runV (As := [.int (nI k)]) (rest := []) ⟨hx, hb, hml, hown, htb⟩ (qc_R_has l G h0 qw qx qu qs n (nI k)) (cwV 1 htb (qW_V qw_168 qw_157 qw_158 qw_14 qw_159) rfl rfl rfl (by decide +kernel) ⟨Nat.le_of_ble_eq_true rfl, Nat.le_of_ble_eq_true rfl⟩) (qk_pv (ci := 2) (q0 := 0) hK hPc hN rfl rfl) rfl rfl hl.1 rfl (lv_room (Nat.le_of_ble_eq_true rfl)) dX2_priceOfNext_2 ⟨Nat.le_of_ble_eq_true rfl, Nat.le_of_ble_eq_true rfl⟩).run (fun r_2 e_2 => ?_)
  have e_2 := e_2.symm
  subst e_2
  refine qk_topi (t := nI 1) (if_pos ⟨nI_pos (by omega), nI_lt (by omega) (by omega)⟩) ?_
  refine lv_if_ne (tgt := 10) hx hb dX2_priceOfNext_5 (by decide) (fun c_1 => ?_) (fun c_1 => ?_)
  · have c_1 : ¬ (1 = 0) := fun q9 => c_1 ((z0eq (by omega)).mpr q9)
    refine lv_aload_n hx hb dX2_priceOfNext_10 rfl (lv_at hl 0 rfl) ?_
    refine va_get (D := G.1) (ci := 2) (v := .ref qw) (C := "GradeRows$Rules") (T := TX2) (N := 5) hx hb htb inX2 hown hK hP 0 rfl rfl 0 (by decide) (htb _ qw_37) (fun _ h9 => h9) rfl dX2_priceOfNext_11 ?_
    refine lv_iload_n hx hb dX2_priceOfNext_14 rfl (lv_at hl 1 rfl) ?_
    refine qk_iald hx hb hK hP 1 0 rfl rfl (i := k) (by omega) (by omega) (v := nI wk) hw dX2_priceOfNext_15 ?_
    refine lv_bipush (v := nI 12) hx hb dX2_priceOfNext_16 (by decide) ?_
    refine lv_iload_n hx hb dX2_priceOfNext_18 rfl (lv_at hl 2 rfl) ?_
    refine lv_isub hx hb dX2_priceOfNext_19 ?_
    refine qk_topi (t := nI (12 - b)) (pk_sub (by omega)) ?_
    refine lv_imul hx hb dX2_priceOfNext_20 ?_
    refine qk_topi (t := nI (wk * (12 - b))) (pk_mul _ _) ?_
    refine lv_iconst (v := nI 4) hx hb dX2_priceOfNext_21 (by decide) ?_
    refine lv_idiv hx hb dX2_priceOfNext_22 (by decide) ?_
    refine qk_topi (t := nI ((wk * (12 - b)) / 4)) (pk_div (by omega) (by omega) (by omega)) ?_
    refine lv_istore_n (lv' := [(3, .int (nI ((wk * (12 - b)) / 4))), (0, .ref h0), (1, .int (nI k)), (2, .int (nI b))]) hx hb dX2_priceOfNext_23 rfl hl (by decide) rfl (fun ls hl => ?_)
    refine lv_aload_n hx hb dX2_priceOfNext_24 rfl (lv_at hl 1 rfl) ?_
    refine va_get (D := G.1) (ci := 2) (v := .ref qu) (C := "GradeRows$Rules") (T := TX2) (N := 5) hx hb htb inX2 hown hK hP 0 rfl rfl 2 (by decide) (htb _ qw_39) (fun _ h9 => h9) rfl dX2_priceOfNext_25 ?_
    refine lv_iload_n hx hb dX2_priceOfNext_28 rfl (lv_at hl 2 rfl) ?_
    refine qk_iald hx hb hK hP 3 0 rfl rfl (i := k) (by omega) (by omega) (v := nI uk) hu dX2_priceOfNext_29 ?_
    refine lv_if_ne (tgt := 44) hx hb dX2_priceOfNext_30 (by decide) (fun cu => ?_) (fun cu => ?_)
    · have cu : ¬ (uk = 0) := fun q9 => cu ((z0eq (by omega)).mpr q9)
      refine lv_iload_n hx hb dX2_priceOfNext_44 rfl (lv_at hl 0 rfl) ?_
      exact W.iret (v := nI ((wk * (12 - b)) / 4)) hx hb hr (fun t9 ht9 hW9 => ⟨_, rfl, by rw [if_neg cu, Nat.add_zero], ht9⟩) (fun q h => absurd h List.not_mem_nil) dX2_priceOfNext_45
    · have cu : uk = 0 := (z0eq (by omega)).mp cu
      refine lv_iload_n hx hb dX2_priceOfNext_33 rfl (lv_at hl 0 rfl) ?_
      refine lv_aload_n hx hb dX2_priceOfNext_34 rfl (lv_at hl 1 rfl) ?_
      refine va_get (D := G.1) (ci := 2) (v := .ref qx) (C := "GradeRows$Rules") (T := TX2) (N := 5) hx hb htb inX2 hown hK hP 0 rfl rfl 1 (by decide) (htb _ qw_38) (fun _ h9 => h9) rfl dX2_priceOfNext_35 ?_
      refine lv_iload_n hx hb dX2_priceOfNext_38 rfl (lv_at hl 2 rfl) ?_
      refine qk_iald hx hb hK hP 2 0 rfl rfl (i := k) (by omega) (by omega) (v := nI xk) hx1 dX2_priceOfNext_39 ?_
      refine lv_iadd hx hb dX2_priceOfNext_40 ?_
      refine qk_topi (t := nI (((wk * (12 - b)) / 4) + xk)) ((nI_add _ _).trans rfl) ?_
      refine lv_goto (tgt := 45) hx hb dX2_priceOfNext_41 (by decide) ?_
      exact W.iret (v := nI (((wk * (12 - b)) / 4) + xk)) hx hb hr (fun t9 ht9 hW9 => ⟨_, rfl, by rw [if_pos cu], ht9⟩) (fun q h => absurd h List.not_mem_nil) dX2_priceOfNext_45
  · have c_1 : 1 = 0 := (z0eq (by omega)).mp c_1
    exfalso; omega

set_option maxHeartbeats 4000000 in
set_option maxRecDepth 100000 in
/-- Rules.noteStep -/
theorem qc_R_note (l : Launch) (G : qG) (h0 : Nat) (qw : Nat) (qx : Nat) (qu : Nat) (qs : Nat) (n : Nat) (fu : Nat → Int32) (fs : Nat → Int64) (k : Nat) (pr : Nat) (uk : Nat) (sk : Nat) (sz : Nat) (hk : k < n) (hn : n ≤ 40) (hu : fu k = nI uk) (hs : fs k = lN sk) (hpr : pr < 2 ^ 31) : Met l yX2_noteStep wsX2_noteStep ({ frames := 1, cells := 0, slots := 0, locals := 21 } : Room) (va_Pc [.ref h0, .int (nI k), .int (nI pr)] (qk_prw G vwCl [(h0, .inr (2, [.ref qw, .ref qx, .ref qu, .ref qs, .int (nI n)])), (qu, .inl (G.2.1, 40, .inl fu)), (qs, .inl (G.2.2.1, 40, .inr (.inl fs)))] sz)) (va_Qv (fun (_ : Unit) => True) (qk_B G vwCl (va_A [(h0, .inr (2, [.ref qw, .ref qx, .ref qu, .ref qs, .int (nI n)])), (qu, .inl (G.2.1, 40, .inl fu)), (qs, .inl (G.2.2.1, 40, .inr (.inl fs)))] sz) (fun (_ : Unit) => [(h0, .inr (2, [.ref qw, .ref qx, .ref qu, .ref qs, .int (nI n)])), (qu, .inl (G.2.1, 40, .inl (upd fu k (nI (uk + 1))))), (qs, .inl (G.2.2.1, 40, .inr (.inl (vp_updL fs k (lN (sk + pr))))))])) (va_A [(h0, .inr (2, [.ref qw, .ref qx, .ref qu, .ref qs, .int (nI n)])), (qu, .inl (G.2.1, 40, .inl fu)), (qs, .inl (G.2.2.1, 40, .inr (.inl fs)))] sz)) 0 0 (va_A [(h0, .inr (2, [.ref qw, .ref qx, .ref qu, .ref qs, .int (nI n)])), (qu, .inl (G.2.1, 40, .inl fu)), (qs, .inl (G.2.2.1, 40, .inr (.inl fs)))] sz) := by
  refine Met.ofW (cc := cX2_noteStep) (maxL := 3) (ret := none) (by decide) rfl ?_
  intro p e s m args below meth c s₁ B hml hv
  obtain ⟨rfl, hsz, hP, hK, hD0, hN⟩ := hv
  have hx := B.exec
  have hb := B.bytes
  have hr := B.returns
  have hlocks := B.notSynchronized
  have hts := atoms_spec (ws := wsX2_noteStep) B.pre
  have htb := fun (w : Cond) (h : w ∈ qTb) => hts w (List.mem_cons_of_mem _ h)
  have hown : s.vm.findClass "GradeRows$Rules" = some m.cls := findClass_of_methodNamed B.named
  subst hsz
  have hD := hD0.self (sz := s.heap.size)
  generalize hAe : va_A [(h0, .inr (2, [.ref qw, .ref qx, .ref qu, .ref qs, .int (nI n)])), (qu, .inl (G.2.1, 40, .inl fu)), (qs, .inl (G.2.2.1, 40, .inr (.inl fs)))] s.heap.size = A at hD ⊢
  have hA : ∀ q : Nat, s.heap.size ≤ q → A q := fun q h => by rw [← hAe]; exact Or.inr h
  have hS : va_S A s.heap s.heap [] := va_S.rf
  have hP : va_P G.1 vwCl [(h0, .inr (2, [.ref qw, .ref qx, .ref qu, .ref qs, .int (nI n)])), (qu, .inl (G.2.1, 40, .inl fu)), (qs, .inl (G.2.2.1, 40, .inr (.inl fs)))] s.heap := hP
  have hl := lv_entry ([.ref h0, .int (nI k), .int (nI pr)]) (n := 3) (Nat.le_of_ble_eq_true rfl)
  rw [lg_entry_eq]
  generalize (lg_sl ([.ref h0, .int (nI k), .int (nI pr)]) ++ List.replicate (3 - (lg_sl ([.ref h0, .int (nI k), .int (nI pr)])).length) Slot.unset).toArray = ls at hl ⊢
  have hl : lv_has ls 3 [(0, .ref h0), (1, .int (nI k)), (2, .int (nI pr))] := hl
  refine lv_aload_n hx hb dX2_noteStep_0 rfl (lv_at hl 0 rfl) ?_
  refine lv_iload_n hx hb dX2_noteStep_1 rfl (lv_at hl 1 rfl) ?_
  have hPc := hP.sub (ws' := [(h0, .inr (2, [.ref qw, .ref qx, .ref qu, .ref qs, .int (nI n)]))]) [0] rfl
  refine vp_callSi (va_runV (As := [.int (nI k)]) (rest := []) ⟨hx, hb, hml, hown, htb⟩ (qc_R_has l G h0 qw qx qu qs n (nI k)) (cwV 1 htb (qW_V qw_168 qw_157 qw_158 qw_14 qw_159) rfl rfl rfl (by decide +kernel) ⟨Nat.le_of_ble_eq_true rfl, Nat.le_of_ble_eq_true rfl⟩) (qk_pv (ci := 2) (q0 := 0) hK hPc hN rfl rfl) rfl rfl hl.1 rfl (lv_room (Nat.le_of_ble_eq_true rfl)) dX2_noteStep_2 ⟨Nat.le_of_ble_eq_true rfl, Nat.le_of_ble_eq_true rfl⟩).run (fun r_2 e_2 => ?_)
  have e_2 := e_2.symm
  subst e_2
  refine qk_topi (t := nI 1) (if_pos ⟨nI_pos (by omega), nI_lt (by omega) (by omega)⟩) ?_
  refine lv_if_eq (tgt := 29) hx hb dX2_noteStep_5 (by decide) (fun c_1 => ?_) (fun c_1 => ?_)
  · have c_1 : 1 = 0 := (z0eq (by omega)).mp c_1
    exfalso; omega
  · have c_1 : ¬ (1 = 0) := fun q9 => c_1 ((z0eq (by omega)).mpr q9)
    refine lv_aload_n hx hb dX2_noteStep_8 rfl (lv_at hl 0 rfl) ?_
    refine va_get (D := G.1) (ci := 2) (v := .ref qu) (C := "GradeRows$Rules") (T := TX2) (N := 5) hx hb htb inX2 hown hK hP 0 rfl rfl 2 (by decide) (htb _ qw_39) (fun _ h9 => h9) rfl dX2_noteStep_9 ?_
    refine lv_iload_n hx hb dX2_noteStep_12 rfl (lv_at hl 1 rfl) ?_
    refine lv_dup2_11 hx hb dX2_noteStep_13 rfl rfl ?_
    refine qk_iald hx hb hK hP 1 0 rfl rfl (i := k) (by omega) (by omega) (v := nI uk) hu dX2_noteStep_14 ?_
    refine lv_iconst (v := nI 1) hx hb dX2_noteStep_15 (by decide) ?_
    refine lv_iadd hx hb dX2_noteStep_16 ?_
    refine qk_topi (t := nI (uk + 1)) ((nI_add _ _).trans rfl) ?_
    refine qk_iast hx hb hK hP hD hS 1 0 rfl rfl (i := k) (by omega) (by omega) dX2_noteStep_17 (fun H locs hP hD hS => ?_)
    have hP : va_P G.1 vwCl [(h0, .inr (2, [.ref qw, .ref qx, .ref qu, .ref qs, .int (nI n)])), (qu, .inl (G.2.1, 40, .inl (upd fu k (nI (uk + 1))))), (qs, .inl (G.2.2.1, 40, .inr (.inl fs)))] H := hP
    have hD : va_D A [(h0, .inr (2, [.ref qw, .ref qx, .ref qu, .ref qs, .int (nI n)])), (qu, .inl (G.2.1, 40, .inl (upd fu k (nI (uk + 1))))), (qs, .inl (G.2.2.1, 40, .inr (.inl fs)))] := hD
    refine lv_aload_n hx hb dX2_noteStep_18 rfl (lv_at hl 0 rfl) ?_
    refine va_get (D := G.1) (ci := 2) (v := .ref qs) (C := "GradeRows$Rules") (T := TX2) (N := 5) hx hb htb inX2 hown hK hP 0 rfl rfl 3 (by decide) (htb _ qw_40) (fun _ h9 => h9) rfl dX2_noteStep_19 ?_
    refine lv_iload_n hx hb dX2_noteStep_22 rfl (lv_at hl 1 rfl) ?_
    refine lv_dup2_11 hx hb dX2_noteStep_23 rfl rfl ?_
    refine qk_lald hx hb hK hP 2 1 rfl rfl (i := k) (by omega) (by omega) (v := lN sk) hs dX2_noteStep_24 ?_
    refine lv_iload_n hx hb dX2_noteStep_25 rfl (lv_at hl 2 rfl) ?_
    refine lv_i2l (v := lN pr) hx hb dX2_noteStep_26 (nI_l (by omega)) ?_
    refine lv_ladd hx hb dX2_noteStep_27 ?_
    refine qk_topl (t := lN (sk + pr)) ((lN_add _ _).trans rfl) ?_
    refine qk_last hx hb hK hP hD hS 2 1 rfl rfl (i := k) (by omega) (by omega) dX2_noteStep_28 (fun H locs hP hD hS => ?_)
    have hP : va_P G.1 vwCl [(h0, .inr (2, [.ref qw, .ref qx, .ref qu, .ref qs, .int (nI n)])), (qu, .inl (G.2.1, 40, .inl (upd fu k (nI (uk + 1))))), (qs, .inl (G.2.2.1, 40, .inr (.inl (vp_updL fs k (lN (sk + pr))))))] H := hP
    have hD : va_D A [(h0, .inr (2, [.ref qw, .ref qx, .ref qu, .ref qs, .int (nI n)])), (qu, .inl (G.2.1, 40, .inl (upd fu k (nI (uk + 1))))), (qs, .inl (G.2.2.1, 40, .inr (.inl (vp_updL fs k (lN (sk + pr))))))] := hD
    have hP9 := hP.sub (ws' := [(h0, .inr (2, [.ref qw, .ref qx, .ref qu, .ref qs, .int (nI n)])), (qu, .inl (G.2.1, 40, .inl (upd fu k (nI (uk + 1))))), (qs, .inl (G.2.2.1, 40, .inr (.inl (vp_updL fs k (lN (sk + pr))))))]) [0, 1, 2] rfl
    have hD9 := hD.sub (ws' := [(h0, .inr (2, [.ref qw, .ref qx, .ref qu, .ref qs, .int (nI n)])), (qu, .inl (G.2.1, 40, .inl (upd fu k (nI (uk + 1))))), (qs, .inl (G.2.2.1, 40, .inr (.inl (vp_updL fs k (lN (sk + pr))))))]) [0, 1, 2] (by decide) rfl
    exact W.vret hx hb hr (fun t9 ht9 hW9 => ⟨⟨(), rfl, trivial, by rw [ht9]; exact hP9, va_K.moved hW9.alike hK, hD9⟩, hS.F ht9⟩) hS.2.2 dX2_noteStep_29

set_option maxHeartbeats 4000000 in
set_option maxRecDepth 100000 in
/-- Rules.forgetStep -/
theorem qc_R_forget (l : Launch) (G : qG) (h0 : Nat) (qw : Nat) (qx : Nat) (qu : Nat) (qs : Nat) (n : Nat) (fu : Nat → Int32) (fs : Nat → Int64) (k : Nat) (pr : Nat) (uk : Nat) (sk : Nat) (sz : Nat) (hk : k < n) (hn : n ≤ 40) (hu : fu k = nI (uk + 1)) (hs : fs k = lN (sk + pr)) (hpr : pr < 2 ^ 31) : Met l yX2_forgetStep wsX2_forgetStep ({ frames := 1, cells := 0, slots := 0, locals := 21 } : Room) (va_Pc [.ref h0, .int (nI k), .int (nI pr)] (qk_prw G vwCl [(h0, .inr (2, [.ref qw, .ref qx, .ref qu, .ref qs, .int (nI n)])), (qu, .inl (G.2.1, 40, .inl fu)), (qs, .inl (G.2.2.1, 40, .inr (.inl fs)))] sz)) (va_Qv (fun (_ : Unit) => True) (qk_B G vwCl (va_A [(h0, .inr (2, [.ref qw, .ref qx, .ref qu, .ref qs, .int (nI n)])), (qu, .inl (G.2.1, 40, .inl fu)), (qs, .inl (G.2.2.1, 40, .inr (.inl fs)))] sz) (fun (_ : Unit) => [(h0, .inr (2, [.ref qw, .ref qx, .ref qu, .ref qs, .int (nI n)])), (qu, .inl (G.2.1, 40, .inl (upd fu k (nI uk)))), (qs, .inl (G.2.2.1, 40, .inr (.inl (vp_updL fs k (lN sk)))))])) (va_A [(h0, .inr (2, [.ref qw, .ref qx, .ref qu, .ref qs, .int (nI n)])), (qu, .inl (G.2.1, 40, .inl fu)), (qs, .inl (G.2.2.1, 40, .inr (.inl fs)))] sz)) 0 0 (va_A [(h0, .inr (2, [.ref qw, .ref qx, .ref qu, .ref qs, .int (nI n)])), (qu, .inl (G.2.1, 40, .inl fu)), (qs, .inl (G.2.2.1, 40, .inr (.inl fs)))] sz) := by
  refine Met.ofW (cc := cX2_forgetStep) (maxL := 3) (ret := none) (by decide) rfl ?_
  intro p e s m args below meth c s₁ B hml hv
  obtain ⟨rfl, hsz, hP, hK, hD0, hN⟩ := hv
  have hx := B.exec
  have hb := B.bytes
  have hr := B.returns
  have hlocks := B.notSynchronized
  have hts := atoms_spec (ws := wsX2_forgetStep) B.pre
  have htb := fun (w : Cond) (h : w ∈ qTb) => hts w (List.mem_cons_of_mem _ h)
  have hown : s.vm.findClass "GradeRows$Rules" = some m.cls := findClass_of_methodNamed B.named
  subst hsz
  have hD := hD0.self (sz := s.heap.size)
  generalize hAe : va_A [(h0, .inr (2, [.ref qw, .ref qx, .ref qu, .ref qs, .int (nI n)])), (qu, .inl (G.2.1, 40, .inl fu)), (qs, .inl (G.2.2.1, 40, .inr (.inl fs)))] s.heap.size = A at hD ⊢
  have hA : ∀ q : Nat, s.heap.size ≤ q → A q := fun q h => by rw [← hAe]; exact Or.inr h
  have hS : va_S A s.heap s.heap [] := va_S.rf
  have hP : va_P G.1 vwCl [(h0, .inr (2, [.ref qw, .ref qx, .ref qu, .ref qs, .int (nI n)])), (qu, .inl (G.2.1, 40, .inl fu)), (qs, .inl (G.2.2.1, 40, .inr (.inl fs)))] s.heap := hP
  have hl := lv_entry ([.ref h0, .int (nI k), .int (nI pr)]) (n := 3) (Nat.le_of_ble_eq_true rfl)
  rw [lg_entry_eq]
  generalize (lg_sl ([.ref h0, .int (nI k), .int (nI pr)]) ++ List.replicate (3 - (lg_sl ([.ref h0, .int (nI k), .int (nI pr)])).length) Slot.unset).toArray = ls at hl ⊢
  have hl : lv_has ls 3 [(0, .ref h0), (1, .int (nI k)), (2, .int (nI pr))] := hl
  refine lv_aload_n hx hb dX2_forgetStep_0 rfl (lv_at hl 0 rfl) ?_
  refine lv_iload_n hx hb dX2_forgetStep_1 rfl (lv_at hl 1 rfl) ?_
  have hPc := hP.sub (ws' := [(h0, .inr (2, [.ref qw, .ref qx, .ref qu, .ref qs, .int (nI n)]))]) [0] rfl
  refine vp_callSi (va_runV (As := [.int (nI k)]) (rest := []) ⟨hx, hb, hml, hown, htb⟩ (qc_R_has l G h0 qw qx qu qs n (nI k)) (cwV 1 htb (qW_V qw_168 qw_157 qw_158 qw_14 qw_159) rfl rfl rfl (by decide +kernel) ⟨Nat.le_of_ble_eq_true rfl, Nat.le_of_ble_eq_true rfl⟩) (qk_pv (ci := 2) (q0 := 0) hK hPc hN rfl rfl) rfl rfl hl.1 rfl (lv_room (Nat.le_of_ble_eq_true rfl)) dX2_forgetStep_2 ⟨Nat.le_of_ble_eq_true rfl, Nat.le_of_ble_eq_true rfl⟩).run (fun r_2 e_2 => ?_)
  have e_2 := e_2.symm
  subst e_2
  refine qk_topi (t := nI 1) (if_pos ⟨nI_pos (by omega), nI_lt (by omega) (by omega)⟩) ?_
  refine lv_if_eq (tgt := 29) hx hb dX2_forgetStep_5 (by decide) (fun c_1 => ?_) (fun c_1 => ?_)
  · have c_1 : 1 = 0 := (z0eq (by omega)).mp c_1
    exfalso; omega
  · have c_1 : ¬ (1 = 0) := fun q9 => c_1 ((z0eq (by omega)).mpr q9)
    refine lv_aload_n hx hb dX2_forgetStep_8 rfl (lv_at hl 0 rfl) ?_
    refine va_get (D := G.1) (ci := 2) (v := .ref qu) (C := "GradeRows$Rules") (T := TX2) (N := 5) hx hb htb inX2 hown hK hP 0 rfl rfl 2 (by decide) (htb _ qw_39) (fun _ h9 => h9) rfl dX2_forgetStep_9 ?_
    refine lv_iload_n hx hb dX2_forgetStep_12 rfl (lv_at hl 1 rfl) ?_
    refine lv_dup2_11 hx hb dX2_forgetStep_13 rfl rfl ?_
    refine qk_iald hx hb hK hP 1 0 rfl rfl (i := k) (by omega) (by omega) (v := nI (uk + 1)) hu dX2_forgetStep_14 ?_
    refine lv_iconst (v := nI 1) hx hb dX2_forgetStep_15 (by decide) ?_
    refine lv_isub hx hb dX2_forgetStep_16 ?_
    refine qk_topi (t := nI uk) (nI_pred uk) ?_
    refine qk_iast hx hb hK hP hD hS 1 0 rfl rfl (i := k) (by omega) (by omega) dX2_forgetStep_17 (fun H locs hP hD hS => ?_)
    have hP : va_P G.1 vwCl [(h0, .inr (2, [.ref qw, .ref qx, .ref qu, .ref qs, .int (nI n)])), (qu, .inl (G.2.1, 40, .inl (upd fu k (nI uk)))), (qs, .inl (G.2.2.1, 40, .inr (.inl fs)))] H := hP
    have hD : va_D A [(h0, .inr (2, [.ref qw, .ref qx, .ref qu, .ref qs, .int (nI n)])), (qu, .inl (G.2.1, 40, .inl (upd fu k (nI uk)))), (qs, .inl (G.2.2.1, 40, .inr (.inl fs)))] := hD
    refine lv_aload_n hx hb dX2_forgetStep_18 rfl (lv_at hl 0 rfl) ?_
    refine va_get (D := G.1) (ci := 2) (v := .ref qs) (C := "GradeRows$Rules") (T := TX2) (N := 5) hx hb htb inX2 hown hK hP 0 rfl rfl 3 (by decide) (htb _ qw_40) (fun _ h9 => h9) rfl dX2_forgetStep_19 ?_
    refine lv_iload_n hx hb dX2_forgetStep_22 rfl (lv_at hl 1 rfl) ?_
    refine lv_dup2_11 hx hb dX2_forgetStep_23 rfl rfl ?_
    refine qk_lald hx hb hK hP 2 1 rfl rfl (i := k) (by omega) (by omega) (v := lN (sk + pr)) hs dX2_forgetStep_24 ?_
    refine lv_iload_n hx hb dX2_forgetStep_25 rfl (lv_at hl 2 rfl) ?_
    refine lv_i2l (v := lN pr) hx hb dX2_forgetStep_26 (nI_l (by omega)) ?_
    refine lv_lsub hx hb dX2_forgetStep_27 ?_
    refine qk_topl (t := lN sk) ((lN_sub (by omega)).trans (by rw [Nat.add_sub_cancel])) ?_
    refine qk_last hx hb hK hP hD hS 2 1 rfl rfl (i := k) (by omega) (by omega) dX2_forgetStep_28 (fun H locs hP hD hS => ?_)
    have hP : va_P G.1 vwCl [(h0, .inr (2, [.ref qw, .ref qx, .ref qu, .ref qs, .int (nI n)])), (qu, .inl (G.2.1, 40, .inl (upd fu k (nI uk)))), (qs, .inl (G.2.2.1, 40, .inr (.inl (vp_updL fs k (lN sk)))))] H := hP
    have hD : va_D A [(h0, .inr (2, [.ref qw, .ref qx, .ref qu, .ref qs, .int (nI n)])), (qu, .inl (G.2.1, 40, .inl (upd fu k (nI uk)))), (qs, .inl (G.2.2.1, 40, .inr (.inl (vp_updL fs k (lN sk)))))] := hD
    have hP9 := hP.sub (ws' := [(h0, .inr (2, [.ref qw, .ref qx, .ref qu, .ref qs, .int (nI n)])), (qu, .inl (G.2.1, 40, .inl (upd fu k (nI uk)))), (qs, .inl (G.2.2.1, 40, .inr (.inl (vp_updL fs k (lN sk)))))]) [0, 1, 2] rfl
    have hD9 := hD.sub (ws' := [(h0, .inr (2, [.ref qw, .ref qx, .ref qu, .ref qs, .int (nI n)])), (qu, .inl (G.2.1, 40, .inl (upd fu k (nI uk)))), (qs, .inl (G.2.2.1, 40, .inr (.inl (vp_updL fs k (lN sk)))))]) [0, 1, 2] (by decide) rfl
    exact W.vret hx hb hr (fun t9 ht9 hW9 => ⟨⟨(), rfl, trivial, by rw [ht9]; exact hP9, va_K.moved hW9.alike hK, hD9⟩, hS.F ht9⟩) hS.2.2 dX2_forgetStep_29

set_option maxHeartbeats 4000000 in
set_option maxRecDepth 100000 in
/-- Rules.forgetStep of a guess -/
theorem qc_R_forget0 (l : Launch) (G : qG) (h0 : Nat) (qw : Nat) (qx : Nat) (qu : Nat) (qs : Nat) (n : Nat) (x : Int32)  : Met l yX2_forgetStep wsX2_forgetStep ({ frames := 1, cells := 0, slots := 0, locals := 21 } : Room) (va_Pc [.ref h0, .int (-1), .int x] (qk_pre G vwCl [(h0, .inr (2, [.ref qw, .ref qx, .ref qu, .ref qs, .int (nI n)]))])) (va_Sv (fun _ => True)) 0 0 (fun _ => False) := by
  refine Met.ofW (cc := cX2_forgetStep) (maxL := 3) (ret := none) (by decide) rfl ?_
  intro p e s m args below meth c s₁ B hml hv
  obtain ⟨rfl, hP, hK, hN⟩ := hv
  have hx := B.exec
  have hb := B.bytes
  have hr := B.returns
  have hlocks := B.notSynchronized
  have hts := atoms_spec (ws := wsX2_forgetStep) B.pre
  have htb := fun (w : Cond) (h : w ∈ qTb) => hts w (List.mem_cons_of_mem _ h)
  have hown : s.vm.findClass "GradeRows$Rules" = some m.cls := findClass_of_methodNamed B.named
  have hP : va_P G.1 vwCl [(h0, .inr (2, [.ref qw, .ref qx, .ref qu, .ref qs, .int (nI n)]))] s.heap := hP
  have hl := lv_entry ([.ref h0, .int (-1), .int x]) (n := 3) (Nat.le_of_ble_eq_true rfl)
  rw [lg_entry_eq]
  generalize (lg_sl ([.ref h0, .int (-1), .int x]) ++ List.replicate (3 - (lg_sl ([.ref h0, .int (-1), .int x])).length) Slot.unset).toArray = ls at hl ⊢
  have hl : lv_has ls 3 [(0, .ref h0), (1, .int (-1)), (2, .int x)] := hl
  refine lv_aload_n hx hb dX2_forgetStep_0 rfl (lv_at hl 0 rfl) ?_
  refine lv_iload_n hx hb dX2_forgetStep_1 rfl (lv_at hl 1 rfl) ?_
  have hPc := hP.sub (ws' := [(h0, .inr (2, [.ref qw, .ref qx, .ref qu, .ref qs, .int (nI n)]))]) [0] rfl
  refine vp_callSi (va_runV (As := [.int (-1)]) (rest := []) ⟨hx, hb, hml, hown, htb⟩ (qc_R_has l G h0 qw qx qu qs n (-1)) (cwV 1 htb (qW_V qw_168 qw_157 qw_158 qw_14 qw_159) rfl rfl rfl (by decide +kernel) ⟨Nat.le_of_ble_eq_true rfl, Nat.le_of_ble_eq_true rfl⟩) (qk_pv (ci := 2) (q0 := 0) hK hPc hN rfl rfl) rfl rfl hl.1 rfl (lv_room (Nat.le_of_ble_eq_true rfl)) dX2_forgetStep_2 ⟨Nat.le_of_ble_eq_true rfl, Nat.le_of_ble_eq_true rfl⟩).run (fun r_2 e_2 => ?_)
  have e_2 := e_2.symm
  subst e_2
  refine qk_topi (t := nI 0) (if_neg (fun h => h.1 (by decide))) ?_
  refine lv_if_eq (tgt := 29) hx hb dX2_forgetStep_5 (by decide) (fun c_1 => ?_) (fun c_1 => ?_)
  · have c_1 : 0 = 0 := (z0eq (by omega)).mp c_1
    exact W.vret hx hb hr (fun t9 ht9 hW9 => ⟨rfl, trivial, ht9⟩) (fun q h => absurd h List.not_mem_nil) dX2_forgetStep_29
  · have c_1 : ¬ (0 = 0) := fun q9 => c_1 ((z0eq (by omega)).mpr q9)
    exfalso; omega

set_option maxHeartbeats 4000000 in
set_option maxRecDepth 100000 in
/-- Rules.dearest -/
theorem qc_R_dear (l : Launch) (G : qG) (h0 : Nat) (qw : Nat) (qx : Nat) (qu : Nat) (qs : Nat) (n : Nat) (fu : Nat → Int32) (fs : Nat → Int64) (u : Nat → Nat) (sp : Nat → Nat) (hn : n ≤ 40) (hu : ∀ i, i < n → fu i = nI (u i)) (hs : ∀ i, i < n → fs i = lN (sp i)) (hub : ∀ i, i < n → u i ≤ 200) (hsb : ∀ i, i < n → sp i ≤ 26000000) : Met l yX2_dearest wsX2_dearest ({ frames := 0, cells := 0, slots := 0, locals := 0 } : Room) (va_Pc [.ref h0] (qk_pre G vwCl [(h0, .inr (2, [.ref qw, .ref qx, .ref qu, .ref qs, .int (nI n)])), (qu, .inl (G.2.1, 40, .inl fu)), (qs, .inl (G.2.2.1, 40, .inr (.inl fs)))])) (vp_Si (fun r => r = nM (qm_hd u sp n).1)) 0 0 (fun _ => False) := by
  refine Met.ofW (cc := cX2_dearest) (maxL := 5) (ret := (some .int)) (by decide) rfl ?_
  intro p e s m args below meth c s₁ B hml hv
  obtain ⟨rfl, hP, hK, hN⟩ := hv
  have hx := B.exec
  have hb := B.bytes
  have hr := B.returns
  have hlocks := B.notSynchronized
  have hts := atoms_spec (ws := wsX2_dearest) B.pre
  have htb := fun (w : Cond) (h : w ∈ qTb) => hts w (List.mem_cons_of_mem _ h)
  have hown : s.vm.findClass "GradeRows$Rules" = some m.cls := findClass_of_methodNamed B.named
  have hP : va_P G.1 vwCl [(h0, .inr (2, [.ref qw, .ref qx, .ref qu, .ref qs, .int (nI n)])), (qu, .inl (G.2.1, 40, .inl fu)), (qs, .inl (G.2.2.1, 40, .inr (.inl fs)))] s.heap := hP
  have hl := lv_entry ([.ref h0]) (n := 5) (Nat.le_of_ble_eq_true rfl)
  rw [lg_entry_eq]
  generalize (lg_sl ([.ref h0]) ++ List.replicate (5 - (lg_sl ([.ref h0])).length) Slot.unset).toArray = ls at hl ⊢
  have hl : lv_has ls 5 [(0, .ref h0)] := hl
  refine lv_iconst (v := (-1)) hx hb dX2_dearest_0 (by decide) ?_
  refine qk_topi (t := nM 0) nM_0.symm ?_
  refine lv_istore_n (lv' := [(1, .int (nM 0)), (0, .ref h0)]) hx hb dX2_dearest_1 rfl hl (by decide) rfl (fun ls hl => ?_)
  refine lv_ldc2 (v := -1) hx hb hown (htb _ qw_321) dX2_dearest_2 ?_
  refine qk_topl (t := lM 0) lM_0.symm ?_
  refine lv_lstore_n (lv' := [(2, .long (lM 0)), (1, .int (nM 0)), (0, .ref h0)]) hx hb dX2_dearest_5 rfl hl (by decide) rfl (fun ls hl => ?_)
  refine lv_iconst (v := nI 0) hx hb dX2_dearest_6 (by decide) ?_
  refine lv_istore (lv' := [(4, .int (nI 0)), (2, .long (lM 0)), (1, .int (nM 0)), (0, .ref h0)]) hx hb dX2_dearest_7 hl (by decide) rfl (fun ls hl => ?_)
  have loop_9 : ∀ (N : Nat) (i : Nat) (b : Nat) (mo : Nat) (ls : Array Slot), n - i < N → (i ≤ n) → (qm_hd u sp i = (b, mo)) → (b ≤ i ∧ mo ≤ 26000001) → lv_has ls 5 [(4, .int (nI i)), (2, .long (lM mo)), (1, .int (nM b)), (0, .ref h0)] → W p l e (headSpec wsX2_dearest ({ frames := 0, cells := 0, slots := 0, locals := 0 } : Room)).room s m ([.ref h0] : List Value).toArray below meth c s.heap [] 0 0 (MQ below (vp_Si (fun r => r = nM (qm_hd u sp n).1)) ([.ref h0] : List Value).toArray s 0 0 (fun _ => False)) (F0 m 9 ls []) := by
    intro N
    induction N with
    | zero => intro i b mo ls hm; exact absurd hm (Nat.not_lt_zero _)
    | succ N ih_9 =>
      intro i b mo ls hm hi hq hbm hl
      refine lv_iload hx hb dX2_dearest_9 (lv_at hl 0 rfl) ?_
      refine lv_aload_n hx hb dX2_dearest_11 rfl (lv_at hl 3 rfl) ?_
      refine va_get (D := G.1) (ci := 2) (v := .int (nI n)) (C := "GradeRows$Rules") (T := TX2) (N := 5) hx hb htb inX2 hown hK hP 0 rfl rfl 4 (by decide) (htb _ qw_41) (fun _ h9 => h9) rfl dX2_dearest_12 ?_
      refine lv_icmp_ge (tgt := 57) hx hb dX2_dearest_15 (by decide) (fun c_1 => ?_) (fun c_1 => ?_)
      · have c_1 : n ≤ i := (nI_leI (by omega) (by omega)).mp c_1
        refine lv_iload_n hx hb dX2_dearest_57 rfl (lv_at hl 2 rfl) ?_
        exact W.iret (v := nM b) hx hb hr (fun t9 ht9 hW9 => ⟨_, rfl, by rw [← show i = n by omega, hq], ht9⟩) (fun q h => absurd h List.not_mem_nil) dX2_dearest_58
      · have c_1 : ¬ (n ≤ i) := fun q9 => c_1 ((nI_leI (by omega) (by omega)).mpr q9)
        refine lv_aload_n hx hb dX2_dearest_18 rfl (lv_at hl 3 rfl) ?_
        refine va_get (D := G.1) (ci := 2) (v := .ref qu) (C := "GradeRows$Rules") (T := TX2) (N := 5) hx hb htb inX2 hown hK hP 0 rfl rfl 2 (by decide) (htb _ qw_39) (fun _ h9 => h9) rfl dX2_dearest_19 ?_
        refine lv_iload hx hb dX2_dearest_22 (lv_at hl 0 rfl) ?_
        have hub1 := hub i (by omega)
        have hsb1 := hsb i (by omega)
        refine qk_iald hx hb hK hP 1 0 rfl rfl (i := i) (by omega) (by omega) (v := nI (u i)) (hu i (by omega)) dX2_dearest_24 ?_
        refine lv_if_le (tgt := 51) hx hb dX2_dearest_25 (by decide) (fun c_2 => ?_) (fun c_2 => ?_)
        · have c_2 : (u i) ≤ 0 := (z0le (by omega)).mp c_2
          refine lv_iinc (v := nI (i + 1)) (lv' := [(4, .int (nI (i + 1))), (2, .long (lM mo)), (1, .int (nM b)), (0, .ref h0)]) hx hb dX2_dearest_51 hl (k := 0) rfl (nI_1 i) (by decide) rfl (fun ls hl => ?_)
          refine lv_goto (tgt := 9) hx hb dX2_dearest_54 (by decide) ?_
          exact ih_9 (i + 1) b mo ls (by omega) (by omega) ((qm_hd_no (by rw [hq]; intro h; omega)).trans hq) (⟨by omega, hbm.2⟩) (lv_sub hl [0, 1, 2, 3] rfl)
        · have c_2 : ¬ ((u i) ≤ 0) := fun q9 => c_2 ((z0le (by omega)).mpr q9)
          refine lv_aload_n hx hb dX2_dearest_28 rfl (lv_at hl 3 rfl) ?_
          refine va_get (D := G.1) (ci := 2) (v := .ref qs) (C := "GradeRows$Rules") (T := TX2) (N := 5) hx hb htb inX2 hown hK hP 0 rfl rfl 3 (by decide) (htb _ qw_40) (fun _ h9 => h9) rfl dX2_dearest_29 ?_
          refine lv_iload hx hb dX2_dearest_32 (lv_at hl 0 rfl) ?_
          refine qk_lald hx hb hK hP 2 1 rfl rfl (i := i) (by omega) (by omega) (v := lM (sp i + 1)) ((hs i (by omega)).trans (lM_s _).symm) dX2_dearest_34 ?_
          refine lv_lload_n hx hb dX2_dearest_35 rfl (lv_at hl 1 rfl) ?_
          refine W.lcmp hx hb dX2_dearest_36 ?_
          refine lv_if_le (tgt := 51) hx hb dX2_dearest_37 (by decide) (fun c_3 => ?_) (fun c_3 => ?_)
          · have c_3 : (sp i + 1) ≤ mo := ((lg_cmp_le _ _).trans (lM_le (by omega) (by omega))).mp c_3
            refine lv_iinc (v := nI (i + 1)) (lv' := [(4, .int (nI (i + 1))), (2, .long (lM mo)), (1, .int (nM b)), (0, .ref h0)]) hx hb dX2_dearest_51 hl (k := 0) rfl (nI_1 i) (by decide) rfl (fun ls hl => ?_)
            refine lv_goto (tgt := 9) hx hb dX2_dearest_54 (by decide) ?_
            exact ih_9 (i + 1) b mo ls (by omega) (by omega) ((qm_hd_no (by rw [hq]; intro h; omega)).trans hq) (⟨by omega, hbm.2⟩) (lv_sub hl [0, 1, 2, 3] rfl)
          · have c_3 : ¬ ((sp i + 1) ≤ mo) := fun q9 => c_3 (((lg_cmp_le _ _).trans (lM_le (by omega) (by omega))).mpr q9)
            refine lv_iload hx hb dX2_dearest_40 (lv_at hl 0 rfl) ?_
            refine qk_topi (t := nM (i + 1)) (nM_s i).symm ?_
            refine lv_istore_n (lv' := [(1, .int (nM (i + 1))), (4, .int (nI i)), (2, .long (lM mo)), (0, .ref h0)]) hx hb dX2_dearest_42 rfl hl (by decide) rfl (fun ls hl => ?_)
            refine lv_aload_n hx hb dX2_dearest_43 rfl (lv_at hl 3 rfl) ?_
            refine va_get (D := G.1) (ci := 2) (v := .ref qs) (C := "GradeRows$Rules") (T := TX2) (N := 5) hx hb htb inX2 hown hK hP 0 rfl rfl 3 (by decide) (htb _ qw_40) (fun _ h9 => h9) rfl dX2_dearest_44 ?_
            refine lv_iload hx hb dX2_dearest_47 (lv_at hl 1 rfl) ?_
            refine qk_lald hx hb hK hP 2 1 rfl rfl (i := i) (by omega) (by omega) (v := lM (sp i + 1)) ((hs i (by omega)).trans (lM_s _).symm) dX2_dearest_49 ?_
            refine lv_lstore_n (lv' := [(2, .long (lM (sp i + 1))), (1, .int (nM (i + 1))), (4, .int (nI i)), (0, .ref h0)]) hx hb dX2_dearest_50 rfl hl (by decide) rfl (fun ls hl => ?_)
            refine lv_iinc (v := nI (i + 1)) (lv' := [(4, .int (nI (i + 1))), (2, .long (lM (sp i + 1))), (1, .int (nM (i + 1))), (0, .ref h0)]) hx hb dX2_dearest_51 hl (k := 2) rfl (nI_1 i) (by decide) rfl (fun ls hl => ?_)
            refine lv_goto (tgt := 9) hx hb dX2_dearest_54 (by decide) ?_
            exact ih_9 (i + 1) (i + 1) (sp i + 1) ls (by omega) (by omega) ((qm_hd_yes (by rw [hq]; exact ⟨by omega, by omega⟩)).trans rfl) (⟨Nat.le_refl _, by have := hsb i (by omega); omega⟩) (lv_sub hl [0, 1, 2, 3] rfl)
  exact loop_9 (n - 0 + 1) 0 0 0 ls (by omega) (Nat.zero_le n) rfl (⟨Nat.le_refl 0, Nat.zero_le _⟩) (lv_sub hl [0, 1, 2, 3] rfl)
