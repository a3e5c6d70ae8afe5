set_option maxHeartbeats 4000000 in
set_option maxRecDepth 100000 in
/-- Steps.count -/
theorem qc_T_count (l : Launch) (G : qG) (h0 : Nat) (qr : Nat) (qp : Nat) (qd : Nat) (qc : Nat) (qf : Nat) (qt : Nat) (sp : Nat) (sc : Nat) (n : Nat)  : Met l yX4_count wsX4_count ({ frames := 0, cells := 0, slots := 0, locals := 0 } : Room) (va_Pc [.ref h0] (qk_pre G vwCl [(h0, .inr (4, [.ref qr, .ref qp, .ref qd, .ref qc, .ref qf, .ref qt, .ref sp, .ref sc, .int (nI n)]))])) (vp_Si (fun r => r = nI n)) 0 0 (fun _ => False) := by
  refine Met.ofW (cc := cX4_count) (maxL := 1) (ret := (some .int)) (by decide) rfl ?_
  intro p e s m args below meth c s₁ B hml hv
  obtain ⟨rfl, hP, hK, hN⟩ := hv
  have hx := B.exec
  have hb := B.bytes
  have hr := B.returns
  have hlocks := B.notSynchronized
  have hts := atoms_spec (ws := wsX4_count) B.pre
  have htb := fun (w : Cond) (h : w ∈ qTb) => hts w (List.mem_cons_of_mem _ h)
  have hown : s.vm.findClass "GradeRows$Steps" = some m.cls := findClass_of_methodNamed B.named
  have hP : va_P G.1 vwCl [(h0, .inr (4, [.ref qr, .ref qp, .ref qd, .ref qc, .ref qf, .ref qt, .ref sp, .ref sc, .int (nI n)]))] s.heap := hP
  have hl := lv_entry ([.ref h0]) (n := 1) (Nat.le_of_ble_eq_true rfl)
  rw [lg_entry_eq]
  generalize (lg_sl ([.ref h0]) ++ List.replicate (1 - (lg_sl ([.ref h0])).length) Slot.unset).toArray = ls at hl ⊢
  have hl : lv_has ls 1 [(0, .ref h0)] := hl
  refine lv_aload_n hx hb dX4_count_0 rfl (lv_at hl 0 rfl) ?_
  refine va_get (D := G.1) (ci := 4) (v := .int (nI n)) (C := "GradeRows$Steps") (T := TX4) (N := 9) hx hb htb inX4 hown hK hP 0 rfl rfl 8 (by decide) (htb _ qw_83) (fun _ h9 => h9) rfl dX4_count_1 ?_
  exact W.iret (v := nI n) hx hb hr (fun t9 ht9 hW9 => ⟨_, rfl, rfl, ht9⟩) (fun q h => absurd h List.not_mem_nil) dX4_count_4

set_option maxHeartbeats 4000000 in
set_option maxRecDepth 100000 in
/-- Steps.isFull -/
theorem qc_T_full (l : Launch) (G : qG) (h0 : Nat) (qr : Nat) (qp : Nat) (qd : Nat) (qc : Nat) (qf : Nat) (qt : Nat) (sp : Nat) (sc : Nat) (n : Nat) (hn : n ≤ 200) : Met l yX4_isFull wsX4_isFull ({ frames := 0, cells := 0, slots := 0, locals := 0 } : Room) (va_Pc [.ref h0] (qk_pre G vwCl [(h0, .inr (4, [.ref qr, .ref qp, .ref qd, .ref qc, .ref qf, .ref qt, .ref sp, .ref sc, .int (nI n)]))])) (vp_Si (fun r => r = if 200 ≤ n then nI 1 else nI 0)) 0 0 (fun _ => False) := by
  refine Met.ofW (cc := cX4_isFull) (maxL := 1) (ret := (some .boolean)) (by decide) rfl ?_
  intro p e s m args below meth c s₁ B hml hv
  obtain ⟨rfl, hP, hK, hN⟩ := hv
  have hx := B.exec
  have hb := B.bytes
  have hr := B.returns
  have hlocks := B.notSynchronized
  have hts := atoms_spec (ws := wsX4_isFull) B.pre
  have htb := fun (w : Cond) (h : w ∈ qTb) => hts w (List.mem_cons_of_mem _ h)
  have hown : s.vm.findClass "GradeRows$Steps" = some m.cls := findClass_of_methodNamed B.named
  have hP : va_P G.1 vwCl [(h0, .inr (4, [.ref qr, .ref qp, .ref qd, .ref qc, .ref qf, .ref qt, .ref sp, .ref sc, .int (nI n)]))] s.heap := hP
  have hl := lv_entry ([.ref h0]) (n := 1) (Nat.le_of_ble_eq_true rfl)
  rw [lg_entry_eq]
  generalize (lg_sl ([.ref h0]) ++ List.replicate (1 - (lg_sl ([.ref h0])).length) Slot.unset).toArray = ls at hl ⊢
  have hl : lv_has ls 1 [(0, .ref h0)] := hl
  refine lv_aload_n hx hb dX4_isFull_0 rfl (lv_at hl 0 rfl) ?_
  refine va_get (D := G.1) (ci := 4) (v := .int (nI n)) (C := "GradeRows$Steps") (T := TX4) (N := 9) hx hb htb inX4 hown hK hP 0 rfl rfl 8 (by decide) (htb _ qw_83) (fun _ h9 => h9) rfl dX4_isFull_1 ?_
  refine lv_sipush (v := nI 200) hx hb dX4_isFull_4 (by decide) ?_
  refine lv_icmp_lt (tgt := 14) hx hb dX4_isFull_7 (by decide) (fun c1 => ?_) (fun c1 => ?_)
  · have c1 : n < 200 := (nI_ltI (by omega) (by omega)).mp c1
    refine lv_iconst (v := nI 0) hx hb dX4_isFull_14 (by decide) ?_
    exact W.zret (v := nI 0) (ty := .boolean) hx hb hr (by decide) (fun t9 ht9 hW9 => ⟨_, rfl, (if_neg (by omega)).symm, ht9⟩) (fun q h => absurd h List.not_mem_nil) dX4_isFull_15
  · have c1 : ¬ (n < 200) := fun q9 => c1 ((nI_ltI (by omega) (by omega)).mpr q9)
    refine lv_iconst (v := nI 1) hx hb dX4_isFull_10 (by decide) ?_
    refine lv_goto (tgt := 15) hx hb dX4_isFull_11 (by decide) ?_
    exact W.zret (v := nI 1) (ty := .boolean) hx hb hr (by decide) (fun t9 ht9 hW9 => ⟨_, rfl, (if_pos (by omega)).symm, ht9⟩) (fun q h => absurd h List.not_mem_nil) dX4_isFull_15

set_option maxHeartbeats 4000000 in
set_option maxRecDepth 100000 in
/-- Steps.has -/
theorem qc_T_has (l : Launch) (G : qG) (h0 : Nat) (qr : Nat) (qp : Nat) (qd : Nat) (qc : Nat) (qf : Nat) (qt : Nat) (sp : Nat) (sc : Nat) (n : Nat) (x : Int32)  : Met l yX4_has wsX4_has ({ frames := 0, cells := 0, slots := 0, locals := 0 } : Room) (va_Pc [.ref h0, .int x] (qk_pre G vwCl [(h0, .inr (4, [.ref qr, .ref qp, .ref qd, .ref qc, .ref qf, .ref qt, .ref sp, .ref sc, .int (nI n)]))])) (vp_Si (fun r => r = if ¬ x < 0 ∧ x < nI n then nI 1 else nI 0)) 0 0 (fun _ => False) := by
  refine Met.ofW (cc := cX4_has) (maxL := 2) (ret := (some .boolean)) (by decide) rfl ?_
  intro p e s m args below meth c s₁ B hml hv
  obtain ⟨rfl, hP, hK, hN⟩ := hv
  have hx := B.exec
  have hb := B.bytes
  have hr := B.returns
  have hlocks := B.notSynchronized
  have hts := atoms_spec (ws := wsX4_has) B.pre
  have htb := fun (w : Cond) (h : w ∈ qTb) => hts w (List.mem_cons_of_mem _ h)
  have hown : s.vm.findClass "GradeRows$Steps" = some m.cls := findClass_of_methodNamed B.named
  have hP : va_P G.1 vwCl [(h0, .inr (4, [.ref qr, .ref qp, .ref qd, .ref qc, .ref qf, .ref qt, .ref sp, .ref sc, .int (nI n)]))] s.heap := hP
  have hl := lv_entry ([.ref h0, .int x]) (n := 2) (Nat.le_of_ble_eq_true rfl)
  rw [lg_entry_eq]
  generalize (lg_sl ([.ref h0, .int x]) ++ List.replicate (2 - (lg_sl ([.ref h0, .int x])).length) Slot.unset).toArray = ls at hl ⊢
  have hl : lv_has ls 2 [(0, .ref h0), (1, .int x)] := hl
  refine lv_iload_n hx hb dX4_has_0 rfl (lv_at hl 1 rfl) ?_
  refine lv_if_lt (tgt := 16) hx hb dX4_has_1 (by decide) (fun c1 => ?_) (fun c1 => ?_)
  · refine lv_iconst (v := nI 0) hx hb dX4_has_16 (by decide) ?_
    exact W.zret (v := nI 0) (ty := .boolean) hx hb hr (by decide) (fun t9 ht9 hW9 => ⟨_, rfl, (if_neg (fun h => h.1 c1)).symm, ht9⟩) (fun q h => absurd h List.not_mem_nil) dX4_has_17
  · refine lv_iload_n hx hb dX4_has_4 rfl (lv_at hl 1 rfl) ?_
    refine lv_aload_n hx hb dX4_has_5 rfl (lv_at hl 0 rfl) ?_
    refine va_get (D := G.1) (ci := 4) (v := .int (nI n)) (C := "GradeRows$Steps") (T := TX4) (N := 9) hx hb htb inX4 hown hK hP 0 rfl rfl 8 (by decide) (htb _ qw_83) (fun _ h9 => h9) rfl dX4_has_6 ?_
    refine lv_icmp_ge (tgt := 16) hx hb dX4_has_9 (by decide) (fun c2 => ?_) (fun c2 => ?_)
    · refine lv_iconst (v := nI 0) hx hb dX4_has_16 (by decide) ?_
      exact W.zret (v := nI 0) (ty := .boolean) hx hb hr (by decide) (fun t9 ht9 hW9 => ⟨_, rfl, (if_neg (fun h => qm_lt_nle h.2 c2)).symm, ht9⟩) (fun q h => absurd h List.not_mem_nil) dX4_has_17
    · refine lv_iconst (v := nI 1) hx hb dX4_has_12 (by decide) ?_
      refine lv_goto (tgt := 17) hx hb dX4_has_13 (by decide) ?_
      exact W.zret (v := nI 1) (ty := .boolean) hx hb hr (by decide) (fun t9 ht9 hW9 => ⟨_, rfl, (if_pos ⟨c1, qm_nle c2⟩).symm, ht9⟩) (fun q h => absurd h List.not_mem_nil) dX4_has_17

set_option maxHeartbeats 4000000 in
set_option maxRecDepth 100000 in
/-- Steps.isGuess -/
theorem qc_T_isg (l : Launch) (G : qG) (h0 : Nat) (qr : Nat) (qp : Nat) (qd : Nat) (qc : Nat) (qf : Nat) (qt : Nat) (sp : Nat) (sc : Nat) (n : Nat) (fr : Nat → Int32) (k : Nat) (z : Nat) (hk : k < n) (hn : n ≤ 200) (hz : fr k = nM z) (hz1 : z ≤ 40) : Met l yX4_isGuess wsX4_isGuess ({ frames := 1, cells := 0, slots := 0, locals := 21 } : Room) (va_Pc [.ref h0, .int (nI k)] (qk_pre G vwCl [(h0, .inr (4, [.ref qr, .ref qp, .ref qd, .ref qc, .ref qf, .ref qt, .ref sp, .ref sc, .int (nI n)])), (qr, .inl (G.2.1, 200, .inl fr))])) (vp_Si (fun r => r = if z = 0 then nI 1 else nI 0)) 0 0 (fun _ => False) := by
  refine Met.ofW (cc := cX4_isGuess) (maxL := 2) (ret := (some .boolean)) (by decide) rfl ?_
  intro p e s m args below meth c s₁ B hml hv
  obtain ⟨rfl, hP, hK, hN⟩ := hv
  have hx := B.exec
  have hb := B.bytes
  have hr := B.returns
  have hlocks := B.notSynchronized
  have hts := atoms_spec (ws := wsX4_isGuess) B.pre
  have htb := fun (w : Cond) (h : w ∈ qTb) => hts w (List.mem_cons_of_mem _ h)
  have hown : s.vm.findClass "GradeRows$Steps" = some m.cls := findClass_of_methodNamed B.named
  have hP : va_P G.1 vwCl [(h0, .inr (4, [.ref qr, .ref qp, .ref qd, .ref qc, .ref qf, .ref qt, .ref sp, .ref sc, .int (nI n)])), (qr, .inl (G.2.1, 200, .inl fr))] s.heap := hP
  have hl := lv_entry ([.ref h0, .int (nI k)]) (n := 2) (Nat.le_of_ble_eq_true rfl)
  rw [lg_entry_eq]
  generalize (lg_sl ([.ref h0, .int (nI k)]) ++ List.replicate (2 - (lg_sl ([.ref h0, .int (nI k)])).length) Slot.unset).toArray = ls at hl ⊢
  have hl : lv_has ls 2 [(0, .ref h0), (1, .int (nI k))] := hl
  refine lv_aload_n hx hb dX4_isGuess_0 rfl (lv_at hl 0 rfl) ?_
  refine lv_iload_n hx hb dX4_isGuess_1 rfl (lv_at hl 1 rfl) ?_
  have hPc := hP.sub (ws' := [(h0, .inr (4, [.ref qr, .ref qp, .ref qd, .ref qc, .ref qf, .ref qt, .ref sp, .ref sc, .int (nI n)]))]) [0] rfl
  refine vp_callSi (va_runV (As := [.int (nI k)]) (rest := []) ⟨hx, hb, hml, hown, htb⟩ (qc_T_has l G h0 qr qp qd qc qf qt sp sc n (nI k)) (cwV 1 htb (qW_V qw_201 qw_202 qw_203 qw_15 qw_204) rfl rfl rfl (by decide +kernel) ⟨Nat.le_of_ble_eq_true rfl, Nat.le_of_ble_eq_true rfl⟩) (qk_pv (ci := 4) (q0 := 0) hK hPc hN rfl rfl) rfl rfl hl.1 rfl (lv_room (Nat.le_of_ble_eq_true rfl)) dX4_isGuess_2 ⟨Nat.le_of_ble_eq_true rfl, Nat.le_of_ble_eq_true rfl⟩).run (fun r_2 e_2 => ?_)
  have e_2 := e_2.symm
  subst e_2
  refine qk_topi (t := nI 1) (if_pos ⟨nI_pos (by omega), nI_lt (by omega) (by omega)⟩) ?_
  refine lv_if_eq (tgt := 22) hx hb dX4_isGuess_5 (by decide) (fun c_1 => ?_) (fun c_1 => ?_)
  · have c_1 : 1 = 0 := (z0eq (by omega)).mp c_1
    exfalso; omega
  · have c_1 : ¬ (1 = 0) := fun q9 => c_1 ((z0eq (by omega)).mpr q9)
    refine lv_aload_n hx hb dX4_isGuess_8 rfl (lv_at hl 0 rfl) ?_
    refine va_get (D := G.1) (ci := 4) (v := .ref qr) (C := "GradeRows$Steps") (T := TX4) (N := 9) hx hb htb inX4 hown hK hP 0 rfl rfl 0 (by decide) (htb _ qw_75) (fun _ h9 => h9) rfl dX4_isGuess_9 ?_
    refine lv_iload_n hx hb dX4_isGuess_12 rfl (lv_at hl 1 rfl) ?_
    refine qk_iald hx hb hK hP 1 0 rfl rfl (i := k) (by omega) (by omega) (v := nM z) hz dX4_isGuess_13 ?_
    refine lv_iconst (v := (-1)) hx hb dX4_isGuess_14 (by decide) ?_
    refine lv_icmp_ne (tgt := 22) hx hb dX4_isGuess_15 (by decide) (fun c1 => ?_) (fun c1 => ?_)
    · have c1 : ¬ (z = 0) := fun q9 => c1 ((nM_eq1 (by omega)).mpr q9)
      refine lv_iconst (v := nI 0) hx hb dX4_isGuess_22 (by decide) ?_
      exact W.zret (v := nI 0) (ty := .boolean) hx hb hr (by decide) (fun t9 ht9 hW9 => ⟨_, rfl, (if_neg c1).symm, ht9⟩) (fun q h => absurd h List.not_mem_nil) dX4_isGuess_23
    · have c1 : z = 0 := (nM_eq1 (by omega)).mp c1
      refine lv_iconst (v := nI 1) hx hb dX4_isGuess_18 (by decide) ?_
      refine lv_goto (tgt := 23) hx hb dX4_isGuess_19 (by decide) ?_
      exact W.zret (v := nI 1) (ty := .boolean) hx hb hr (by decide) (fun t9 ht9 hW9 => ⟨_, rfl, (if_pos c1).symm, ht9⟩) (fun q h => absurd h List.not_mem_nil) dX4_isGuess_23

set_option maxHeartbeats 4000000 in
set_option maxRecDepth 100000 in
/-- Steps.isGuess behind nothing -/
theorem qc_T_isg0 (l : Launch) (G : qG) (h0 : Nat) (qr : Nat) (qp : Nat) (qd : Nat) (qc : Nat) (qf : Nat) (qt : Nat) (sp : Nat) (sc : Nat) (n : Nat)  : Met l yX4_isGuess wsX4_isGuess ({ frames := 1, cells := 0, slots := 0, locals := 21 } : Room) (va_Pc [.ref h0, .int (-1)] (qk_pre G vwCl [(h0, .inr (4, [.ref qr, .ref qp, .ref qd, .ref qc, .ref qf, .ref qt, .ref sp, .ref sc, .int (nI n)]))])) (vp_Si (fun r => r = nI 0)) 0 0 (fun _ => False) := by
  refine Met.ofW (cc := cX4_isGuess) (maxL := 2) (ret := (some .boolean)) (by decide) rfl ?_
  intro p e s m args below meth c s₁ B hml hv
  obtain ⟨rfl, hP, hK, hN⟩ := hv
  have hx := B.exec
  have hb := B.bytes
  have hr := B.returns
  have hlocks := B.notSynchronized
  have hts := atoms_spec (ws := wsX4_isGuess) B.pre
  have htb := fun (w : Cond) (h : w ∈ qTb) => hts w (List.mem_cons_of_mem _ h)
  have hown : s.vm.findClass "GradeRows$Steps" = some m.cls := findClass_of_methodNamed B.named
  have hP : va_P G.1 vwCl [(h0, .inr (4, [.ref qr, .ref qp, .ref qd, .ref qc, .ref qf, .ref qt, .ref sp, .ref sc, .int (nI n)]))] s.heap := hP
  have hl := lv_entry ([.ref h0, .int (-1)]) (n := 2) (Nat.le_of_ble_eq_true rfl)
  rw [lg_entry_eq]
  generalize (lg_sl ([.ref h0, .int (-1)]) ++ List.replicate (2 - (lg_sl ([.ref h0, .int (-1)])).length) Slot.unset).toArray = ls at hl ⊢
  have hl : lv_has ls 2 [(0, .ref h0), (1, .int (-1))] := hl
  refine lv_aload_n hx hb dX4_isGuess_0 rfl (lv_at hl 0 rfl) ?_
  refine lv_iload_n hx hb dX4_isGuess_1 rfl (lv_at hl 1 rfl) ?_
  have hPc := hP.sub (ws' := [(h0, .inr (4, [.ref qr, .ref qp, .ref qd, .ref qc, .ref qf, .ref qt, .ref sp, .ref sc, .int (nI n)]))]) [0] rfl
  refine vp_callSi (va_runV (As := [.int (-1)]) (rest := []) ⟨hx, hb, hml, hown, htb⟩ (qc_T_has l G h0 qr qp qd qc qf qt sp sc n (-1)) (cwV 1 htb (qW_V qw_201 qw_202 qw_203 qw_15 qw_204) rfl rfl rfl (by decide +kernel) ⟨Nat.le_of_ble_eq_true rfl, Nat.le_of_ble_eq_true rfl⟩) (qk_pv (ci := 4) (q0 := 0) hK hPc hN rfl rfl) rfl rfl hl.1 rfl (lv_room (Nat.le_of_ble_eq_true rfl)) dX4_isGuess_2 ⟨Nat.le_of_ble_eq_true rfl, Nat.le_of_ble_eq_true rfl⟩).run (fun r_2 e_2 => ?_)
  have e_2 := e_2.symm
  subst e_2
  refine qk_topi (t := nI 0) (if_neg (fun h => h.1 (by decide))) ?_
  refine lv_if_eq (tgt := 22) hx hb dX4_isGuess_5 (by decide) (fun c_1 => ?_) (fun c_1 => ?_)
  · have c_1 : 0 = 0 := (z0eq (by omega)).mp c_1
    refine lv_iconst (v := nI 0) hx hb dX4_isGuess_22 (by decide) ?_
    exact W.zret (v := nI 0) (ty := .boolean) hx hb hr (by decide) (fun t9 ht9 hW9 => ⟨_, rfl, rfl, ht9⟩) (fun q h => absurd h List.not_mem_nil) dX4_isGuess_23
  · have c_1 : ¬ (0 = 0) := fun q9 => c_1 ((z0eq (by omega)).mpr q9)
    exfalso; omega

set_option maxHeartbeats 4000000 in
set_option maxRecDepth 100000 in
/-- Steps.ruleAt -/
theorem qc_T_rule (l : Launch) (G : qG) (h0 : Nat) (qr : Nat) (qp : Nat) (qd : Nat) (qc : Nat) (qf : Nat) (qt : Nat) (sp : Nat) (sc : Nat) (n : Nat) (f : Nat → Int32) (k : Nat) (v : Int32) (hk : k < n) (hn : n ≤ 200) (hv : f k = v) : Met l yX4_ruleAt wsX4_ruleAt ({ frames := 1, cells := 0, slots := 0, locals := 21 } : Room) (va_Pc [.ref h0, .int (nI k)] (qk_pre G vwCl [(h0, .inr (4, [.ref qr, .ref qp, .ref qd, .ref qc, .ref qf, .ref qt, .ref sp, .ref sc, .int (nI n)])), (qr, .inl (G.2.1, 200, .inl f))])) (vp_Si (fun r => r = v)) 0 0 (fun _ => False) := by
  refine Met.ofW (cc := cX4_ruleAt) (maxL := 2) (ret := (some .int)) (by decide) rfl ?_
  intro p e s m args below meth c s₁ B hml hv
  obtain ⟨rfl, hP, hK, hN⟩ := hv
  have hx := B.exec
  have hb := B.bytes
  have hr := B.returns
  have hlocks := B.notSynchronized
  have hts := atoms_spec (ws := wsX4_ruleAt) B.pre
  have htb := fun (w : Cond) (h : w ∈ qTb) => hts w (List.mem_cons_of_mem _ h)
  have hown : s.vm.findClass "GradeRows$Steps" = some m.cls := findClass_of_methodNamed B.named
  have hP : va_P G.1 vwCl [(h0, .inr (4, [.ref qr, .ref qp, .ref qd, .ref qc, .ref qf, .ref qt, .ref sp, .ref sc, .int (nI n)])), (qr, .inl (G.2.1, 200, .inl f))] s.heap := hP
  have hl := lv_entry ([.ref h0, .int (nI k)]) (n := 2) (Nat.le_of_ble_eq_true rfl)
  rw [lg_entry_eq]
  generalize (lg_sl ([.ref h0, .int (nI k)]) ++ List.replicate (2 - (lg_sl ([.ref h0, .int (nI k)])).length) Slot.unset).toArray = ls at hl ⊢
  have hl : lv_has ls 2 [(0, .ref h0), (1, .int (nI k))] := hl
  refine lv_aload_n hx hb dX4_ruleAt_0 rfl (lv_at hl 0 rfl) ?_
  refine lv_iload_n hx hb dX4_ruleAt_1 rfl (lv_at hl 1 rfl) ?_
  have hPc := hP.sub (ws' := [(h0, .inr (4, [.ref qr, .ref qp, .ref qd, .ref qc, .ref qf, .ref qt, .ref sp, .ref sc, .int (nI n)]))]) [0] rfl
  refine vp_callSi (va_runV (As := [.int (nI k)]) (rest := []) ⟨hx, hb, hml, hown, htb⟩ (qc_T_has l G h0 qr qp qd qc qf qt sp sc n (nI k)) (cwV 1 htb (qW_V qw_201 qw_202 qw_203 qw_15 qw_204) rfl rfl rfl (by decide +kernel) ⟨Nat.le_of_ble_eq_true rfl, Nat.le_of_ble_eq_true rfl⟩) (qk_pv (ci := 4) (q0 := 0) hK hPc hN rfl rfl) rfl rfl hl.1 rfl (lv_room (Nat.le_of_ble_eq_true rfl)) dX4_ruleAt_2 ⟨Nat.le_of_ble_eq_true rfl, Nat.le_of_ble_eq_true rfl⟩).run (fun r_2 e_2 => ?_)
  have e_2 := e_2.symm
  subst e_2
  refine qk_topi (t := nI 1) (if_pos ⟨nI_pos (by omega), nI_lt (by omega) (by omega)⟩) ?_
  refine lv_if_eq (tgt := 17) hx hb dX4_ruleAt_5 (by decide) (fun c_1 => ?_) (fun c_1 => ?_)
  · have c_1 : 1 = 0 := (z0eq (by omega)).mp c_1
    exfalso; omega
  · have c_1 : ¬ (1 = 0) := fun q9 => c_1 ((z0eq (by omega)).mpr q9)
    refine lv_aload_n hx hb dX4_ruleAt_8 rfl (lv_at hl 0 rfl) ?_
    refine va_get (D := G.1) (ci := 4) (v := .ref qr) (C := "GradeRows$Steps") (T := TX4) (N := 9) hx hb htb inX4 hown hK hP 0 rfl rfl 0 (by decide) (htb _ qw_75) (fun _ h9 => h9) rfl dX4_ruleAt_9 ?_
    refine lv_iload_n hx hb dX4_ruleAt_12 rfl (lv_at hl 1 rfl) ?_
    refine qk_iald hx hb hK hP 1 0 rfl rfl (i := k) (by omega) (by omega) (v := v) hv dX4_ruleAt_13 ?_
    refine lv_goto (tgt := 18) hx hb dX4_ruleAt_14 (by decide) ?_
    exact W.iret (v := v) hx hb hr (fun t9 ht9 hW9 => ⟨_, rfl, rfl, ht9⟩) (fun q h => absurd h List.not_mem_nil) dX4_ruleAt_18

set_option maxHeartbeats 4000000 in
set_option maxRecDepth 100000 in
/-- Steps.placeAt -/
theorem qc_T_place (l : Launch) (G : qG) (h0 : Nat) (qr : Nat) (qp : Nat) (qd : Nat) (qc : Nat) (qf : Nat) (qt : Nat) (sp : Nat) (sc : Nat) (n : Nat) (f : Nat → Int32) (k : Nat) (v : Int32) (hk : k < n) (hn : n ≤ 200) (hv : f k = v) : Met l yX4_placeAt wsX4_placeAt ({ frames := 1, cells := 0, slots := 0, locals := 21 } : Room) (va_Pc [.ref h0, .int (nI k)] (qk_pre G vwCl [(h0, .inr (4, [.ref qr, .ref qp, .ref qd, .ref qc, .ref qf, .ref qt, .ref sp, .ref sc, .int (nI n)])), (qp, .inl (G.2.1, 200, .inl f))])) (vp_Si (fun r => r = v)) 0 0 (fun _ => False) := by
  refine Met.ofW (cc := cX4_placeAt) (maxL := 2) (ret := (some .int)) (by decide) rfl ?_
  intro p e s m args below meth c s₁ B hml hv
  obtain ⟨rfl, hP, hK, hN⟩ := hv
  have hx := B.exec
  have hb := B.bytes
  have hr := B.returns
  have hlocks := B.notSynchronized
  have hts := atoms_spec (ws := wsX4_placeAt) B.pre
  have htb := fun (w : Cond) (h : w ∈ qTb) => hts w (List.mem_cons_of_mem _ h)
  have hown : s.vm.findClass "GradeRows$Steps" = some m.cls := findClass_of_methodNamed B.named
  have hP : va_P G.1 vwCl [(h0, .inr (4, [.ref qr, .ref qp, .ref qd, .ref qc, .ref qf, .ref qt, .ref sp, .ref sc, .int (nI n)])), (qp, .inl (G.2.1, 200, .inl f))] s.heap := hP
  have hl := lv_entry ([.ref h0, .int (nI k)]) (n := 2) (Nat.le_of_ble_eq_true rfl)
  rw [lg_entry_eq]
  generalize (lg_sl ([.ref h0, .int (nI k)]) ++ List.replicate (2 - (lg_sl ([.ref h0, .int (nI k)])).length) Slot.unset).toArray = ls at hl ⊢
  have hl : lv_has ls 2 [(0, .ref h0), (1, .int (nI k))] := hl
  refine lv_aload_n hx hb dX4_placeAt_0 rfl (lv_at hl 0 rfl) ?_
  refine lv_iload_n hx hb dX4_placeAt_1 rfl (lv_at hl 1 rfl) ?_
  have hPc := hP.sub (ws' := [(h0, .inr (4, [.ref qr, .ref qp, .ref qd, .ref qc, .ref qf, .ref qt, .ref sp, .ref sc, .int (nI n)]))]) [0] rfl
  refine vp_callSi (va_runV (As := [.int (nI k)]) (rest := []) ⟨hx, hb, hml, hown, htb⟩ (qc_T_has l G h0 qr qp qd qc qf qt sp sc n (nI k)) (cwV 1 htb (qW_V qw_201 qw_202 qw_203 qw_15 qw_204) rfl rfl rfl (by decide +kernel) ⟨Nat.le_of_ble_eq_true rfl, Nat.le_of_ble_eq_true rfl⟩) (qk_pv (ci := 4) (q0 := 0) hK hPc hN rfl rfl) rfl rfl hl.1 rfl (lv_room (Nat.le_of_ble_eq_true rfl)) dX4_placeAt_2 ⟨Nat.le_of_ble_eq_true rfl, Nat.le_of_ble_eq_true rfl⟩).run (fun r_2 e_2 => ?_)
  have e_2 := e_2.symm
  subst e_2
  refine qk_topi (t := nI 1) (if_pos ⟨nI_pos (by omega), nI_lt (by omega) (by omega)⟩) ?_
  refine lv_if_eq (tgt := 17) hx hb dX4_placeAt_5 (by decide) (fun c_1 => ?_) (fun c_1 => ?_)
  · have c_1 : 1 = 0 := (z0eq (by omega)).mp c_1
    exfalso; omega
  · have c_1 : ¬ (1 = 0) := fun q9 => c_1 ((z0eq (by omega)).mpr q9)
    refine lv_aload_n hx hb dX4_placeAt_8 rfl (lv_at hl 0 rfl) ?_
    refine va_get (D := G.1) (ci := 4) (v := .ref qp) (C := "GradeRows$Steps") (T := TX4) (N := 9) hx hb htb inX4 hown hK hP 0 rfl rfl 1 (by decide) (htb _ qw_76) (fun _ h9 => h9) rfl dX4_placeAt_9 ?_
    refine lv_iload_n hx hb dX4_placeAt_12 rfl (lv_at hl 1 rfl) ?_
    refine qk_iald hx hb hK hP 1 0 rfl rfl (i := k) (by omega) (by omega) (v := v) hv dX4_placeAt_13 ?_
    refine lv_goto (tgt := 18) hx hb dX4_placeAt_14 (by decide) ?_
    exact W.iret (v := v) hx hb hr (fun t9 ht9 hW9 => ⟨_, rfl, rfl, ht9⟩) (fun q h => absurd h List.not_mem_nil) dX4_placeAt_18

set_option maxHeartbeats 4000000 in
set_option maxRecDepth 100000 in
/-- Steps.widthAt -/
theorem qc_T_width (l : Launch) (G : qG) (h0 : Nat) (qr : Nat) (qp : Nat) (qd : Nat) (qc : Nat) (qf : Nat) (qt : Nat) (sp : Nat) (sc : Nat) (n : Nat) (f : Nat → Int32) (k : Nat) (v : Int32) (hk : k < n) (hn : n ≤ 200) (hv : f k = v) : Met l yX4_widthAt wsX4_widthAt ({ frames := 1, cells := 0, slots := 0, locals := 21 } : Room) (va_Pc [.ref h0, .int (nI k)] (qk_pre G vwCl [(h0, .inr (4, [.ref qr, .ref qp, .ref qd, .ref qc, .ref qf, .ref qt, .ref sp, .ref sc, .int (nI n)])), (qd, .inl (G.2.1, 200, .inl f))])) (vp_Si (fun r => r = v)) 0 0 (fun _ => False) := by
  refine Met.ofW (cc := cX4_widthAt) (maxL := 2) (ret := (some .int)) (by decide) rfl ?_
  intro p e s m args below meth c s₁ B hml hv
  obtain ⟨rfl, hP, hK, hN⟩ := hv
  have hx := B.exec
  have hb := B.bytes
  have hr := B.returns
  have hlocks := B.notSynchronized
  have hts := atoms_spec (ws := wsX4_widthAt) B.pre
  have htb := fun (w : Cond) (h : w ∈ qTb) => hts w (List.mem_cons_of_mem _ h)
  have hown : s.vm.findClass "GradeRows$Steps" = some m.cls := findClass_of_methodNamed B.named
  have hP : va_P G.1 vwCl [(h0, .inr (4, [.ref qr, .ref qp, .ref qd, .ref qc, .ref qf, .ref qt, .ref sp, .ref sc, .int (nI n)])), (qd, .inl (G.2.1, 200, .inl f))] s.heap := hP
  have hl := lv_entry ([.ref h0, .int (nI k)]) (n := 2) (Nat.le_of_ble_eq_true rfl)
  rw [lg_entry_eq]
  generalize (lg_sl ([.ref h0, .int (nI k)]) ++ List.replicate (2 - (lg_sl ([.ref h0, .int (nI k)])).length) Slot.unset).toArray = ls at hl ⊢
  have hl : lv_has ls 2 [(0, .ref h0), (1, .int (nI k))] := hl
  refine lv_aload_n hx hb dX4_widthAt_0 rfl (lv_at hl 0 rfl) ?_
  refine lv_iload_n hx hb dX4_widthAt_1 rfl (lv_at hl 1 rfl) ?_
  have hPc := hP.sub (ws' := [(h0, .inr (4, [.ref qr, .ref qp, .ref qd, .ref qc, .ref qf, .ref qt, .ref sp, .ref sc, .int (nI n)]))]) [0] rfl
  refine vp_callSi (va_runV (As := [.int (nI k)]) (rest := []) ⟨hx, hb, hml, hown, htb⟩ (qc_T_has l G h0 qr qp qd qc qf qt sp sc n (nI k)) (cwV 1 htb (qW_V qw_201 qw_202 qw_203 qw_15 qw_204) rfl rfl rfl (by decide +kernel) ⟨Nat.le_of_ble_eq_true rfl, Nat.le_of_ble_eq_true rfl⟩) (qk_pv (ci := 4) (q0 := 0) hK hPc hN rfl rfl) rfl rfl hl.1 rfl (lv_room (Nat.le_of_ble_eq_true rfl)) dX4_widthAt_2 ⟨Nat.le_of_ble_eq_true rfl, Nat.le_of_ble_eq_true rfl⟩).run (fun r_2 e_2 => ?_)
  have e_2 := e_2.symm
  subst e_2
  refine qk_topi (t := nI 1) (if_pos ⟨nI_pos (by omega), nI_lt (by omega) (by omega)⟩) ?_
  refine lv_if_eq (tgt := 17) hx hb dX4_widthAt_5 (by decide) (fun c_1 => ?_) (fun c_1 => ?_)
  · have c_1 : 1 = 0 := (z0eq (by omega)).mp c_1
    exfalso; omega
  · have c_1 : ¬ (1 = 0) := fun q9 => c_1 ((z0eq (by omega)).mpr q9)
    refine lv_aload_n hx hb dX4_widthAt_8 rfl (lv_at hl 0 rfl) ?_
    refine va_get (D := G.1) (ci := 4) (v := .ref qd) (C := "GradeRows$Steps") (T := TX4) (N := 9) hx hb htb inX4 hown hK hP 0 rfl rfl 2 (by decide) (htb _ qw_77) (fun _ h9 => h9) rfl dX4_widthAt_9 ?_
    refine lv_iload_n hx hb dX4_widthAt_12 rfl (lv_at hl 1 rfl) ?_
    refine qk_iald hx hb hK hP 1 0 rfl rfl (i := k) (by omega) (by omega) (v := v) hv dX4_widthAt_13 ?_
    refine lv_goto (tgt := 18) hx hb dX4_widthAt_14 (by decide) ?_
    exact W.iret (v := v) hx hb hr (fun t9 ht9 hW9 => ⟨_, rfl, rfl, ht9⟩) (fun q h => absurd h List.not_mem_nil) dX4_widthAt_18

set_option maxHeartbeats 4000000 in
set_option maxRecDepth 100000 in
/-- Steps.priceAt -/
theorem qc_T_price (l : Launch) (G : qG) (h0 : Nat) (qr : Nat) (qp : Nat) (qd : Nat) (qc : Nat) (qf : Nat) (qt : Nat) (sp : Nat) (sc : Nat) (n : Nat) (f : Nat → Int32) (k : Nat) (v : Int32) (hk : k < n) (hn : n ≤ 200) (hv : f k = v) : Met l yX4_priceAt wsX4_priceAt ({ frames := 1, cells := 0, slots := 0, locals := 21 } : Room) (va_Pc [.ref h0, .int (nI k)] (qk_pre G vwCl [(h0, .inr (4, [.ref qr, .ref qp, .ref qd, .ref qc, .ref qf, .ref qt, .ref sp, .ref sc, .int (nI n)])), (qc, .inl (G.2.1, 200, .inl f))])) (vp_Si (fun r => r = v)) 0 0 (fun _ => False) := by
  refine Met.ofW (cc := cX4_priceAt) (maxL := 2) (ret := (some .int)) (by decide) rfl ?_
  intro p e s m args below meth c s₁ B hml hv
  obtain ⟨rfl, hP, hK, hN⟩ := hv
  have hx := B.exec
  have hb := B.bytes
  have hr := B.returns
  have hlocks := B.notSynchronized
  have hts := atoms_spec (ws := wsX4_priceAt) B.pre
  have htb := fun (w : Cond) (h : w ∈ qTb) => hts w (List.mem_cons_of_mem _ h)
  have hown : s.vm.findClass "GradeRows$Steps" = some m.cls := findClass_of_methodNamed B.named
  have hP : va_P G.1 vwCl [(h0, .inr (4, [.ref qr, .ref qp, .ref qd, .ref qc, .ref qf, .ref qt, .ref sp, .ref sc, .int (nI n)])), (qc, .inl (G.2.1, 200, .inl f))] s.heap := hP
  have hl := lv_entry ([.ref h0, .int (nI k)]) (n := 2) (Nat.le_of_ble_eq_true rfl)
  rw [lg_entry_eq]
  generalize (lg_sl ([.ref h0, .int (nI k)]) ++ List.replicate (2 - (lg_sl ([.ref h0, .int (nI k)])).length) Slot.unset).toArray = ls at hl ⊢
  have hl : lv_has ls 2 [(0, .ref h0), (1, .int (nI k))] := hl
  refine lv_aload_n hx hb dX4_priceAt_0 rfl (lv_at hl 0 rfl) ?_
  refine lv_iload_n hx hb dX4_priceAt_1 rfl (lv_at hl 1 rfl) ?_
  have hPc := hP.sub (ws' := [(h0, .inr (4, [.ref qr, .ref qp, .ref qd, .ref qc, .ref qf, .ref qt, .ref sp, .ref sc, .int (nI n)]))]) [0] rfl
  refine vp_callSi (va_runV (As := [.int (nI k)]) (rest := []) ⟨hx, hb, hml, hown, htb⟩ (qc_T_has l G h0 qr qp qd qc qf qt sp sc n (nI k)) (cwV 1 htb (qW_V qw_201 qw_202 qw_203 qw_15 qw_204) rfl rfl rfl (by decide +kernel) ⟨Nat.le_of_ble_eq_true rfl, Nat.le_of_ble_eq_true rfl⟩) (qk_pv (ci := 4) (q0 := 0) hK hPc hN rfl rfl) rfl rfl hl.1 rfl (lv_room (Nat.le_of_ble_eq_true rfl)) dX4_priceAt_2 ⟨Nat.le_of_ble_eq_true rfl, Nat.le_of_ble_eq_true rfl⟩).run (fun r_2 e_2 => ?_)
  have e_2 := e_2.symm
  subst e_2
  refine qk_topi (t := nI 1) (if_pos ⟨nI_pos (by omega), nI_lt (by omega) (by omega)⟩) ?_
  refine lv_if_eq (tgt := 17) hx hb dX4_priceAt_5 (by decide) (fun c_1 => ?_) (fun c_1 => ?_)
  · have c_1 : 1 = 0 := (z0eq (by omega)).mp c_1
    exfalso; omega
  · have c_1 : ¬ (1 = 0) := fun q9 => c_1 ((z0eq (by omega)).mpr q9)
    refine lv_aload_n hx hb dX4_priceAt_8 rfl (lv_at hl 0 rfl) ?_
    refine va_get (D := G.1) (ci := 4) (v := .ref qc) (C := "GradeRows$Steps") (T := TX4) (N := 9) hx hb htb inX4 hown hK hP 0 rfl rfl 3 (by decide) (htb _ qw_78) (fun _ h9 => h9) rfl dX4_priceAt_9 ?_
    refine lv_iload_n hx hb dX4_priceAt_12 rfl (lv_at hl 1 rfl) ?_
    refine qk_iald hx hb hK hP 1 0 rfl rfl (i := k) (by omega) (by omega) (v := v) hv dX4_priceAt_13 ?_
    refine lv_goto (tgt := 18) hx hb dX4_priceAt_14 (by decide) ?_
    exact W.iret (v := v) hx hb hr (fun t9 ht9 hW9 => ⟨_, rfl, rfl, ht9⟩) (fun q h => absurd h List.not_mem_nil) dX4_priceAt_18

set_option maxHeartbeats 4000000 in
set_option maxRecDepth 100000 in
/-- Steps.total -/
theorem qc_T_total (l : Launch) (G : qG) (h0 : Nat) (qr : Nat) (qp : Nat) (qd : Nat) (qc : Nat) (qf : Nat) (qt : Nat) (sp : Nat) (sc : Nat) (n : Nat) (ft : Nat → Int64) (v : Int64) (hn : n ≤ 200) (hv : ft n = v) : Met l yX4_total wsX4_total ({ frames := 0, cells := 0, slots := 0, locals := 0 } : Room) (va_Pc [.ref h0] (qk_pre G vwCl [(h0, .inr (4, [.ref qr, .ref qp, .ref qd, .ref qc, .ref qf, .ref qt, .ref sp, .ref sc, .int (nI n)])), (qt, .inl (G.2.2.1, 201, .inr (.inl ft)))])) (vp_Sl (fun r => r = v)) 0 0 (fun _ => False) := by
  refine Met.ofW (cc := cX4_total) (maxL := 1) (ret := (some .long)) (by decide) rfl ?_
  intro p e s m args below meth c s₁ B hml hv
  obtain ⟨rfl, hP, hK, hN⟩ := hv
  have hx := B.exec
  have hb := B.bytes
  have hr := B.returns
  have hlocks := B.notSynchronized
  have hts := atoms_spec (ws := wsX4_total) B.pre
  have htb := fun (w : Cond) (h : w ∈ qTb) => hts w (List.mem_cons_of_mem _ h)
  have hown : s.vm.findClass "GradeRows$Steps" = some m.cls := findClass_of_methodNamed B.named
  have hP : va_P G.1 vwCl [(h0, .inr (4, [.ref qr, .ref qp, .ref qd, .ref qc, .ref qf, .ref qt, .ref sp, .ref sc, .int (nI n)])), (qt, .inl (G.2.2.1, 201, .inr (.inl ft)))] s.heap := hP
  have hl := lv_entry ([.ref h0]) (n := 1) (Nat.le_of_ble_eq_true rfl)
  rw [lg_entry_eq]
  generalize (lg_sl ([.ref h0]) ++ List.replicate (1 - (lg_sl ([.ref h0])).length) Slot.unset).toArray = ls at hl ⊢
  have hl : lv_has ls 1 [(0, .ref h0)] := hl
  refine lv_aload_n hx hb dX4_total_0 rfl (lv_at hl 0 rfl) ?_
  refine va_get (D := G.1) (ci := 4) (v := .ref qt) (C := "GradeRows$Steps") (T := TX4) (N := 9) hx hb htb inX4 hown hK hP 0 rfl rfl 5 (by decide) (htb _ qw_80) (fun _ h9 => h9) rfl dX4_total_1 ?_
  refine lv_aload_n hx hb dX4_total_4 rfl (lv_at hl 0 rfl) ?_
  refine va_get (D := G.1) (ci := 4) (v := .int (nI n)) (C := "GradeRows$Steps") (T := TX4) (N := 9) hx hb htb inX4 hown hK hP 0 rfl rfl 8 (by decide) (htb _ qw_83) (fun _ h9 => h9) rfl dX4_total_5 ?_
  refine qk_lald hx hb hK hP 1 1 rfl rfl (i := n) (by omega) (by omega) (v := v) hv dX4_total_8 ?_
  exact W.lret (v := v) hx hb hr (fun t9 ht9 hW9 => ⟨_, rfl, rfl, ht9⟩) (fun q h => absurd h List.not_mem_nil) dX4_total_9

set_option maxHeartbeats 4000000 in
set_option maxRecDepth 100000 in
/-- Steps.totalOfFirst -/
theorem qc_T_first (l : Launch) (G : qG) (h0 : Nat) (qr : Nat) (qp : Nat) (qd : Nat) (qc : Nat) (qf : Nat) (qt : Nat) (sp : Nat) (sc : Nat) (n : Nat) (ft : Nat → Int64) (k : Nat) (v : Int64) (hn : n ≤ 200) (hk : k < 2 ^ 31) (hv : ft (if k < n then k else n) = v) : Met l yX4_totalOfFirst wsX4_totalOfFirst ({ frames := 1, cells := 0, slots := 0, locals := 20 } : Room) (va_Pc [.ref h0, .int (nI k)] (qk_pre G vwCl [(h0, .inr (4, [.ref qr, .ref qp, .ref qd, .ref qc, .ref qf, .ref qt, .ref sp, .ref sc, .int (nI n)])), (qt, .inl (G.2.2.1, 201, .inr (.inl ft)))])) (vp_Sl (fun r => r = v)) 0 0 (fun _ => False) := by
  refine Met.ofW (cc := cX4_totalOfFirst) (maxL := 2) (ret := (some .long)) (by decide) rfl ?_
  intro p e s m args below meth c s₁ B hml hv
  obtain ⟨rfl, hP, hK, hN⟩ := hv
  have hx := B.exec
  have hb := B.bytes
  have hr := B.returns
  have hlocks := B.notSynchronized
  have hts := atoms_spec (ws := wsX4_totalOfFirst) B.pre
  have htb := fun (w : Cond) (h : w ∈ qTb) => hts w (List.mem_cons_of_mem _ h)
  have hown : s.vm.findClass "GradeRows$Steps" = some m.cls := findClass_of_methodNamed B.named
  have hP : va_P G.1 vwCl [(h0, .inr (4, [.ref qr, .ref qp, .ref qd, .ref qc, .ref qf, .ref qt, .ref sp, .ref sc, .int (nI n)])), (qt, .inl (G.2.2.1, 201, .inr (.inl ft)))] s.heap := hP
  have hl := lv_entry ([.ref h0, .int (nI k)]) (n := 2) (Nat.le_of_ble_eq_true rfl)
  rw [lg_entry_eq]
  generalize (lg_sl ([.ref h0, .int (nI k)]) ++ List.replicate (2 - (lg_sl ([.ref h0, .int (nI k)])).length) Slot.unset).toArray = ls at hl ⊢
  have hl : lv_has ls 2 [(0, .ref h0), (1, .int (nI k))] := hl
  refine lv_iload_n hx hb dX4_totalOfFirst_0 rfl (lv_at hl 1 rfl) ?_
  refine lv_if_lt (tgt := 21) hx hb dX4_totalOfFirst_1 (by decide) (fun c_1 => ?_) (fun c_1 => ?_)
  · have c_1 : k < 0 := (z0lt (by omega)).mp c_1
    exfalso; omega
  · have c_1 : ¬ (k < 0) := fun q9 => c_1 ((z0lt (by omega)).mpr q9)
    refine lv_iload_n hx hb dX4_totalOfFirst_4 rfl (lv_at hl 1 rfl) ?_
    refine lv_aload_n hx hb dX4_totalOfFirst_5 rfl (lv_at hl 0 rfl) ?_
    refine va_get (D := G.1) (ci := 4) (v := .int (nI n)) (C := "GradeRows$Steps") (T := TX4) (N := 9) hx hb htb inX4 hown hK hP 0 rfl rfl 8 (by decide) (htb _ qw_83) (fun _ h9 => h9) rfl dX4_totalOfFirst_6 ?_
    refine lv_icmp_ge (tgt := 21) hx hb dX4_totalOfFirst_9 (by decide) (fun c1 => ?_) (fun c1 => ?_)
    · have c1 : n ≤ k := (nI_leI (by omega) (by omega)).mp c1
      refine lv_aload_n hx hb dX4_totalOfFirst_21 rfl (lv_at hl 0 rfl) ?_
      have hPc := hP.sub (ws' := [(h0, .inr (4, [.ref qr, .ref qp, .ref qd, .ref qc, .ref qf, .ref qt, .ref sp, .ref sc, .int (nI n)])), (qt, .inl (G.2.2.1, 201, .inr (.inl ft)))]) [0, 1] rfl
      refine vp_callSl (va_runV (As := []) (rest := []) ⟨hx, hb, hml, hown, htb⟩ (qc_T_total l G h0 qr qp qd qc qf qt sp sc n ft v hn (by rw [if_neg (show ¬ k < n by omega)] at hv; exact hv)) (cwV 0 htb (qW_V qw_251 qw_252 qw_253 qw_15 qw_254) rfl rfl rfl (by decide +kernel) ⟨Nat.le_of_ble_eq_true rfl, Nat.le_of_ble_eq_true rfl⟩) (qk_pv (ci := 4) (q0 := 0) hK hPc hN rfl rfl) rfl rfl hl.1 rfl (lv_room (Nat.le_of_ble_eq_true rfl)) dX4_totalOfFirst_22 ⟨Nat.le_of_ble_eq_true rfl, Nat.le_of_ble_eq_true rfl⟩).run (fun r_22 e_22 => ?_)
      have e_22 := e_22.symm
      subst e_22
      exact W.lret (v := v) hx hb hr (fun t9 ht9 hW9 => ⟨_, rfl, rfl, ht9⟩) (fun q h => absurd h List.not_mem_nil) dX4_totalOfFirst_25
    · have c1 : ¬ (n ≤ k) := fun q9 => c1 ((nI_leI (by omega) (by omega)).mpr q9)
      refine lv_aload_n hx hb dX4_totalOfFirst_12 rfl (lv_at hl 0 rfl) ?_
      refine va_get (D := G.1) (ci := 4) (v := .ref qt) (C := "GradeRows$Steps") (T := TX4) (N := 9) hx hb htb inX4 hown hK hP 0 rfl rfl 5 (by decide) (htb _ qw_80) (fun _ h9 => h9) rfl dX4_totalOfFirst_13 ?_
      refine lv_iload_n hx hb dX4_totalOfFirst_16 rfl (lv_at hl 1 rfl) ?_
      refine qk_lald hx hb hK hP 1 1 rfl rfl (i := k) (by omega) (by omega) (v := v) (by rw [if_pos (show k < n by omega)] at hv; exact hv) dX4_totalOfFirst_17 ?_
      refine lv_goto (tgt := 25) hx hb dX4_totalOfFirst_18 (by decide) ?_
      exact W.lret (v := v) hx hb hr (fun t9 ht9 hW9 => ⟨_, rfl, rfl, ht9⟩) (fun q h => absurd h List.not_mem_nil) dX4_totalOfFirst_25

set_option maxHeartbeats 4000000 in
set_option maxRecDepth 100000 in
/-- Steps.codeOf -/
theorem qc_T_code (l : Launch) (G : qG) (x : Int32) (y : Int32) (z : Int32)  : Met l yX4_codeOf wsX4_codeOf ({ frames := 0, cells := 0, slots := 0, locals := 0 } : Room) (va_Pc [.int x, .int y, .int z] (qk_pre G vwCl [])) (vp_Si (fun r => r = qm_code x y z)) 0 0 (fun _ => False) := by
  refine Met.ofW (cc := cX4_codeOf) (maxL := 3) (ret := (some .int)) (by decide) rfl ?_
  intro p e s m args below meth c s₁ B hml hv
  obtain ⟨rfl, hP, hK, hN⟩ := hv
  have hx := B.exec
  have hb := B.bytes
  have hr := B.returns
  have hlocks := B.notSynchronized
  have hts := atoms_spec (ws := wsX4_codeOf) B.pre
  have htb := fun (w : Cond) (h : w ∈ qTb) => hts w (List.mem_cons_of_mem _ h)
  have hown : s.vm.findClass "GradeRows$Steps" = some m.cls := findClass_of_methodNamed B.named
  have hP : va_P G.1 vwCl [] s.heap := hP
  have hl := lv_entry ([.int x, .int y, .int z]) (n := 3) (Nat.le_of_ble_eq_true rfl)
  rw [lg_entry_eq]
  generalize (lg_sl ([.int x, .int y, .int z]) ++ List.replicate (3 - (lg_sl ([.int x, .int y, .int z])).length) Slot.unset).toArray = ls at hl ⊢
  have hl : lv_has ls 3 [(0, .int x), (1, .int y), (2, .int z)] := hl
  refine lv_iload_n hx hb dX4_codeOf_0 rfl (lv_at hl 0 rfl) ?_
  refine lv_sipush (v := nI 256) hx hb dX4_codeOf_1 (by decide) ?_
  refine lv_imul hx hb dX4_codeOf_4 ?_
  refine lv_iload_n hx hb dX4_codeOf_5 rfl (lv_at hl 1 rfl) ?_
  refine lv_iadd hx hb dX4_codeOf_6 ?_
  refine lv_bipush (v := nI 32) hx hb dX4_codeOf_7 (by decide) ?_
  refine lv_imul hx hb dX4_codeOf_9 ?_
  refine lv_iload_n hx hb dX4_codeOf_10 rfl (lv_at hl 2 rfl) ?_
  refine lv_iadd hx hb dX4_codeOf_11 ?_
  exact W.iret (v := (((x * (nI 256)) + y) * (nI 32)) + z) hx hb hr (fun t9 ht9 hW9 => ⟨_, rfl, rfl, ht9⟩) (fun q h => absurd h List.not_mem_nil) dX4_codeOf_12

set_option maxHeartbeats 4000000 in
set_option maxRecDepth 100000 in
/-- Steps.wasNarrowAt -/
theorem qc_T_was (l : Launch) (G : qG) (h0 : Nat) (qr : Nat) (qp : Nat) (qd : Nat) (qc : Nat) (qf : Nat) (qt : Nat) (sp : Nat) (sc : Nat) (n : Nat) (fp : Nat → Int32) (ff : Nat → Int32) (sq : Nat → qS) (p0 : Nat) (hn : n ≤ 200) (hf : ∀ i, i < n → ff i = if qm_fn sq i = true then nI 1 else nI 0) (hp : ∀ i, i < n → fp i = nI (qm_pl (sq i))) (hbp : ∀ i, i < n → qm_pl (sq i) ≤ 255) (hp0 : p0 ≤ 255) : Met l yX4_wasNarrowAt wsX4_wasNarrowAt ({ frames := 0, cells := 0, slots := 0, locals := 0 } : Room) (va_Pc [.ref h0, .int (nI p0)] (qk_pre G vwCl [(h0, .inr (4, [.ref qr, .ref qp, .ref qd, .ref qc, .ref qf, .ref qt, .ref sp, .ref sc, .int (nI n)])), (qp, .inl (G.2.1, 200, .inl fp)), (qf, .inl (G.2.2.2.1, 200, .inl ff))])) (vp_Si (fun r => r = if qm_wasF sq p0 n = true then nI 1 else nI 0)) 0 0 (fun _ => False) := by
  refine Met.ofW (cc := cX4_wasNarrowAt) (maxL := 3) (ret := (some .boolean)) (by decide) rfl ?_
  intro p e s m args below meth c s₁ B hml hv
  obtain ⟨rfl, hP, hK, hN⟩ := hv
  have hx := B.exec
  have hb := B.bytes
  have hr := B.returns
  have hlocks := B.notSynchronized
  have hts := atoms_spec (ws := wsX4_wasNarrowAt) B.pre
  have htb := fun (w : Cond) (h : w ∈ qTb) => hts w (List.mem_cons_of_mem _ h)
  have hown : s.vm.findClass "GradeRows$Steps" = some m.cls := findClass_of_methodNamed B.named
  have hP : va_P G.1 vwCl [(h0, .inr (4, [.ref qr, .ref qp, .ref qd, .ref qc, .ref qf, .ref qt, .ref sp, .ref sc, .int (nI n)])), (qp, .inl (G.2.1, 200, .inl fp)), (qf, .inl (G.2.2.2.1, 200, .inl ff))] s.heap := hP
  have hl := lv_entry ([.ref h0, .int (nI p0)]) (n := 3) (Nat.le_of_ble_eq_true rfl)
  rw [lg_entry_eq]
  generalize (lg_sl ([.ref h0, .int (nI p0)]) ++ List.replicate (3 - (lg_sl ([.ref h0, .int (nI p0)])).length) Slot.unset).toArray = ls at hl ⊢
  have hl : lv_has ls 3 [(0, .ref h0), (1, .int (nI p0))] := hl
  refine lv_iconst (v := nI 0) hx hb dX4_wasNarrowAt_0 (by decide) ?_
  refine lv_istore_n (lv' := [(2, .int (nI 0)), (0, .ref h0), (1, .int (nI p0))]) hx hb dX4_wasNarrowAt_1 rfl hl (by decide) rfl (fun ls hl => ?_)
  have loop_2 : ∀ (N : Nat) (i : Nat) (ls : Array Slot), n - i < N → (i ≤ n) → (qm_wasF sq p0 i = false) → lv_has ls 3 [(2, .int (nI i)), (0, .ref h0), (1, .int (nI p0))] → W p l e (headSpec wsX4_wasNarrowAt ({ frames := 0, cells := 0, slots := 0, locals := 0 } : Room)).room s m ([.ref h0, .int (nI p0)] : List Value).toArray below meth c s.heap [] 0 0 (MQ below (vp_Si (fun r => r = if qm_wasF sq p0 n = true then nI 1 else nI 0)) ([.ref h0, .int (nI p0)] : List Value).toArray s 0 0 (fun _ => False)) (F0 m 2 ls []) := by
    intro N
    induction N with
    | zero => intro i ls hm; exact absurd hm (Nat.not_lt_zero _)
    | succ N ih_2 =>
      intro i ls hm hi hq hl
      refine lv_iload_n hx hb dX4_wasNarrowAt_2 rfl (lv_at hl 0 rfl) ?_
      refine lv_aload_n hx hb dX4_wasNarrowAt_3 rfl (lv_at hl 1 rfl) ?_
      refine va_get (D := G.1) (ci := 4) (v := .int (nI n)) (C := "GradeRows$Steps") (T := TX4) (N := 9) hx hb htb inX4 hown hK hP 0 rfl rfl 8 (by decide) (htb _ qw_83) (fun _ h9 => h9) rfl dX4_wasNarrowAt_4 ?_
      refine lv_icmp_ge (tgt := 37) hx hb dX4_wasNarrowAt_7 (by decide) (fun c_1 => ?_) (fun c_1 => ?_)
      · have c_1 : n ≤ i := (nI_leI (by omega) (by omega)).mp c_1
        refine lv_iconst (v := nI 0) hx hb dX4_wasNarrowAt_37 (by decide) ?_
        exact W.zret (v := nI 0) (ty := .boolean) hx hb hr (by decide) (fun t9 ht9 hW9 => ⟨_, rfl, (if_neg (by rw [← show i = n by omega, hq]; exact Bool.false_ne_true)).symm, ht9⟩) (fun q h => absurd h List.not_mem_nil) dX4_wasNarrowAt_38
      · have c_1 : ¬ (n ≤ i) := fun q9 => c_1 ((nI_leI (by omega) (by omega)).mpr q9)
        refine lv_aload_n hx hb dX4_wasNarrowAt_10 rfl (lv_at hl 1 rfl) ?_
        refine va_get (D := G.1) (ci := 4) (v := .ref qf) (C := "GradeRows$Steps") (T := TX4) (N := 9) hx hb htb inX4 hown hK hP 0 rfl rfl 4 (by decide) (htb _ qw_79) (fun _ h9 => h9) rfl dX4_wasNarrowAt_11 ?_
        refine lv_iload_n hx hb dX4_wasNarrowAt_14 rfl (lv_at hl 0 rfl) ?_
        refine qk_zald hx hb hK hP 2 2 rfl rfl (i := i) (by omega) (by omega) (v := if qm_fn sq i = true then nI 1 else nI 0) (hf i (by omega)) dX4_wasNarrowAt_15 ?_
        refine lv_if_eq (tgt := 31) hx hb dX4_wasNarrowAt_16 (by decide) (fun c1 => ?_) (fun c1 => ?_)
        · have c1 : ¬ (qm_fn sq i = true) := fun q9 => qk_ite0.mpr q9 c1
          refine lv_iinc (v := nI (i + 1)) (lv' := [(2, .int (nI (i + 1))), (0, .ref h0), (1, .int (nI p0))]) hx hb dX4_wasNarrowAt_31 hl (k := 0) rfl (nI_1 i) (by decide) rfl (fun ls hl => ?_)
          refine lv_goto (tgt := 2) hx hb dX4_wasNarrowAt_34 (by decide) ?_
          exact ih_2 (i + 1) ls (by omega) (by omega) (qm_wasF_no hq (by first | (intro h; exact c1 h.1) | (intro h; exact c2 (h.2 c1)))) (lv_sub hl [0, 1, 2] rfl)
        · have c1 : qm_fn sq i = true := qk_ite0.mp c1
          refine lv_aload_n hx hb dX4_wasNarrowAt_19 rfl (lv_at hl 1 rfl) ?_
          refine va_get (D := G.1) (ci := 4) (v := .ref qp) (C := "GradeRows$Steps") (T := TX4) (N := 9) hx hb htb inX4 hown hK hP 0 rfl rfl 1 (by decide) (htb _ qw_76) (fun _ h9 => h9) rfl dX4_wasNarrowAt_20 ?_
          refine lv_iload_n hx hb dX4_wasNarrowAt_23 rfl (lv_at hl 0 rfl) ?_
          have hb1 := hbp i (by omega)
          refine qk_iald hx hb hK hP 1 0 rfl rfl (i := i) (by omega) (by omega) (v := nI (qm_pl (sq i))) (hp i (by omega)) dX4_wasNarrowAt_24 ?_
          refine lv_iload_n hx hb dX4_wasNarrowAt_25 rfl (lv_at hl 2 rfl) ?_
          refine lv_icmp_ne (tgt := 31) hx hb dX4_wasNarrowAt_26 (by decide) (fun c2 => ?_) (fun c2 => ?_)
          · have c2 : ¬ ((qm_pl (sq i)) = p0) := fun q9 => c2 ((nI_eq (by omega) (by omega)).mpr q9)
            refine lv_iinc (v := nI (i + 1)) (lv' := [(2, .int (nI (i + 1))), (0, .ref h0), (1, .int (nI p0))]) hx hb dX4_wasNarrowAt_31 hl (k := 0) rfl (nI_1 i) (by decide) rfl (fun ls hl => ?_)
            refine lv_goto (tgt := 2) hx hb dX4_wasNarrowAt_34 (by decide) ?_
            exact ih_2 (i + 1) ls (by omega) (by omega) (qm_wasF_no hq (by first | (intro h; exact c1 h.1) | (intro h; exact c2 (h.2 c1)))) (lv_sub hl [0, 1, 2] rfl)
          · have c2 : (qm_pl (sq i)) = p0 := (nI_eq (by omega) (by omega)).mp c2
            refine lv_iconst (v := nI 1) hx hb dX4_wasNarrowAt_29 (by decide) ?_
            exact W.zret (v := nI 1) (ty := .boolean) hx hb hr (by decide) (fun t9 ht9 hW9 => ⟨_, rfl, (if_pos (qm_wasF_yes (by omega) c1 c2)).symm, ht9⟩) (fun q h => absurd h List.not_mem_nil) dX4_wasNarrowAt_30
  exact loop_2 (n - 0 + 1) 0 ls (by omega) (Nat.zero_le n) rfl (lv_sub hl [0, 1, 2] rfl)

set_option maxHeartbeats 4000000 in
set_option maxRecDepth 100000 in
/-- Steps.narrowPlace -/
theorem qc_T_nar (l : Launch) (G : qG) (h0 : Nat) (qr : Nat) (qp : Nat) (qd : Nat) (qc : Nat) (qf : Nat) (qt : Nat) (sp : Nat) (sc : Nat) (n : Nat) (fp : Nat → Int32) (ff : Nat → Int32) (sq : Nat → qS) (k : Int32) (hn : n ≤ 200) (hf : ∀ i, i < n → ff i = if qm_fn sq i = true then nI 1 else nI 0) (hp : ∀ i, i < n → fp i = nI (qm_pl (sq i))) : Met l yX4_narrowPlace wsX4_narrowPlace ({ frames := 0, cells := 0, slots := 0, locals := 0 } : Room) (va_Pc [.ref h0, .int k] (qk_pre G vwCl [(h0, .inr (4, [.ref qr, .ref qp, .ref qd, .ref qc, .ref qf, .ref qt, .ref sp, .ref sc, .int (nI n)])), (qp, .inl (G.2.1, 200, .inl fp)), (qf, .inl (G.2.2.2.1, 200, .inl ff))])) (vp_Si (fun r => r = qm_stk sq k n 0 0)) 0 0 (fun _ => False) := by
  refine Met.ofW (cc := cX4_narrowPlace) (maxL := 4) (ret := (some .int)) (by decide) rfl ?_
  intro p e s m args below meth c s₁ B hml hv
  obtain ⟨rfl, hP, hK, hN⟩ := hv
  have hx := B.exec
  have hb := B.bytes
  have hr := B.returns
  have hlocks := B.notSynchronized
  have hts := atoms_spec (ws := wsX4_narrowPlace) B.pre
  have htb := fun (w : Cond) (h : w ∈ qTb) => hts w (List.mem_cons_of_mem _ h)
  have hown : s.vm.findClass "GradeRows$Steps" = some m.cls := findClass_of_methodNamed B.named
  have hP : va_P G.1 vwCl [(h0, .inr (4, [.ref qr, .ref qp, .ref qd, .ref qc, .ref qf, .ref qt, .ref sp, .ref sc, .int (nI n)])), (qp, .inl (G.2.1, 200, .inl fp)), (qf, .inl (G.2.2.2.1, 200, .inl ff))] s.heap := hP
  have hl := lv_entry ([.ref h0, .int k]) (n := 4) (Nat.le_of_ble_eq_true rfl)
  rw [lg_entry_eq]
  generalize (lg_sl ([.ref h0, .int k]) ++ List.replicate (4 - (lg_sl ([.ref h0, .int k])).length) Slot.unset).toArray = ls at hl ⊢
  have hl : lv_has ls 4 [(0, .ref h0), (1, .int k)] := hl
  refine lv_iconst (v := nI 0) hx hb dX4_narrowPlace_0 (by decide) ?_
  refine lv_istore_n (lv' := [(2, .int (nI 0)), (0, .ref h0), (1, .int k)]) hx hb dX4_narrowPlace_1 rfl hl (by decide) rfl (fun ls hl => ?_)
  refine lv_iconst (v := nI 0) hx hb dX4_narrowPlace_2 (by decide) ?_
  refine lv_istore_n (lv' := [(3, .int (nI 0)), (2, .int (nI 0)), (0, .ref h0), (1, .int k)]) hx hb dX4_narrowPlace_3 rfl hl (by decide) rfl (fun ls hl => ?_)
  have loop_4 : ∀ (N : Nat) (i : Nat) (a : Nat) (ls : Array Slot), n - i < N → (i ≤ n) → (a ≤ i) → (qm_stk sq k n 0 0 = qm_stk sq k (n - i) i a) → lv_has ls 4 [(3, .int (nI i)), (2, .int (nI a)), (0, .ref h0), (1, .int k)] → W p l e (headSpec wsX4_narrowPlace ({ frames := 0, cells := 0, slots := 0, locals := 0 } : Room)).room s m ([.ref h0, .int k] : List Value).toArray below meth c s.heap [] 0 0 (MQ below (vp_Si (fun r => r = qm_stk sq k n 0 0)) ([.ref h0, .int k] : List Value).toArray s 0 0 (fun _ => False)) (F0 m 4 ls []) := by
    intro N
    induction N with
    | zero => intro i a ls hm; exact absurd hm (Nat.not_lt_zero _)
    | succ N ih_4 =>
      intro i a ls hm hi ha hq hl
      refine lv_iload_n hx hb dX4_narrowPlace_4 rfl (lv_at hl 0 rfl) ?_
      refine lv_aload_n hx hb dX4_narrowPlace_5 rfl (lv_at hl 2 rfl) ?_
      refine va_get (D := G.1) (ci := 4) (v := .int (nI n)) (C := "GradeRows$Steps") (T := TX4) (N := 9) hx hb htb inX4 hown hK hP 0 rfl rfl 8 (by decide) (htb _ qw_83) (fun _ h9 => h9) rfl dX4_narrowPlace_6 ?_
      refine lv_icmp_ge (tgt := 42) hx hb dX4_narrowPlace_9 (by decide) (fun c_1 => ?_) (fun c_1 => ?_)
      · have c_1 : n ≤ i := (nI_leI (by omega) (by omega)).mp c_1
        refine lv_iconst (v := (-1)) hx hb dX4_narrowPlace_42 (by decide) ?_
        exact W.iret (v := (-1)) hx hb hr (fun t9 ht9 hW9 => ⟨_, rfl, (hq.trans (by rw [show n - i = 0 by omega]; rfl)).symm, ht9⟩) (fun q h => absurd h List.not_mem_nil) dX4_narrowPlace_43
      · have c_1 : ¬ (n ≤ i) := fun q9 => c_1 ((nI_leI (by omega) (by omega)).mpr q9)
        refine lv_aload_n hx hb dX4_narrowPlace_12 rfl (lv_at hl 2 rfl) ?_
        refine va_get (D := G.1) (ci := 4) (v := .ref qf) (C := "GradeRows$Steps") (T := TX4) (N := 9) hx hb htb inX4 hown hK hP 0 rfl rfl 4 (by decide) (htb _ qw_79) (fun _ h9 => h9) rfl dX4_narrowPlace_13 ?_
        refine lv_iload_n hx hb dX4_narrowPlace_16 rfl (lv_at hl 0 rfl) ?_
        refine qk_zald hx hb hK hP 2 2 rfl rfl (i := i) (by omega) (by omega) (v := if qm_fn sq i = true then nI 1 else nI 0) (hf i (by omega)) dX4_narrowPlace_17 ?_
        refine lv_if_eq (tgt := 36) hx hb dX4_narrowPlace_18 (by decide) (fun c1 => ?_) (fun c1 => ?_)
        · have c1 : ¬ (qm_fn sq i = true) := fun q9 => qk_ite0.mpr q9 c1
          refine lv_iinc (v := nI (i + 1)) (lv' := [(3, .int (nI (i + 1))), (2, .int (nI a)), (0, .ref h0), (1, .int k)]) hx hb dX4_narrowPlace_36 hl (k := 0) rfl (nI_1 i) (by decide) rfl (fun ls hl => ?_)
          refine lv_goto (tgt := 4) hx hb dX4_narrowPlace_39 (by decide) ?_
          exact ih_4 (i + 1) a ls (by omega) (by omega) (by omega) (hq.trans (qm_stk_no (by omega) c1)) (lv_sub hl [0, 1, 2, 3] rfl)
        · have c1 : qm_fn sq i = true := qk_ite0.mp c1
          refine lv_iload_n hx hb dX4_narrowPlace_21 rfl (lv_at hl 1 rfl) ?_
          refine lv_iload_n hx hb dX4_narrowPlace_22 rfl (lv_at hl 3 rfl) ?_
          refine lv_icmp_ne (tgt := 33) hx hb dX4_narrowPlace_23 (by decide) (fun c2 => ?_) (fun c2 => ?_)
          · refine lv_iinc (v := nI (a + 1)) (lv' := [(2, .int (nI (a + 1))), (3, .int (nI i)), (0, .ref h0), (1, .int k)]) hx hb dX4_narrowPlace_33 hl (k := 1) rfl (nI_1 a) (by decide) rfl (fun ls hl => ?_)
            refine lv_iinc (v := nI (i + 1)) (lv' := [(3, .int (nI (i + 1))), (2, .int (nI (a + 1))), (0, .ref h0), (1, .int k)]) hx hb dX4_narrowPlace_36 hl (k := 1) rfl (nI_1 i) (by decide) rfl (fun ls hl => ?_)
            refine lv_goto (tgt := 4) hx hb dX4_narrowPlace_39 (by decide) ?_
            exact ih_4 (i + 1) (a + 1) ls (by omega) (by omega) (by omega) (hq.trans (qm_stk_pass (by omega) c1 c2)) (lv_sub hl [0, 1, 2, 3] rfl)
          · refine lv_aload_n hx hb dX4_narrowPlace_26 rfl (lv_at hl 2 rfl) ?_
            refine va_get (D := G.1) (ci := 4) (v := .ref qp) (C := "GradeRows$Steps") (T := TX4) (N := 9) hx hb htb inX4 hown hK hP 0 rfl rfl 1 (by decide) (htb _ qw_76) (fun _ h9 => h9) rfl dX4_narrowPlace_27 ?_
            refine lv_iload_n hx hb dX4_narrowPlace_30 rfl (lv_at hl 0 rfl) ?_
            refine qk_iald hx hb hK hP 1 0 rfl rfl (i := i) (by omega) (by omega) (v := nI (qm_pl (sq i))) (hp i (by omega)) dX4_narrowPlace_31 ?_
            exact W.iret (v := nI (qm_pl (sq i))) hx hb hr (fun t9 ht9 hW9 => ⟨_, rfl, (hq.trans (qm_stk_hit (by omega) c1 c2)).symm, ht9⟩) (fun q h => absurd h List.not_mem_nil) dX4_narrowPlace_32
  exact loop_4 (n - 0 + 1) 0 0 ls (by omega) (Nat.zero_le n) (Nat.le_refl 0) rfl (lv_sub hl [0, 1, 2, 3] rfl)

set_option maxHeartbeats 4000000 in
set_option maxRecDepth 100000 in
/-- Steps.longestClimb -/
theorem qc_T_climb (l : Launch) (G : qG) (h0 : Nat) (qr : Nat) (qp : Nat) (qd : Nat) (qc : Nat) (qf : Nat) (qt : Nat) (sp : Nat) (sc : Nat) (n : Nat) (fc : Nat → Int32) (cq : Nat → Nat) (hn : n ≤ 200) (hc : ∀ i, i < n → fc i = nI (cq i)) (hcb : ∀ i, i < n → cq i ≤ 130000) : Met l yX4_longestClimb wsX4_longestClimb ({ frames := 1, cells := 0, slots := 0, locals := 21 } : Room) (va_Pc [.ref h0] (qk_pre G vwCl [(h0, .inr (4, [.ref qr, .ref qp, .ref qd, .ref qc, .ref qf, .ref qt, .ref sp, .ref sc, .int (nI n)])), (qc, .inl (G.2.1, 200, .inl fc))])) (vp_Si (fun r => r = nI (qm_run cq n).2)) 0 0 (fun _ => False) := by
  refine Met.ofW (cc := cX4_longestClimb) (maxL := 4) (ret := (some .int)) (by decide) rfl ?_
  intro p e s m args below meth c s₁ B hml hv
  obtain ⟨rfl, hP, hK, hN⟩ := hv
  have hx := B.exec
  have hb := B.bytes
  have hr := B.returns
  have hlocks := B.notSynchronized
  have hts := atoms_spec (ws := wsX4_longestClimb) B.pre
  have htb := fun (w : Cond) (h : w ∈ qTb) => hts w (List.mem_cons_of_mem _ h)
  have hown : s.vm.findClass "GradeRows$Steps" = some m.cls := findClass_of_methodNamed B.named
  have hP : va_P G.1 vwCl [(h0, .inr (4, [.ref qr, .ref qp, .ref qd, .ref qc, .ref qf, .ref qt, .ref sp, .ref sc, .int (nI n)])), (qc, .inl (G.2.1, 200, .inl fc))] s.heap := hP
  have hl := lv_entry ([.ref h0]) (n := 4) (Nat.le_of_ble_eq_true rfl)
  rw [lg_entry_eq]
  generalize (lg_sl ([.ref h0]) ++ List.replicate (4 - (lg_sl ([.ref h0])).length) Slot.unset).toArray = ls at hl ⊢
  have hl : lv_has ls 4 [(0, .ref h0)] := hl
  refine lv_iconst (v := nI 0) hx hb dX4_longestClimb_0 (by decide) ?_
  refine lv_istore_n (lv' := [(1, .int (nI 0)), (0, .ref h0)]) hx hb dX4_longestClimb_1 rfl hl (by decide) rfl (fun ls hl => ?_)
  refine lv_iconst (v := nI 0) hx hb dX4_longestClimb_2 (by decide) ?_
  refine lv_istore_n (lv' := [(2, .int (nI 0)), (1, .int (nI 0)), (0, .ref h0)]) hx hb dX4_longestClimb_3 rfl hl (by decide) rfl (fun ls hl => ?_)
  refine lv_iconst (v := nI 0) hx hb dX4_longestClimb_4 (by decide) ?_
  refine lv_istore_n (lv' := [(3, .int (nI 0)), (2, .int (nI 0)), (1, .int (nI 0)), (0, .ref h0)]) hx hb dX4_longestClimb_5 rfl hl (by decide) rfl (fun ls hl => ?_)
  have loop_6 : ∀ (N : Nat) (i : Nat) (le : Nat) (lo : Nat) (ls : Array Slot), n - i < N → (i ≤ n) → (qm_run cq i = (le, lo)) → (le ≤ i ∧ lo ≤ i) → lv_has ls 4 [(3, .int (nI i)), (2, .int (nI le)), (1, .int (nI lo)), (0, .ref h0)] → W p l e (headSpec wsX4_longestClimb ({ frames := 1, cells := 0, slots := 0, locals := 21 } : Room)).room s m ([.ref h0] : List Value).toArray below meth c s.heap [] 0 0 (MQ below (vp_Si (fun r => r = nI (qm_run cq n).2)) ([.ref h0] : List Value).toArray s 0 0 (fun _ => False)) (F0 m 6 ls []) := by
    intro N
    induction N with
    | zero => intro i le lo ls hm; exact absurd hm (Nat.not_lt_zero _)
    | succ N ih_6 =>
      intro i le lo ls hm hi hq hle hl
      refine lv_iload_n hx hb dX4_longestClimb_6 rfl (lv_at hl 0 rfl) ?_
      refine lv_aload_n hx hb dX4_longestClimb_7 rfl (lv_at hl 3 rfl) ?_
      refine va_get (D := G.1) (ci := 4) (v := .int (nI n)) (C := "GradeRows$Steps") (T := TX4) (N := 9) hx hb htb inX4 hown hK hP 0 rfl rfl 8 (by decide) (htb _ qw_83) (fun _ h9 => h9) rfl dX4_longestClimb_8 ?_
      refine lv_icmp_ge (tgt := 55) hx hb dX4_longestClimb_11 (by decide) (fun c_1 => ?_) (fun c_1 => ?_)
      · have c_1 : n ≤ i := (nI_leI (by omega) (by omega)).mp c_1
        refine lv_iload_n hx hb dX4_longestClimb_55 rfl (lv_at hl 2 rfl) ?_
        exact W.iret (v := nI lo) hx hb hr (fun t9 ht9 hW9 => ⟨_, rfl, by rw [← show i = n by omega, hq], ht9⟩) (fun q h => absurd h List.not_mem_nil) dX4_longestClimb_56
      · have c_1 : ¬ (n ≤ i) := fun q9 => c_1 ((nI_leI (by omega) (by omega)).mpr q9)
        refine lv_iload_n hx hb dX4_longestClimb_14 rfl (lv_at hl 0 rfl) ?_
        refine lv_if_le (tgt := 41) hx hb dX4_longestClimb_15 (by decide) (fun c_2 => ?_) (fun c_2 => ?_)
        · have c_2 : i ≤ 0 := (z0le (by omega)).mp c_2
          refine lv_iconst (v := nI 1) hx hb dX4_longestClimb_41 (by decide) ?_
          refine lv_istore_n (lv' := [(2, .int (nI 1)), (3, .int (nI i)), (1, .int (nI lo)), (0, .ref h0)]) hx hb dX4_longestClimb_42 rfl hl (by decide) rfl (fun ls hl => ?_)
          refine lv_iload_n hx hb dX4_longestClimb_43 rfl (lv_at hl 2 rfl) ?_
          refine lv_iload_n hx hb dX4_longestClimb_44 rfl (lv_at hl 0 rfl) ?_
          refine va_mmax hx hb (hml.trans hl.1.symm) hown (htb _ qw_310) (htb _ qw_311) (htb _ qw_19) (htb _ qw_312) (Nat.le_of_ble_eq_true rfl) (Nat.le_of_ble_eq_true rfl) (Nat.le_of_ble_eq_true rfl) (Nat.le_of_ble_eq_true rfl) dX4_longestClimb_45 ?_
          refine qk_topi (t := nI (if lo < 1 then 1 else lo)) (nI_max (by omega) (by omega)) ?_
          refine lv_istore_n (lv' := [(1, .int (nI (if lo < 1 then 1 else lo))), (2, .int (nI 1)), (3, .int (nI i)), (0, .ref h0)]) hx hb dX4_longestClimb_48 rfl hl (by decide) rfl (fun ls hl => ?_)
          refine lv_iinc (v := nI (i + 1)) (lv' := [(3, .int (nI (i + 1))), (1, .int (nI (if lo < 1 then 1 else lo))), (2, .int (nI 1)), (0, .ref h0)]) hx hb dX4_longestClimb_49 hl (k := 2) rfl (nI_1 i) (by decide) rfl (fun ls hl => ?_)
          refine lv_goto (tgt := 6) hx hb dX4_longestClimb_52 (by decide) ?_
          exact ih_6 (i + 1) 1 (if lo < 1 then 1 else lo) ls (by omega) (by omega) (qm_run_new hq (by intro h; omega)) (⟨by omega, by split <;> omega⟩) (lv_sub hl [0, 2, 1, 3] rfl)
        · have c_2 : ¬ (i ≤ 0) := fun q9 => c_2 ((z0le (by omega)).mpr q9)
          refine lv_aload_n hx hb dX4_longestClimb_18 rfl (lv_at hl 3 rfl) ?_
          refine va_get (D := G.1) (ci := 4) (v := .ref qc) (C := "GradeRows$Steps") (T := TX4) (N := 9) hx hb htb inX4 hown hK hP 0 rfl rfl 3 (by decide) (htb _ qw_78) (fun _ h9 => h9) rfl dX4_longestClimb_19 ?_
          refine lv_iload_n hx hb dX4_longestClimb_22 rfl (lv_at hl 0 rfl) ?_
          have hb1 := hcb i (by omega)
          have hb2 := hcb (i - 1) (by omega)
          refine qk_iald hx hb hK hP 1 0 rfl rfl (i := i) (by omega) (by omega) (v := nI (cq i)) (hc i (by omega)) dX4_longestClimb_23 ?_
          refine lv_aload_n hx hb dX4_longestClimb_24 rfl (lv_at hl 3 rfl) ?_
          refine va_get (D := G.1) (ci := 4) (v := .ref qc) (C := "GradeRows$Steps") (T := TX4) (N := 9) hx hb htb inX4 hown hK hP 0 rfl rfl 3 (by decide) (htb _ qw_78) (fun _ h9 => h9) rfl dX4_longestClimb_25 ?_
          refine lv_iload_n hx hb dX4_longestClimb_28 rfl (lv_at hl 0 rfl) ?_
          refine lv_iconst (v := nI 1) hx hb dX4_longestClimb_29 (by decide) ?_
          refine lv_isub hx hb dX4_longestClimb_30 ?_
          refine qk_topi (t := nI (i - 1)) (pk_sub (by omega)) ?_
          refine qk_iald hx hb hK hP 1 0 rfl rfl (i := (i - 1)) (by omega) (by omega) (v := nI (cq (i - 1))) (hc (i - 1) (by omega)) dX4_longestClimb_31 ?_
          refine lv_icmp_lt (tgt := 41) hx hb dX4_longestClimb_32 (by decide) (fun c_3 => ?_) (fun c_3 => ?_)
          · have c_3 : (cq i) < (cq (i - 1)) := (nI_ltI (by omega) (by omega)).mp c_3
            refine lv_iconst (v := nI 1) hx hb dX4_longestClimb_41 (by decide) ?_
            refine lv_istore_n (lv' := [(2, .int (nI 1)), (3, .int (nI i)), (1, .int (nI lo)), (0, .ref h0)]) hx hb dX4_longestClimb_42 rfl hl (by decide) rfl (fun ls hl => ?_)
            refine lv_iload_n hx hb dX4_longestClimb_43 rfl (lv_at hl 2 rfl) ?_
            refine lv_iload_n hx hb dX4_longestClimb_44 rfl (lv_at hl 0 rfl) ?_
            refine va_mmax hx hb (hml.trans hl.1.symm) hown (htb _ qw_310) (htb _ qw_311) (htb _ qw_19) (htb _ qw_312) (Nat.le_of_ble_eq_true rfl) (Nat.le_of_ble_eq_true rfl) (Nat.le_of_ble_eq_true rfl) (Nat.le_of_ble_eq_true rfl) dX4_longestClimb_45 ?_
            refine qk_topi (t := nI (if lo < 1 then 1 else lo)) (nI_max (by omega) (by omega)) ?_
            refine lv_istore_n (lv' := [(1, .int (nI (if lo < 1 then 1 else lo))), (2, .int (nI 1)), (3, .int (nI i)), (0, .ref h0)]) hx hb dX4_longestClimb_48 rfl hl (by decide) rfl (fun ls hl => ?_)
            refine lv_iinc (v := nI (i + 1)) (lv' := [(3, .int (nI (i + 1))), (1, .int (nI (if lo < 1 then 1 else lo))), (2, .int (nI 1)), (0, .ref h0)]) hx hb dX4_longestClimb_49 hl (k := 2) rfl (nI_1 i) (by decide) rfl (fun ls hl => ?_)
            refine lv_goto (tgt := 6) hx hb dX4_longestClimb_52 (by decide) ?_
            exact ih_6 (i + 1) 1 (if lo < 1 then 1 else lo) ls (by omega) (by omega) (qm_run_new hq (by intro h; omega)) (⟨by omega, by split <;> omega⟩) (lv_sub hl [0, 2, 1, 3] rfl)
          · have c_3 : ¬ ((cq i) < (cq (i - 1))) := fun q9 => c_3 ((nI_ltI (by omega) (by omega)).mpr q9)
            refine lv_iload_n hx hb dX4_longestClimb_35 rfl (lv_at hl 1 rfl) ?_
            refine lv_iconst (v := nI 1) hx hb dX4_longestClimb_36 (by decide) ?_
            refine lv_iadd hx hb dX4_longestClimb_37 ?_
            refine qk_topi (t := nI (le + 1)) ((nI_add _ _).trans rfl) ?_
            refine lv_goto (tgt := 42) hx hb dX4_longestClimb_38 (by decide) ?_
            refine lv_istore_n (lv' := [(2, .int (nI (le + 1))), (3, .int (nI i)), (1, .int (nI lo)), (0, .ref h0)]) hx hb dX4_longestClimb_42 rfl hl (by decide) rfl (fun ls hl => ?_)
            refine lv_iload_n hx hb dX4_longestClimb_43 rfl (lv_at hl 2 rfl) ?_
            refine lv_iload_n hx hb dX4_longestClimb_44 rfl (lv_at hl 0 rfl) ?_
            refine va_mmax hx hb (hml.trans hl.1.symm) hown (htb _ qw_310) (htb _ qw_311) (htb _ qw_19) (htb _ qw_312) (Nat.le_of_ble_eq_true rfl) (Nat.le_of_ble_eq_true rfl) (Nat.le_of_ble_eq_true rfl) (Nat.le_of_ble_eq_true rfl) dX4_longestClimb_45 ?_
            refine qk_topi (t := nI (if lo < le + 1 then le + 1 else lo)) (nI_max (by omega) (by omega)) ?_
            refine lv_istore_n (lv' := [(1, .int (nI (if lo < le + 1 then le + 1 else lo))), (2, .int (nI (le + 1))), (3, .int (nI i)), (0, .ref h0)]) hx hb dX4_longestClimb_48 rfl hl (by decide) rfl (fun ls hl => ?_)
            refine lv_iinc (v := nI (i + 1)) (lv' := [(3, .int (nI (i + 1))), (1, .int (nI (if lo < le + 1 then le + 1 else lo))), (2, .int (nI (le + 1))), (0, .ref h0)]) hx hb dX4_longestClimb_49 hl (k := 2) rfl (nI_1 i) (by decide) rfl (fun ls hl => ?_)
            refine lv_goto (tgt := 6) hx hb dX4_longestClimb_52 (by decide) ?_
            exact ih_6 (i + 1) (le + 1) (if lo < le + 1 then le + 1 else lo) ls (by omega) (by omega) (qm_run_up hq ⟨by omega, by omega⟩) (⟨by omega, by split <;> omega⟩) (lv_sub hl [0, 2, 1, 3] rfl)
  exact loop_6 (n - 0 + 1) 0 0 0 ls (by omega) (Nat.zero_le n) rfl (⟨Nat.le_refl 0, Nat.le_refl 0⟩) (lv_sub hl [0, 1, 2, 3] rfl)

set_option maxHeartbeats 4000000 in
set_option maxRecDepth 100000 in
/-- Steps.add, full -/
theorem qc_T_add0 (l : Launch) (G : qG) (h0 : Nat) (qr : Nat) (qp : Nat) (qd : Nat) (qc : Nat) (qf : Nat) (qt : Nat) (sp : Nat) (sc : Nat) (n : Nat) (a : Int32) (b : Int32) (x : Int32) (y : Int32) (hn : ¬ n < 200) (hn2 : n ≤ 200) : Met l yX4_add wsX4_add ({ frames := 1, cells := 0, slots := 0, locals := 20 } : Room) (va_Pc [.ref h0, .int a, .int b, .int x, .int y] (qk_pre G vwCl [(h0, .inr (4, [.ref qr, .ref qp, .ref qd, .ref qc, .ref qf, .ref qt, .ref sp, .ref sc, .int (nI n)]))])) (vp_Si (fun r => r = (-1))) 0 0 (fun _ => False) := by
  refine Met.ofW (cc := cX4_add) (maxL := 5) (ret := (some .int)) (by decide) rfl ?_
  intro p e s m args below meth c s₁ B hml hv
  obtain ⟨rfl, hP, hK, hN⟩ := hv
  have hx := B.exec
  have hb := B.bytes
  have hr := B.returns
  have hlocks := B.notSynchronized
  have hts := atoms_spec (ws := wsX4_add) B.pre
  have htb := fun (w : Cond) (h : w ∈ qTb) => hts w (List.mem_cons_of_mem _ h)
  have hown : s.vm.findClass "GradeRows$Steps" = some m.cls := findClass_of_methodNamed B.named
  have hP : va_P G.1 vwCl [(h0, .inr (4, [.ref qr, .ref qp, .ref qd, .ref qc, .ref qf, .ref qt, .ref sp, .ref sc, .int (nI n)]))] s.heap := hP
  have hl := lv_entry ([.ref h0, .int a, .int b, .int x, .int y]) (n := 5) (Nat.le_of_ble_eq_true rfl)
  rw [lg_entry_eq]
  generalize (lg_sl ([.ref h0, .int a, .int b, .int x, .int y]) ++ List.replicate (5 - (lg_sl ([.ref h0, .int a, .int b, .int x, .int y])).length) Slot.unset).toArray = ls at hl ⊢
  have hl : lv_has ls 5 [(0, .ref h0), (1, .int a), (2, .int b), (3, .int x), (4, .int y)] := hl
  refine lv_aload_n hx hb dX4_add_0 rfl (lv_at hl 0 rfl) ?_
  have hPc := hP.sub (ws' := [(h0, .inr (4, [.ref qr, .ref qp, .ref qd, .ref qc, .ref qf, .ref qt, .ref sp, .ref sc, .int (nI n)]))]) [0] rfl
  refine vp_callSi (va_runV (As := []) (rest := []) ⟨hx, hb, hml, hown, htb⟩ (qc_T_full l G h0 qr qp qd qc qf qt sp sc n hn2) (cwV 0 htb (qW_V qw_177 qw_161 qw_162 qw_15 qw_163) rfl rfl rfl (by decide +kernel) ⟨Nat.le_of_ble_eq_true rfl, Nat.le_of_ble_eq_true rfl⟩) (qk_pv (ci := 4) (q0 := 0) hK hPc hN rfl rfl) rfl rfl hl.1 rfl (lv_room (Nat.le_of_ble_eq_true rfl)) dX4_add_1 ⟨Nat.le_of_ble_eq_true rfl, Nat.le_of_ble_eq_true rfl⟩).run (fun r_1 e_1 => ?_)
  have e_1 := e_1.symm
  subst e_1
  refine qk_topi (t := nI 1) (if_pos (by omega)) ?_
  refine lv_if_eq (tgt := 9) hx hb dX4_add_4 (by decide) (fun c_1 => ?_) (fun c_1 => ?_)
  · have c_1 : 1 = 0 := (z0eq (by omega)).mp c_1
    exfalso; omega
  · have c_1 : ¬ (1 = 0) := fun q9 => c_1 ((z0eq (by omega)).mpr q9)
    refine lv_iconst (v := (-1)) hx hb dX4_add_7 (by decide) ?_
    exact W.iret (v := (-1)) hx hb hr (fun t9 ht9 hW9 => ⟨_, rfl, rfl, ht9⟩) (fun q h => absurd h List.not_mem_nil) dX4_add_8

set_option maxHeartbeats 4000000 in
set_option maxRecDepth 100000 in
/-- Steps.add -/
theorem qc_T_add (l : Launch) (G : qG) (h0 : Nat) (qr : Nat) (qp : Nat) (qd : Nat) (qc : Nat) (qf : Nat) (qt : Nat) (sp : Nat) (sc : Nat) (n : Nat) (fr : Nat → Int32) (fp : Nat → Int32) (fd : Nat → Int32) (fc : Nat → Int32) (ff : Nat → Int32) (ft : Nat → Int64) (q1 : Nat) (f1 : Nat → Int32) (q2 : Nat) (f2 : Nat → Int32) (sq : Nat → qS) (z1 : Nat) (pl : Nat) (wd : Nat) (pr : Nat) (tt : Nat) (sz : Nat) (hn : n < 200) (hf : ∀ i, i < n → ff i = if qm_fn sq i = true then nI 1 else nI 0) (hp : ∀ i, i < n → fp i = nI (qm_pl (sq i))) (hbp : ∀ i, i < n → qm_pl (sq i) ≤ 255) (hpl : pl ≤ 255) (hz1 : z1 ≤ 40) (hwd : wd ≤ 20) (hpr : pr < 2 ^ 31) (htt : ft n = lN tt) : Met l yX4_add wsX4_add ({ frames := 1, cells := 0, slots := 0, locals := 22 } : Room) (va_Pc [.ref h0, .int (nM z1), .int (nI pl), .int (nI wd), .int (nI pr)] (qk_prw G vwCl [(h0, .inr (4, [.ref qr, .ref qp, .ref qd, .ref qc, .ref qf, .ref qt, .ref sp, .ref sc, .int (nI n)])), (qr, .inl (G.2.1, 200, .inl fr)), (qp, .inl (G.2.1, 200, .inl fp)), (qd, .inl (G.2.1, 200, .inl fd)), (qc, .inl (G.2.1, 200, .inl fc)), (qf, .inl (G.2.2.2.1, 200, .inl ff)), (qt, .inl (G.2.2.1, 201, .inr (.inl ft))), (sp, .inr (3, [.ref q1, .int (nI n)])), (q1, .inl (G.2.1, 200, .inl f1)), (sc, .inr (3, [.ref q2, .int (nI n)])), (q2, .inl (G.2.1, 200, .inl f2))] sz)) (va_Qi (fun (r : Int32) (u : Int32 × (Nat → Int32) × (Nat → Int32)) => r = nI n ∧ u.1 = (if ¬ z1 = 0 ∧ wd = 1 ∧ ¬ qm_wasF sq pl n = true then nI 1 else nI 0) ∧ qm_ins f1 n (nI pr) u.2.1 ∧ qm_ins f2 n (qm_code (nM z1) (nI pl) (nI wd)) u.2.2) (qk_B G vwCl (va_A [(h0, .inr (4, [.ref qr, .ref qp, .ref qd, .ref qc, .ref qf, .ref qt, .ref sp, .ref sc, .int (nI n)])), (qr, .inl (G.2.1, 200, .inl fr)), (qp, .inl (G.2.1, 200, .inl fp)), (qd, .inl (G.2.1, 200, .inl fd)), (qc, .inl (G.2.1, 200, .inl fc)), (qf, .inl (G.2.2.2.1, 200, .inl ff)), (qt, .inl (G.2.2.1, 201, .inr (.inl ft))), (sp, .inr (3, [.ref q1, .int (nI n)])), (q1, .inl (G.2.1, 200, .inl f1)), (sc, .inr (3, [.ref q2, .int (nI n)])), (q2, .inl (G.2.1, 200, .inl f2))] sz) (fun (u : Int32 × (Nat → Int32) × (Nat → Int32)) => [(h0, .inr (4, [.ref qr, .ref qp, .ref qd, .ref qc, .ref qf, .ref qt, .ref sp, .ref sc, .int (nI (n + 1))])), (qr, .inl (G.2.1, 200, .inl (upd fr n (nM z1)))), (qp, .inl (G.2.1, 200, .inl (upd fp n (nI pl)))), (qd, .inl (G.2.1, 200, .inl (upd fd n (nI wd)))), (qc, .inl (G.2.1, 200, .inl (upd fc n (nI pr)))), (qf, .inl (G.2.2.2.1, 200, .inl (upd ff n u.1))), (qt, .inl (G.2.2.1, 201, .inr (.inl (vp_updL ft (n + 1) (lN (tt + pr)))))), (sp, .inr (3, [.ref q1, .int (nI (n + 1))])), (q1, .inl (G.2.1, 200, .inl u.2.1)), (sc, .inr (3, [.ref q2, .int (nI (n + 1))])), (q2, .inl (G.2.1, 200, .inl u.2.2))])) (va_A [(h0, .inr (4, [.ref qr, .ref qp, .ref qd, .ref qc, .ref qf, .ref qt, .ref sp, .ref sc, .int (nI n)])), (qr, .inl (G.2.1, 200, .inl fr)), (qp, .inl (G.2.1, 200, .inl fp)), (qd, .inl (G.2.1, 200, .inl fd)), (qc, .inl (G.2.1, 200, .inl fc)), (qf, .inl (G.2.2.2.1, 200, .inl ff)), (qt, .inl (G.2.2.1, 201, .inr (.inl ft))), (sp, .inr (3, [.ref q1, .int (nI n)])), (q1, .inl (G.2.1, 200, .inl f1)), (sc, .inr (3, [.ref q2, .int (nI n)])), (q2, .inl (G.2.1, 200, .inl f2))] sz)) 0 0 (va_A [(h0, .inr (4, [.ref qr, .ref qp, .ref qd, .ref qc, .ref qf, .ref qt, .ref sp, .ref sc, .int (nI n)])), (qr, .inl (G.2.1, 200, .inl fr)), (qp, .inl (G.2.1, 200, .inl fp)), (qd, .inl (G.2.1, 200, .inl fd)), (qc, .inl (G.2.1, 200, .inl fc)), (qf, .inl (G.2.2.2.1, 200, .inl ff)), (qt, .inl (G.2.2.1, 201, .inr (.inl ft))), (sp, .inr (3, [.ref q1, .int (nI n)])), (q1, .inl (G.2.1, 200, .inl f1)), (sc, .inr (3, [.ref q2, .int (nI n)])), (q2, .inl (G.2.1, 200, .inl f2))] sz) := by
  refine Met.ofW (cc := cX4_add) (maxL := 5) (ret := (some .int)) (by decide) rfl ?_
  intro p e s m args below meth c s₁ B hml hv
  obtain ⟨rfl, hsz, hP, hK, hD0, hN⟩ := hv
  have hx := B.exec
  have hb := B.bytes
  have hr := B.returns
  have hlocks := B.notSynchronized
  have hts := atoms_spec (ws := wsX4_add) B.pre
  have htb := fun (w : Cond) (h : w ∈ qTb) => hts w (List.mem_cons_of_mem _ h)
  have hown : s.vm.findClass "GradeRows$Steps" = some m.cls := findClass_of_methodNamed B.named
  subst hsz
  have hD := hD0.self (sz := s.heap.size)
  generalize hAe : va_A [(h0, .inr (4, [.ref qr, .ref qp, .ref qd, .ref qc, .ref qf, .ref qt, .ref sp, .ref sc, .int (nI n)])), (qr, .inl (G.2.1, 200, .inl fr)), (qp, .inl (G.2.1, 200, .inl fp)), (qd, .inl (G.2.1, 200, .inl fd)), (qc, .inl (G.2.1, 200, .inl fc)), (qf, .inl (G.2.2.2.1, 200, .inl ff)), (qt, .inl (G.2.2.1, 201, .inr (.inl ft))), (sp, .inr (3, [.ref q1, .int (nI n)])), (q1, .inl (G.2.1, 200, .inl f1)), (sc, .inr (3, [.ref q2, .int (nI n)])), (q2, .inl (G.2.1, 200, .inl f2))] s.heap.size = A at hD ⊢
  have hA : ∀ q : Nat, s.heap.size ≤ q → A q := fun q h => by rw [← hAe]; exact Or.inr h
  have hS : va_S A s.heap s.heap [] := va_S.rf
  have hP : va_P G.1 vwCl [(h0, .inr (4, [.ref qr, .ref qp, .ref qd, .ref qc, .ref qf, .ref qt, .ref sp, .ref sc, .int (nI n)])), (qr, .inl (G.2.1, 200, .inl fr)), (qp, .inl (G.2.1, 200, .inl fp)), (qd, .inl (G.2.1, 200, .inl fd)), (qc, .inl (G.2.1, 200, .inl fc)), (qf, .inl (G.2.2.2.1, 200, .inl ff)), (qt, .inl (G.2.2.1, 201, .inr (.inl ft))), (sp, .inr (3, [.ref q1, .int (nI n)])), (q1, .inl (G.2.1, 200, .inl f1)), (sc, .inr (3, [.ref q2, .int (nI n)])), (q2, .inl (G.2.1, 200, .inl f2))] s.heap := hP
  have hl := lv_entry ([.ref h0, .int (nM z1), .int (nI pl), .int (nI wd), .int (nI pr)]) (n := 5) (Nat.le_of_ble_eq_true rfl)
  rw [lg_entry_eq]
  generalize (lg_sl ([.ref h0, .int (nM z1), .int (nI pl), .int (nI wd), .int (nI pr)]) ++ List.replicate (5 - (lg_sl ([.ref h0, .int (nM z1), .int (nI pl), .int (nI wd), .int (nI pr)])).length) Slot.unset).toArray = ls at hl ⊢
  have hl : lv_has ls 5 [(0, .ref h0), (1, .int (nM z1)), (2, .int (nI pl)), (3, .int (nI wd)), (4, .int (nI pr))] := hl
  refine lv_aload_n hx hb dX4_add_0 rfl (lv_at hl 0 rfl) ?_
  have hPc := hP.sub (ws' := [(h0, .inr (4, [.ref qr, .ref qp, .ref qd, .ref qc, .ref qf, .ref qt, .ref sp, .ref sc, .int (nI n)]))]) [0] rfl
  refine vp_callSi (va_runV (As := []) (rest := []) ⟨hx, hb, hml, hown, htb⟩ (qc_T_full l G h0 qr qp qd qc qf qt sp sc n (by omega)) (cwV 0 htb (qW_V qw_177 qw_161 qw_162 qw_15 qw_163) rfl rfl rfl (by decide +kernel) ⟨Nat.le_of_ble_eq_true rfl, Nat.le_of_ble_eq_true rfl⟩) (qk_pv (ci := 4) (q0 := 0) hK hPc hN rfl rfl) rfl rfl hl.1 rfl (lv_room (Nat.le_of_ble_eq_true rfl)) dX4_add_1 ⟨Nat.le_of_ble_eq_true rfl, Nat.le_of_ble_eq_true rfl⟩).run (fun r_1 e_1 => ?_)
  have e_1 := e_1.symm
  subst e_1
  refine qk_topi (t := nI 0) (if_neg (by omega)) ?_
  refine lv_if_eq (tgt := 9) hx hb dX4_add_4 (by decide) (fun c_1 => ?_) (fun c_1 => ?_)
  · have c_1 : 0 = 0 := (z0eq (by omega)).mp c_1
    refine lv_aload_n hx hb dX4_add_9 rfl (lv_at hl 0 rfl) ?_
    refine va_get (D := G.1) (ci := 4) (v := .ref qr) (C := "GradeRows$Steps") (T := TX4) (N := 9) hx hb htb inX4 hown hK hP 0 rfl rfl 0 (by decide) (htb _ qw_75) (fun _ h9 => h9) rfl dX4_add_10 ?_
    refine lv_aload_n hx hb dX4_add_13 rfl (lv_at hl 0 rfl) ?_
    refine va_get (D := G.1) (ci := 4) (v := .int (nI n)) (C := "GradeRows$Steps") (T := TX4) (N := 9) hx hb htb inX4 hown hK hP 0 rfl rfl 8 (by decide) (htb _ qw_83) (fun _ h9 => h9) rfl dX4_add_14 ?_
    refine lv_iload_n hx hb dX4_add_17 rfl (lv_at hl 1 rfl) ?_
    refine qk_iast hx hb hK hP hD hS 1 0 rfl rfl (i := n) (by omega) (by omega) dX4_add_18 (fun H locs hP hD hS => ?_)
    have hP : va_P G.1 vwCl [(h0, .inr (4, [.ref qr, .ref qp, .ref qd, .ref qc, .ref qf, .ref qt, .ref sp, .ref sc, .int (nI n)])), (qr, .inl (G.2.1, 200, .inl (upd fr n (nM z1)))), (qp, .inl (G.2.1, 200, .inl fp)), (qd, .inl (G.2.1, 200, .inl fd)), (qc, .inl (G.2.1, 200, .inl fc)), (qf, .inl (G.2.2.2.1, 200, .inl ff)), (qt, .inl (G.2.2.1, 201, .inr (.inl ft))), (sp, .inr (3, [.ref q1, .int (nI n)])), (q1, .inl (G.2.1, 200, .inl f1)), (sc, .inr (3, [.ref q2, .int (nI n)])), (q2, .inl (G.2.1, 200, .inl f2))] H := hP
    have hD : va_D A [(h0, .inr (4, [.ref qr, .ref qp, .ref qd, .ref qc, .ref qf, .ref qt, .ref sp, .ref sc, .int (nI n)])), (qr, .inl (G.2.1, 200, .inl (upd fr n (nM z1)))), (qp, .inl (G.2.1, 200, .inl fp)), (qd, .inl (G.2.1, 200, .inl fd)), (qc, .inl (G.2.1, 200, .inl fc)), (qf, .inl (G.2.2.2.1, 200, .inl ff)), (qt, .inl (G.2.2.1, 201, .inr (.inl ft))), (sp, .inr (3, [.ref q1, .int (nI n)])), (q1, .inl (G.2.1, 200, .inl f1)), (sc, .inr (3, [.ref q2, .int (nI n)])), (q2, .inl (G.2.1, 200, .inl f2))] := hD
    refine lv_aload_n hx hb dX4_add_19 rfl (lv_at hl 0 rfl) ?_
    refine va_get (D := G.1) (ci := 4) (v := .ref qp) (C := "GradeRows$Steps") (T := TX4) (N := 9) hx hb htb inX4 hown hK hP 0 rfl rfl 1 (by decide) (htb _ qw_76) (fun _ h9 => h9) rfl dX4_add_20 ?_
    refine lv_aload_n hx hb dX4_add_23 rfl (lv_at hl 0 rfl) ?_
    refine va_get (D := G.1) (ci := 4) (v := .int (nI n)) (C := "GradeRows$Steps") (T := TX4) (N := 9) hx hb htb inX4 hown hK hP 0 rfl rfl 8 (by decide) (htb _ qw_83) (fun _ h9 => h9) rfl dX4_add_24 ?_
    refine lv_iload_n hx hb dX4_add_27 rfl (lv_at hl 2 rfl) ?_
    refine qk_iast hx hb hK hP hD hS 2 0 rfl rfl (i := n) (by omega) (by omega) dX4_add_28 (fun H locs hP hD hS => ?_)
    have hP : va_P G.1 vwCl [(h0, .inr (4, [.ref qr, .ref qp, .ref qd, .ref qc, .ref qf, .ref qt, .ref sp, .ref sc, .int (nI n)])), (qr, .inl (G.2.1, 200, .inl (upd fr n (nM z1)))), (qp, .inl (G.2.1, 200, .inl (upd fp n (nI pl)))), (qd, .inl (G.2.1, 200, .inl fd)), (qc, .inl (G.2.1, 200, .inl fc)), (qf, .inl (G.2.2.2.1, 200, .inl ff)), (qt, .inl (G.2.2.1, 201, .inr (.inl ft))), (sp, .inr (3, [.ref q1, .int (nI n)])), (q1, .inl (G.2.1, 200, .inl f1)), (sc, .inr (3, [.ref q2, .int (nI n)])), (q2, .inl (G.2.1, 200, .inl f2))] H := hP
    have hD : va_D A [(h0, .inr (4, [.ref qr, .ref qp, .ref qd, .ref qc, .ref qf, .ref qt, .ref sp, .ref sc, .int (nI n)])), (qr, .inl (G.2.1, 200, .inl (upd fr n (nM z1)))), (qp, .inl (G.2.1, 200, .inl (upd fp n (nI pl)))), (qd, .inl (G.2.1, 200, .inl fd)), (qc, .inl (G.2.1, 200, .inl fc)), (qf, .inl (G.2.2.2.1, 200, .inl ff)), (qt, .inl (G.2.2.1, 201, .inr (.inl ft))), (sp, .inr (3, [.ref q1, .int (nI n)])), (q1, .inl (G.2.1, 200, .inl f1)), (sc, .inr (3, [.ref q2, .int (nI n)])), (q2, .inl (G.2.1, 200, .inl f2))] := hD
    refine lv_aload_n hx hb dX4_add_29 rfl (lv_at hl 0 rfl) ?_
    refine va_get (D := G.1) (ci := 4) (v := .ref qd) (C := "GradeRows$Steps") (T := TX4) (N := 9) hx hb htb inX4 hown hK hP 0 rfl rfl 2 (by decide) (htb _ qw_77) (fun _ h9 => h9) rfl dX4_add_30 ?_
    refine lv_aload_n hx hb dX4_add_33 rfl (lv_at hl 0 rfl) ?_
    refine va_get (D := G.1) (ci := 4) (v := .int (nI n)) (C := "GradeRows$Steps") (T := TX4) (N := 9) hx hb htb inX4 hown hK hP 0 rfl rfl 8 (by decide) (htb _ qw_83) (fun _ h9 => h9) rfl dX4_add_34 ?_
    refine lv_iload_n hx hb dX4_add_37 rfl (lv_at hl 3 rfl) ?_
    refine qk_iast hx hb hK hP hD hS 3 0 rfl rfl (i := n) (by omega) (by omega) dX4_add_38 (fun H locs hP hD hS => ?_)
    have hP : va_P G.1 vwCl [(h0, .inr (4, [.ref qr, .ref qp, .ref qd, .ref qc, .ref qf, .ref qt, .ref sp, .ref sc, .int (nI n)])), (qr, .inl (G.2.1, 200, .inl (upd fr n (nM z1)))), (qp, .inl (G.2.1, 200, .inl (upd fp n (nI pl)))), (qd, .inl (G.2.1, 200, .inl (upd fd n (nI wd)))), (qc, .inl (G.2.1, 200, .inl fc)), (qf, .inl (G.2.2.2.1, 200, .inl ff)), (qt, .inl (G.2.2.1, 201, .inr (.inl ft))), (sp, .inr (3, [.ref q1, .int (nI n)])), (q1, .inl (G.2.1, 200, .inl f1)), (sc, .inr (3, [.ref q2, .int (nI n)])), (q2, .inl (G.2.1, 200, .inl f2))] H := hP
    have hD : va_D A [(h0, .inr (4, [.ref qr, .ref qp, .ref qd, .ref qc, .ref qf, .ref qt, .ref sp, .ref sc, .int (nI n)])), (qr, .inl (G.2.1, 200, .inl (upd fr n (nM z1)))), (qp, .inl (G.2.1, 200, .inl (upd fp n (nI pl)))), (qd, .inl (G.2.1, 200, .inl (upd fd n (nI wd)))), (qc, .inl (G.2.1, 200, .inl fc)), (qf, .inl (G.2.2.2.1, 200, .inl ff)), (qt, .inl (G.2.2.1, 201, .inr (.inl ft))), (sp, .inr (3, [.ref q1, .int (nI n)])), (q1, .inl (G.2.1, 200, .inl f1)), (sc, .inr (3, [.ref q2, .int (nI n)])), (q2, .inl (G.2.1, 200, .inl f2))] := hD
    refine lv_aload_n hx hb dX4_add_39 rfl (lv_at hl 0 rfl) ?_
    refine va_get (D := G.1) (ci := 4) (v := .ref qc) (C := "GradeRows$Steps") (T := TX4) (N := 9) hx hb htb inX4 hown hK hP 0 rfl rfl 3 (by decide) (htb _ qw_78) (fun _ h9 => h9) rfl dX4_add_40 ?_
    refine lv_aload_n hx hb dX4_add_43 rfl (lv_at hl 0 rfl) ?_
    refine va_get (D := G.1) (ci := 4) (v := .int (nI n)) (C := "GradeRows$Steps") (T := TX4) (N := 9) hx hb htb inX4 hown hK hP 0 rfl rfl 8 (by decide) (htb _ qw_83) (fun _ h9 => h9) rfl dX4_add_44 ?_
    refine lv_iload hx hb dX4_add_47 (lv_at hl 4 rfl) ?_
    refine qk_iast hx hb hK hP hD hS 4 0 rfl rfl (i := n) (by omega) (by omega) dX4_add_49 (fun H locs hP hD hS => ?_)
    have hP : va_P G.1 vwCl [(h0, .inr (4, [.ref qr, .ref qp, .ref qd, .ref qc, .ref qf, .ref qt, .ref sp, .ref sc, .int (nI n)])), (qr, .inl (G.2.1, 200, .inl (upd fr n (nM z1)))), (qp, .inl (G.2.1, 200, .inl (upd fp n (nI pl)))), (qd, .inl (G.2.1, 200, .inl (upd fd n (nI wd)))), (qc, .inl (G.2.1, 200, .inl (upd fc n (nI pr)))), (qf, .inl (G.2.2.2.1, 200, .inl ff)), (qt, .inl (G.2.2.1, 201, .inr (.inl ft))), (sp, .inr (3, [.ref q1, .int (nI n)])), (q1, .inl (G.2.1, 200, .inl f1)), (sc, .inr (3, [.ref q2, .int (nI n)])), (q2, .inl (G.2.1, 200, .inl f2))] H := hP
    have hD : va_D A [(h0, .inr (4, [.ref qr, .ref qp, .ref qd, .ref qc, .ref qf, .ref qt, .ref sp, .ref sc, .int (nI n)])), (qr, .inl (G.2.1, 200, .inl (upd fr n (nM z1)))), (qp, .inl (G.2.1, 200, .inl (upd fp n (nI pl)))), (qd, .inl (G.2.1, 200, .inl (upd fd n (nI wd)))), (qc, .inl (G.2.1, 200, .inl (upd fc n (nI pr)))), (qf, .inl (G.2.2.2.1, 200, .inl ff)), (qt, .inl (G.2.2.1, 201, .inr (.inl ft))), (sp, .inr (3, [.ref q1, .int (nI n)])), (q1, .inl (G.2.1, 200, .inl f1)), (sc, .inr (3, [.ref q2, .int (nI n)])), (q2, .inl (G.2.1, 200, .inl f2))] := hD
    refine lv_aload_n hx hb dX4_add_50 rfl (lv_at hl 0 rfl) ?_
    refine va_get (D := G.1) (ci := 4) (v := .ref qf) (C := "GradeRows$Steps") (T := TX4) (N := 9) hx hb htb inX4 hown hK hP 0 rfl rfl 4 (by decide) (htb _ qw_79) (fun _ h9 => h9) rfl dX4_add_51 ?_
    refine lv_aload_n hx hb dX4_add_54 rfl (lv_at hl 0 rfl) ?_
    refine va_get (D := G.1) (ci := 4) (v := .int (nI n)) (C := "GradeRows$Steps") (T := TX4) (N := 9) hx hb htb inX4 hown hK hP 0 rfl rfl 8 (by decide) (htb _ qw_83) (fun _ h9 => h9) rfl dX4_add_55 ?_
    have join_81 : ∀ (bv : Int32) (ls : Array Slot), (bv = if ¬ z1 = 0 ∧ wd = 1 ∧ ¬ qm_wasF sq pl n = true then nI 1 else nI 0) → (vp_nar .boolean bv = bv) → lv_has ls 5 [(0, .ref h0), (1, .int (nM z1)), (2, .int (nI pl)), (3, .int (nI wd)), (4, .int (nI pr))] → W p l e (headSpec wsX4_add ({ frames := 1, cells := 0, slots := 0, locals := 22 } : Room)).room s m ([.ref h0, .int (nM z1), .int (nI pl), .int (nI wd), .int (nI pr)] : List Value).toArray below meth c H locs 0 0 (MQ below (va_Qi (fun (r : Int32) (u : Int32 × (Nat → Int32) × (Nat → Int32)) => r = nI n ∧ u.1 = (if ¬ z1 = 0 ∧ wd = 1 ∧ ¬ qm_wasF sq pl n = true then nI 1 else nI 0) ∧ qm_ins f1 n (nI pr) u.2.1 ∧ qm_ins f2 n (qm_code (nM z1) (nI pl) (nI wd)) u.2.2) (qk_B G vwCl A (fun (u : Int32 × (Nat → Int32) × (Nat → Int32)) => [(h0, .inr (4, [.ref qr, .ref qp, .ref qd, .ref qc, .ref qf, .ref qt, .ref sp, .ref sc, .int (nI (n + 1))])), (qr, .inl (G.2.1, 200, .inl (upd fr n (nM z1)))), (qp, .inl (G.2.1, 200, .inl (upd fp n (nI pl)))), (qd, .inl (G.2.1, 200, .inl (upd fd n (nI wd)))), (qc, .inl (G.2.1, 200, .inl (upd fc n (nI pr)))), (qf, .inl (G.2.2.2.1, 200, .inl (upd ff n u.1))), (qt, .inl (G.2.2.1, 201, .inr (.inl (vp_updL ft (n + 1) (lN (tt + pr)))))), (sp, .inr (3, [.ref q1, .int (nI (n + 1))])), (q1, .inl (G.2.1, 200, .inl u.2.1)), (sc, .inr (3, [.ref q2, .int (nI (n + 1))])), (q2, .inl (G.2.1, 200, .inl u.2.2))])) A) ([.ref h0, .int (nM z1), .int (nI pl), .int (nI wd), .int (nI pr)] : List Value).toArray s 0 0 A) (F0 m 81 ls [.int bv, .int (nI n), .ref qf]) := by
      intro bv ls hbv hnb hl
      refine qk_zast hx hb hK hP hD hS 5 2 rfl rfl (i := n) hnb (by omega) (by omega) dX4_add_81 (fun H locs hP hD hS => ?_)
      have hP : va_P G.1 vwCl [(h0, .inr (4, [.ref qr, .ref qp, .ref qd, .ref qc, .ref qf, .ref qt, .ref sp, .ref sc, .int (nI n)])), (qr, .inl (G.2.1, 200, .inl (upd fr n (nM z1)))), (qp, .inl (G.2.1, 200, .inl (upd fp n (nI pl)))), (qd, .inl (G.2.1, 200, .inl (upd fd n (nI wd)))), (qc, .inl (G.2.1, 200, .inl (upd fc n (nI pr)))), (qf, .inl (G.2.2.2.1, 200, .inl (upd ff n bv))), (qt, .inl (G.2.2.1, 201, .inr (.inl ft))), (sp, .inr (3, [.ref q1, .int (nI n)])), (q1, .inl (G.2.1, 200, .inl f1)), (sc, .inr (3, [.ref q2, .int (nI n)])), (q2, .inl (G.2.1, 200, .inl f2))] H := hP
      have hD : va_D A [(h0, .inr (4, [.ref qr, .ref qp, .ref qd, .ref qc, .ref qf, .ref qt, .ref sp, .ref sc, .int (nI n)])), (qr, .inl (G.2.1, 200, .inl (upd fr n (nM z1)))), (qp, .inl (G.2.1, 200, .inl (upd fp n (nI pl)))), (qd, .inl (G.2.1, 200, .inl (upd fd n (nI wd)))), (qc, .inl (G.2.1, 200, .inl (upd fc n (nI pr)))), (qf, .inl (G.2.2.2.1, 200, .inl (upd ff n bv))), (qt, .inl (G.2.2.1, 201, .inr (.inl ft))), (sp, .inr (3, [.ref q1, .int (nI n)])), (q1, .inl (G.2.1, 200, .inl f1)), (sc, .inr (3, [.ref q2, .int (nI n)])), (q2, .inl (G.2.1, 200, .inl f2))] := hD
      refine lv_aload_n hx hb dX4_add_82 rfl (lv_at hl 0 rfl) ?_
      refine va_get (D := G.1) (ci := 4) (v := .ref qt) (C := "GradeRows$Steps") (T := TX4) (N := 9) hx hb htb inX4 hown hK hP 0 rfl rfl 5 (by decide) (htb _ qw_80) (fun _ h9 => h9) rfl dX4_add_83 ?_
      refine lv_aload_n hx hb dX4_add_86 rfl (lv_at hl 0 rfl) ?_
      refine va_get (D := G.1) (ci := 4) (v := .int (nI n)) (C := "GradeRows$Steps") (T := TX4) (N := 9) hx hb htb inX4 hown hK hP 0 rfl rfl 8 (by decide) (htb _ qw_83) (fun _ h9 => h9) rfl dX4_add_87 ?_
      refine lv_iconst (v := nI 1) hx hb dX4_add_90 (by decide) ?_
      refine lv_iadd hx hb dX4_add_91 ?_
      refine qk_topi (t := nI (n + 1)) ((nI_add _ _).trans rfl) ?_
      refine lv_aload_n hx hb dX4_add_92 rfl (lv_at hl 0 rfl) ?_
      refine va_get (D := G.1) (ci := 4) (v := .ref qt) (C := "GradeRows$Steps") (T := TX4) (N := 9) hx hb htb inX4 hown hK hP 0 rfl rfl 5 (by decide) (htb _ qw_80) (fun _ h9 => h9) rfl dX4_add_93 ?_
      refine lv_aload_n hx hb dX4_add_96 rfl (lv_at hl 0 rfl) ?_
      refine va_get (D := G.1) (ci := 4) (v := .int (nI n)) (C := "GradeRows$Steps") (T := TX4) (N := 9) hx hb htb inX4 hown hK hP 0 rfl rfl 8 (by decide) (htb _ qw_83) (fun _ h9 => h9) rfl dX4_add_97 ?_
      refine qk_lald hx hb hK hP 6 1 rfl rfl (i := n) (by omega) (by omega) (v := lN tt) htt dX4_add_100 ?_
      refine lv_iload hx hb dX4_add_101 (lv_at hl 4 rfl) ?_
      refine lv_i2l (v := lN pr) hx hb dX4_add_103 (nI_l (by omega)) ?_
      refine lv_ladd hx hb dX4_add_104 ?_
      refine qk_topl (t := lN (tt + pr)) ((lN_add _ _).trans rfl) ?_
      refine qk_last hx hb hK hP hD hS 6 1 rfl rfl (i := (n + 1)) (by omega) (by omega) dX4_add_105 (fun H locs hP hD hS => ?_)
      have hP : va_P G.1 vwCl [(h0, .inr (4, [.ref qr, .ref qp, .ref qd, .ref qc, .ref qf, .ref qt, .ref sp, .ref sc, .int (nI n)])), (qr, .inl (G.2.1, 200, .inl (upd fr n (nM z1)))), (qp, .inl (G.2.1, 200, .inl (upd fp n (nI pl)))), (qd, .inl (G.2.1, 200, .inl (upd fd n (nI wd)))), (qc, .inl (G.2.1, 200, .inl (upd fc n (nI pr)))), (qf, .inl (G.2.2.2.1, 200, .inl (upd ff n bv))), (qt, .inl (G.2.2.1, 201, .inr (.inl (vp_updL ft (n + 1) (lN (tt + pr)))))), (sp, .inr (3, [.ref q1, .int (nI n)])), (q1, .inl (G.2.1, 200, .inl f1)), (sc, .inr (3, [.ref q2, .int (nI n)])), (q2, .inl (G.2.1, 200, .inl f2))] H := hP
      have hD : va_D A [(h0, .inr (4, [.ref qr, .ref qp, .ref qd, .ref qc, .ref qf, .ref qt, .ref sp, .ref sc, .int (nI n)])), (qr, .inl (G.2.1, 200, .inl (upd fr n (nM z1)))), (qp, .inl (G.2.1, 200, .inl (upd fp n (nI pl)))), (qd, .inl (G.2.1, 200, .inl (upd fd n (nI wd)))), (qc, .inl (G.2.1, 200, .inl (upd fc n (nI pr)))), (qf, .inl (G.2.2.2.1, 200, .inl (upd ff n bv))), (qt, .inl (G.2.2.1, 201, .inr (.inl (vp_updL ft (n + 1) (lN (tt + pr)))))), (sp, .inr (3, [.ref q1, .int (nI n)])), (q1, .inl (G.2.1, 200, .inl f1)), (sc, .inr (3, [.ref q2, .int (nI n)])), (q2, .inl (G.2.1, 200, .inl f2))] := hD
      refine lv_aload_n hx hb dX4_add_106 rfl (lv_at hl 0 rfl) ?_
      refine va_get (D := G.1) (ci := 4) (v := .ref sp) (C := "GradeRows$Steps") (T := TX4) (N := 9) hx hb htb inX4 hown hK hP 0 rfl rfl 6 (by decide) (htb _ qw_81) (fun _ h9 => h9) rfl dX4_add_107 ?_
      refine lv_iload hx hb dX4_add_110 (lv_at hl 4 rfl) ?_
      have hPc := hP.sub (ws' := [(sp, .inr (3, [.ref q1, .int (nI n)])), (q1, .inl (G.2.1, 200, .inl f1))]) [7, 8] rfl
      have hDc := hD.sub (ws' := [(sp, .inr (3, [.ref q1, .int (nI n)])), (q1, .inl (G.2.1, 200, .inl f1))]) [7, 8] (by decide) rfl
      have hFc := va_free (wc := [(sp, .inr (3, [.ref q1, .int (nI n)])), (q1, .inl (G.2.1, 200, .inl f1))]) hD hS hA [7, 8] rfl
      refine va_callv (va_runV (As := [.int (nI pr)]) (rest := []) ⟨hx, hb, hml, hown, htb⟩ (qc_S_put l G sp q1 n f1 (nI pr) H.size hn) (cwV 1 htb (qW_V qw_182 qw_183 qw_184 qw_16 qw_185) rfl rfl rfl (by decide +kernel) ⟨Nat.le_of_ble_eq_true rfl, Nat.le_of_ble_eq_true rfl⟩) (qk_pvw (ci := 3) (q0 := 0) hK hPc hN hDc rfl rfl) rfl rfl hl.1 rfl (lv_room (Nat.le_of_ble_eq_true rfl)) dX4_add_112 ⟨Nat.le_of_ble_eq_true rfl, Nat.le_of_ble_eq_true rfl⟩) hS (fun q _ h => hFc q h) hFc (fun u_112 t9 H1 locs ht9 hvm w_112 hB hz1 hk1 hS => ?_)
      obtain ⟨v_112, rfl⟩ : ∃ z, z = u_112 := ⟨_, rfl⟩
      obtain ⟨hP1, hK1, hD1⟩ := hB
      rw [ht9] at hP1
      obtain ⟨hP, hD⟩ := va_join (wr := [(h0, .inr (4, [.ref qr, .ref qp, .ref qd, .ref qc, .ref qf, .ref qt, .ref sp, .ref sc, .int (nI n)])), (qr, .inl (G.2.1, 200, .inl (upd fr n (nM z1)))), (qp, .inl (G.2.1, 200, .inl (upd fp n (nI pl)))), (qd, .inl (G.2.1, 200, .inl (upd fd n (nI wd)))), (qc, .inl (G.2.1, 200, .inl (upd fc n (nI pr)))), (qf, .inl (G.2.2.2.1, 200, .inl (upd ff n bv))), (qt, .inl (G.2.2.1, 201, .inr (.inl (vp_updL ft (n + 1) (lN (tt + pr)))))), (sc, .inr (3, [.ref q2, .int (nI n)])), (q2, .inl (G.2.1, 200, .inl f2))]) (w1 := [(sp, .inr (3, [.ref q1, .int (nI (n + 1))])), (q1, .inl (G.2.1, 200, .inl v_112))]) hP hD [7, 8] [0, 1, 2, 3, 4, 5, 6, 9, 10] rfl rfl (by decide) (by decide) hk1 hFc hP1 hD1
      generalize H1 = H at hP hS ⊢
      have hP : va_P G.1 vwCl [(h0, .inr (4, [.ref qr, .ref qp, .ref qd, .ref qc, .ref qf, .ref qt, .ref sp, .ref sc, .int (nI n)])), (qr, .inl (G.2.1, 200, .inl (upd fr n (nM z1)))), (qp, .inl (G.2.1, 200, .inl (upd fp n (nI pl)))), (qd, .inl (G.2.1, 200, .inl (upd fd n (nI wd)))), (qc, .inl (G.2.1, 200, .inl (upd fc n (nI pr)))), (qf, .inl (G.2.2.2.1, 200, .inl (upd ff n bv))), (qt, .inl (G.2.2.1, 201, .inr (.inl (vp_updL ft (n + 1) (lN (tt + pr)))))), (sc, .inr (3, [.ref q2, .int (nI n)])), (q2, .inl (G.2.1, 200, .inl f2)), (sp, .inr (3, [.ref q1, .int (nI (n + 1))])), (q1, .inl (G.2.1, 200, .inl v_112))] H := hP
      have hD : va_D A [(h0, .inr (4, [.ref qr, .ref qp, .ref qd, .ref qc, .ref qf, .ref qt, .ref sp, .ref sc, .int (nI n)])), (qr, .inl (G.2.1, 200, .inl (upd fr n (nM z1)))), (qp, .inl (G.2.1, 200, .inl (upd fp n (nI pl)))), (qd, .inl (G.2.1, 200, .inl (upd fd n (nI wd)))), (qc, .inl (G.2.1, 200, .inl (upd fc n (nI pr)))), (qf, .inl (G.2.2.2.1, 200, .inl (upd ff n bv))), (qt, .inl (G.2.2.1, 201, .inr (.inl (vp_updL ft (n + 1) (lN (tt + pr)))))), (sc, .inr (3, [.ref q2, .int (nI n)])), (q2, .inl (G.2.1, 200, .inl f2)), (sp, .inr (3, [.ref q1, .int (nI (n + 1))])), (q1, .inl (G.2.1, 200, .inl v_112))] := hD
      refine lv_aload_n hx hb dX4_add_115 rfl (lv_at hl 0 rfl) ?_
      refine va_get (D := G.1) (ci := 4) (v := .ref sc) (C := "GradeRows$Steps") (T := TX4) (N := 9) hx hb htb inX4 hown hK hP 0 rfl rfl 7 (by decide) (htb _ qw_82) (fun _ h9 => h9) rfl dX4_add_116 ?_
      refine lv_iload_n hx hb dX4_add_119 rfl (lv_at hl 1 rfl) ?_
      refine lv_iload_n hx hb dX4_add_120 rfl (lv_at hl 2 rfl) ?_
      refine lv_iload_n hx hb dX4_add_121 rfl (lv_at hl 3 rfl) ?_
      have hPc := hP.sub (ws' := []) [] rfl
      refine vp_callSi (va_runS (As := [.int (nM z1), .int (nI pl), .int (nI wd)]) (rest := [.ref sc]) ⟨hx, hb, hml, hown, htb⟩ (qc_T_code l G (nM z1) (nI pl) (nI wd)) (va_cwS 3 htb (qW_S qw_186 qw_187 qw_15 qw_188) rfl rfl rfl (by decide +kernel) ⟨Nat.le_of_ble_eq_true rfl, Nat.le_of_ble_eq_true rfl⟩) (qk_ps hK hPc hN) rfl rfl hl.1 rfl (lv_room (Nat.le_of_ble_eq_true rfl)) dX4_add_122 ⟨Nat.le_of_ble_eq_true rfl, Nat.le_of_ble_eq_true rfl⟩).run (fun r_122 e_122 => ?_)
      have e_122 := e_122.symm
      subst e_122
      have hPc := hP.sub (ws' := [(sc, .inr (3, [.ref q2, .int (nI n)])), (q2, .inl (G.2.1, 200, .inl f2))]) [7, 8] rfl
      have hDc := hD.sub (ws' := [(sc, .inr (3, [.ref q2, .int (nI n)])), (q2, .inl (G.2.1, 200, .inl f2))]) [7, 8] (by decide) rfl
      have hFc := va_free (wc := [(sc, .inr (3, [.ref q2, .int (nI n)])), (q2, .inl (G.2.1, 200, .inl f2))]) hD hS hA [7, 8] rfl
      refine va_callv (va_runV (As := [.int (qm_code (nM z1) (nI pl) (nI wd))]) (rest := []) ⟨hx, hb, hml, hown, htb⟩ (qc_S_put l G sc q2 n f2 (qm_code (nM z1) (nI pl) (nI wd)) H.size hn) (cwV 1 htb (qW_V qw_182 qw_183 qw_184 qw_16 qw_185) rfl rfl rfl (by decide +kernel) ⟨Nat.le_of_ble_eq_true rfl, Nat.le_of_ble_eq_true rfl⟩) (qk_pvw (ci := 3) (q0 := 0) hK hPc hN hDc rfl rfl) rfl rfl hl.1 rfl (lv_room (Nat.le_of_ble_eq_true rfl)) dX4_add_125 ⟨Nat.le_of_ble_eq_true rfl, Nat.le_of_ble_eq_true rfl⟩) hS (fun q _ h => hFc q h) hFc (fun u_125 t9 H1 locs ht9 hvm w_125 hB hz1 hk1 hS => ?_)
      obtain ⟨v_125, rfl⟩ : ∃ z, z = u_125 := ⟨_, rfl⟩
      obtain ⟨hP1, hK1, hD1⟩ := hB
      rw [ht9] at hP1
      obtain ⟨hP, hD⟩ := va_join (wr := [(h0, .inr (4, [.ref qr, .ref qp, .ref qd, .ref qc, .ref qf, .ref qt, .ref sp, .ref sc, .int (nI n)])), (qr, .inl (G.2.1, 200, .inl (upd fr n (nM z1)))), (qp, .inl (G.2.1, 200, .inl (upd fp n (nI pl)))), (qd, .inl (G.2.1, 200, .inl (upd fd n (nI wd)))), (qc, .inl (G.2.1, 200, .inl (upd fc n (nI pr)))), (qf, .inl (G.2.2.2.1, 200, .inl (upd ff n bv))), (qt, .inl (G.2.2.1, 201, .inr (.inl (vp_updL ft (n + 1) (lN (tt + pr)))))), (sp, .inr (3, [.ref q1, .int (nI (n + 1))])), (q1, .inl (G.2.1, 200, .inl v_112))]) (w1 := [(sc, .inr (3, [.ref q2, .int (nI (n + 1))])), (q2, .inl (G.2.1, 200, .inl v_125))]) hP hD [7, 8] [0, 1, 2, 3, 4, 5, 6, 9, 10] rfl rfl (by decide) (by decide) hk1 hFc hP1 hD1
      generalize H1 = H at hP hS ⊢
      have hP : va_P G.1 vwCl [(h0, .inr (4, [.ref qr, .ref qp, .ref qd, .ref qc, .ref qf, .ref qt, .ref sp, .ref sc, .int (nI n)])), (qr, .inl (G.2.1, 200, .inl (upd fr n (nM z1)))), (qp, .inl (G.2.1, 200, .inl (upd fp n (nI pl)))), (qd, .inl (G.2.1, 200, .inl (upd fd n (nI wd)))), (qc, .inl (G.2.1, 200, .inl (upd fc n (nI pr)))), (qf, .inl (G.2.2.2.1, 200, .inl (upd ff n bv))), (qt, .inl (G.2.2.1, 201, .inr (.inl (vp_updL ft (n + 1) (lN (tt + pr)))))), (sp, .inr (3, [.ref q1, .int (nI (n + 1))])), (q1, .inl (G.2.1, 200, .inl v_112)), (sc, .inr (3, [.ref q2, .int (nI (n + 1))])), (q2, .inl (G.2.1, 200, .inl v_125))] H := hP
      have hD : va_D A [(h0, .inr (4, [.ref qr, .ref qp, .ref qd, .ref qc, .ref qf, .ref qt, .ref sp, .ref sc, .int (nI n)])), (qr, .inl (G.2.1, 200, .inl (upd fr n (nM z1)))), (qp, .inl (G.2.1, 200, .inl (upd fp n (nI pl)))), (qd, .inl (G.2.1, 200, .inl (upd fd n (nI wd)))), (qc, .inl (G.2.1, 200, .inl (upd fc n (nI pr)))), (qf, .inl (G.2.2.2.1, 200, .inl (upd ff n bv))), (qt, .inl (G.2.2.1, 201, .inr (.inl (vp_updL ft (n + 1) (lN (tt + pr)))))), (sp, .inr (3, [.ref q1, .int (nI (n + 1))])), (q1, .inl (G.2.1, 200, .inl v_112)), (sc, .inr (3, [.ref q2, .int (nI (n + 1))])), (q2, .inl (G.2.1, 200, .inl v_125))] := hD
      refine lv_aload_n hx hb dX4_add_128 rfl (lv_at hl 0 rfl) ?_
      refine lv_dup hx hb dX4_add_129 rfl ?_
      refine va_get (D := G.1) (ci := 4) (v := .int (nI n)) (C := "GradeRows$Steps") (T := TX4) (N := 9) hx hb htb inX4 hown hK hP 0 rfl rfl 8 (by decide) (htb _ qw_83) (fun _ h9 => h9) rfl dX4_add_130 ?_
      refine lv_iconst (v := nI 1) hx hb dX4_add_133 (by decide) ?_
      refine lv_iadd hx hb dX4_add_134 ?_
      refine qk_topi (t := nI (n + 1)) ((nI_add _ _).trans rfl) ?_
      refine va_put (D := G.1) (ci := 4) (v := .int (nI (n + 1))) (ty := .int) (C := "GradeRows$Steps") (T := TX4) (N := 9) hx hb htb inX4 tyX4 tyX4_ok nmX4 hown hK hP hD hS 0 rfl rfl 8 (by decide) (htb _ qw_83) (fun _ h9 => h9) rfl (by decide +kernel) rfl rfl (Nat.le_of_ble_eq_true rfl) dX4_add_135 (fun H locs hP hD hS => ?_)
      have hP : va_P G.1 vwCl [(h0, .inr (4, [.ref qr, .ref qp, .ref qd, .ref qc, .ref qf, .ref qt, .ref sp, .ref sc, .int (nI (n + 1))])), (qr, .inl (G.2.1, 200, .inl (upd fr n (nM z1)))), (qp, .inl (G.2.1, 200, .inl (upd fp n (nI pl)))), (qd, .inl (G.2.1, 200, .inl (upd fd n (nI wd)))), (qc, .inl (G.2.1, 200, .inl (upd fc n (nI pr)))), (qf, .inl (G.2.2.2.1, 200, .inl (upd ff n bv))), (qt, .inl (G.2.2.1, 201, .inr (.inl (vp_updL ft (n + 1) (lN (tt + pr)))))), (sp, .inr (3, [.ref q1, .int (nI (n + 1))])), (q1, .inl (G.2.1, 200, .inl v_112)), (sc, .inr (3, [.ref q2, .int (nI (n + 1))])), (q2, .inl (G.2.1, 200, .inl v_125))] H := hP
      have hD : va_D A [(h0, .inr (4, [.ref qr, .ref qp, .ref qd, .ref qc, .ref qf, .ref qt, .ref sp, .ref sc, .int (nI (n + 1))])), (qr, .inl (G.2.1, 200, .inl (upd fr n (nM z1)))), (qp, .inl (G.2.1, 200, .inl (upd fp n (nI pl)))), (qd, .inl (G.2.1, 200, .inl (upd fd n (nI wd)))), (qc, .inl (G.2.1, 200, .inl (upd fc n (nI pr)))), (qf, .inl (G.2.2.2.1, 200, .inl (upd ff n bv))), (qt, .inl (G.2.2.1, 201, .inr (.inl (vp_updL ft (n + 1) (lN (tt + pr)))))), (sp, .inr (3, [.ref q1, .int (nI (n + 1))])), (q1, .inl (G.2.1, 200, .inl v_112)), (sc, .inr (3, [.ref q2, .int (nI (n + 1))])), (q2, .inl (G.2.1, 200, .inl v_125))] := hD
      refine lv_aload_n hx hb dX4_add_138 rfl (lv_at hl 0 rfl) ?_
      refine va_get (D := G.1) (ci := 4) (v := .int (nI (n + 1))) (C := "GradeRows$Steps") (T := TX4) (N := 9) hx hb htb inX4 hown hK hP 0 rfl rfl 8 (by decide) (htb _ qw_83) (fun _ h9 => h9) rfl dX4_add_139 ?_
      refine lv_iconst (v := nI 1) hx hb dX4_add_142 (by decide) ?_
      refine lv_isub hx hb dX4_add_143 ?_
      refine qk_topi (t := nI n) (nI_pred n) ?_
      have hP9 := hP.sub (ws' := [(h0, .inr (4, [.ref qr, .ref qp, .ref qd, .ref qc, .ref qf, .ref qt, .ref sp, .ref sc, .int (nI (n + 1))])), (qr, .inl (G.2.1, 200, .inl (upd fr n (nM z1)))), (qp, .inl (G.2.1, 200, .inl (upd fp n (nI pl)))), (qd, .inl (G.2.1, 200, .inl (upd fd n (nI wd)))), (qc, .inl (G.2.1, 200, .inl (upd fc n (nI pr)))), (qf, .inl (G.2.2.2.1, 200, .inl (upd ff n bv))), (qt, .inl (G.2.2.1, 201, .inr (.inl (vp_updL ft (n + 1) (lN (tt + pr)))))), (sp, .inr (3, [.ref q1, .int (nI (n + 1))])), (q1, .inl (G.2.1, 200, .inl v_112)), (sc, .inr (3, [.ref q2, .int (nI (n + 1))])), (q2, .inl (G.2.1, 200, .inl v_125))]) [0, 1, 2, 3, 4, 5, 6, 7, 8, 9, 10] rfl
      have hD9 := hD.sub (ws' := [(h0, .inr (4, [.ref qr, .ref qp, .ref qd, .ref qc, .ref qf, .ref qt, .ref sp, .ref sc, .int (nI (n + 1))])), (qr, .inl (G.2.1, 200, .inl (upd fr n (nM z1)))), (qp, .inl (G.2.1, 200, .inl (upd fp n (nI pl)))), (qd, .inl (G.2.1, 200, .inl (upd fd n (nI wd)))), (qc, .inl (G.2.1, 200, .inl (upd fc n (nI pr)))), (qf, .inl (G.2.2.2.1, 200, .inl (upd ff n bv))), (qt, .inl (G.2.2.1, 201, .inr (.inl (vp_updL ft (n + 1) (lN (tt + pr)))))), (sp, .inr (3, [.ref q1, .int (nI (n + 1))])), (q1, .inl (G.2.1, 200, .inl v_112)), (sc, .inr (3, [.ref q2, .int (nI (n + 1))])), (q2, .inl (G.2.1, 200, .inl v_125))]) [0, 1, 2, 3, 4, 5, 6, 7, 8, 9, 10] (by decide) rfl
      exact W.iret (v := nI n) hx hb hr (fun t9 ht9 hW9 => ⟨⟨_, (bv, v_112, v_125), rfl, ⟨rfl, hbv, w_112, w_125⟩, by rw [ht9]; exact hP9, va_K.moved hW9.alike hK, hD9⟩, hS.F ht9⟩) hS.2.2 dX4_add_144
    refine lv_iload_n hx hb dX4_add_58 rfl (lv_at hl 1 rfl) ?_
    refine lv_iconst (v := (-1)) hx hb dX4_add_59 (by decide) ?_
    refine lv_icmp_eq (tgt := 80) hx hb dX4_add_60 (by decide) (fun c1 => ?_) (fun c1 => ?_)
    · have c1 : z1 = 0 := (nM_eq1 (by omega)).mp c1
      refine lv_iconst (v := nI 0) hx hb dX4_add_80 (by decide) ?_
      exact join_81 (nI 0) ls (if_neg (by first | (intro h; exact h.1 c1) | (intro h; exact c2 h.2.1) | (intro h; exact h.2.2 c3))).symm (by decide) (lv_sub hl [0, 1, 2, 3, 4] rfl)
    · have c1 : ¬ (z1 = 0) := fun q9 => c1 ((nM_eq1 (by omega)).mpr q9)
      refine lv_iload_n hx hb dX4_add_63 rfl (lv_at hl 3 rfl) ?_
      refine lv_iconst (v := nI 1) hx hb dX4_add_64 (by decide) ?_
      refine lv_icmp_ne (tgt := 80) hx hb dX4_add_65 (by decide) (fun c2 => ?_) (fun c2 => ?_)
      · have c2 : ¬ (wd = 1) := fun q9 => c2 ((nI_eq (by omega) (by omega)).mpr q9)
        refine lv_iconst (v := nI 0) hx hb dX4_add_80 (by decide) ?_
        exact join_81 (nI 0) ls (if_neg (by first | (intro h; exact h.1 c1) | (intro h; exact c2 h.2.1) | (intro h; exact h.2.2 c3))).symm (by decide) (lv_sub hl [0, 1, 2, 3, 4] rfl)
      · have c2 : wd = 1 := (nI_eq (by omega) (by omega)).mp c2
        refine lv_aload_n hx hb dX4_add_68 rfl (lv_at hl 0 rfl) ?_
        refine lv_iload_n hx hb dX4_add_69 rfl (lv_at hl 2 rfl) ?_
        have hPc := hP.sub (ws' := [(h0, .inr (4, [.ref qr, .ref qp, .ref qd, .ref qc, .ref qf, .ref qt, .ref sp, .ref sc, .int (nI n)])), (qp, .inl (G.2.1, 200, .inl (upd fp n (nI pl)))), (qf, .inl (G.2.2.2.1, 200, .inl ff))]) [0, 2, 5] rfl
        refine vp_callSi (va_runV (As := [.int (nI pl)]) (rest := [.int (nI n), .ref qf]) ⟨hx, hb, hml, hown, htb⟩ (qc_T_was l G h0 qr qp qd qc qf qt sp sc n (upd fp n (nI pl)) ff sq pl (by omega) hf (fun i hi => (pk_un (by omega)).trans (hp i hi)) hbp hpl) (cwV 1 htb (qW_V qw_178 qw_180 qw_0 qw_15 qw_181) rfl rfl rfl (by decide +kernel) ⟨Nat.le_of_ble_eq_true rfl, Nat.le_of_ble_eq_true rfl⟩) (qk_pv (ci := 4) (q0 := 0) hK hPc hN rfl rfl) rfl rfl hl.1 rfl (lv_room (Nat.le_of_ble_eq_true rfl)) dX4_add_70 ⟨Nat.le_of_ble_eq_true rfl, Nat.le_of_ble_eq_true rfl⟩).run (fun r_70 e_70 => ?_)
        have e_70 := e_70.symm
        subst e_70
        refine lv_if_ne (tgt := 80) hx hb dX4_add_73 (by decide) (fun c3 => ?_) (fun c3 => ?_)
        · have c3 : qm_wasF sq pl n = true := qk_ite0.mp c3
          refine lv_iconst (v := nI 0) hx hb dX4_add_80 (by decide) ?_
          exact join_81 (nI 0) ls (if_neg (by first | (intro h; exact h.1 c1) | (intro h; exact c2 h.2.1) | (intro h; exact h.2.2 c3))).symm (by decide) (lv_sub hl [0, 1, 2, 3, 4] rfl)
        · have c3 : ¬ (qm_wasF sq pl n = true) := fun q9 => qk_ite0.mpr q9 c3
          refine lv_iconst (v := nI 1) hx hb dX4_add_76 (by decide) ?_
          refine lv_goto (tgt := 81) hx hb dX4_add_77 (by decide) ?_
          exact join_81 (nI 1) ls (if_pos ⟨c1, c2, c3⟩).symm (by decide) (lv_sub hl [0, 1, 2, 3, 4] rfl)
  · have c_1 : ¬ (0 = 0) := fun q9 => c_1 ((z0eq (by omega)).mpr q9)
    exfalso; omega

set_option maxHeartbeats 4000000 in
set_option maxRecDepth 100000 in
/-- Steps.removeLast -/
theorem qc_T_rem (l : Launch) (G : qG) (h0 : Nat) (qr : Nat) (qp : Nat) (qd : Nat) (qc : Nat) (qf : Nat) (qt : Nat) (sp : Nat) (sc : Nat) (n : Nat) (fr : Nat → Int32) (fp : Nat → Int32) (fd : Nat → Int32) (fc : Nat → Int32) (q1 : Nat) (f1 : Nat → Int32) (q2 : Nat) (f2 : Nat → Int32) (z1 : Nat) (pl : Nat) (wd : Nat) (pr : Nat) (sz : Nat) (hn : n < 200) (hr1 : fr n = nM z1) (hp1 : fp n = nI pl) (hd1 : fd n = nI wd) (hc1 : fc n = nI pr) (he1 : ∃ k, k < n + 1 ∧ f1 k = nI pr) (he2 : ∃ k, k < n + 1 ∧ f2 k = qm_code (nM z1) (nI pl) (nI wd)) : Met l yX4_removeLast wsX4_removeLast ({ frames := 1, cells := 0, slots := 0, locals := 23 } : Room) (va_Pc [.ref h0] (qk_prw G vwCl [(h0, .inr (4, [.ref qr, .ref qp, .ref qd, .ref qc, .ref qf, .ref qt, .ref sp, .ref sc, .int (nI (n + 1))])), (qr, .inl (G.2.1, 200, .inl fr)), (qp, .inl (G.2.1, 200, .inl fp)), (qd, .inl (G.2.1, 200, .inl fd)), (qc, .inl (G.2.1, 200, .inl fc)), (sp, .inr (3, [.ref q1, .int (nI (n + 1))])), (q1, .inl (G.2.1, 200, .inl f1)), (sc, .inr (3, [.ref q2, .int (nI (n + 1))])), (q2, .inl (G.2.1, 200, .inl f2))] sz)) (va_Qv (fun (u : (Nat → Int32) × (Nat → Int32)) => qm_del f1 n (nI pr) u.1 ∧ qm_del f2 n (qm_code (nM z1) (nI pl) (nI wd)) u.2) (qk_B G vwCl (va_A [(h0, .inr (4, [.ref qr, .ref qp, .ref qd, .ref qc, .ref qf, .ref qt, .ref sp, .ref sc, .int (nI (n + 1))])), (qr, .inl (G.2.1, 200, .inl fr)), (qp, .inl (G.2.1, 200, .inl fp)), (qd, .inl (G.2.1, 200, .inl fd)), (qc, .inl (G.2.1, 200, .inl fc)), (sp, .inr (3, [.ref q1, .int (nI (n + 1))])), (q1, .inl (G.2.1, 200, .inl f1)), (sc, .inr (3, [.ref q2, .int (nI (n + 1))])), (q2, .inl (G.2.1, 200, .inl f2))] sz) (fun (u : (Nat → Int32) × (Nat → Int32)) => [(h0, .inr (4, [.ref qr, .ref qp, .ref qd, .ref qc, .ref qf, .ref qt, .ref sp, .ref sc, .int (nI n)])), (qr, .inl (G.2.1, 200, .inl fr)), (qp, .inl (G.2.1, 200, .inl fp)), (qd, .inl (G.2.1, 200, .inl fd)), (qc, .inl (G.2.1, 200, .inl fc)), (sp, .inr (3, [.ref q1, .int (nI n)])), (q1, .inl (G.2.1, 200, .inl u.1)), (sc, .inr (3, [.ref q2, .int (nI n)])), (q2, .inl (G.2.1, 200, .inl u.2))])) (va_A [(h0, .inr (4, [.ref qr, .ref qp, .ref qd, .ref qc, .ref qf, .ref qt, .ref sp, .ref sc, .int (nI (n + 1))])), (qr, .inl (G.2.1, 200, .inl fr)), (qp, .inl (G.2.1, 200, .inl fp)), (qd, .inl (G.2.1, 200, .inl fd)), (qc, .inl (G.2.1, 200, .inl fc)), (sp, .inr (3, [.ref q1, .int (nI (n + 1))])), (q1, .inl (G.2.1, 200, .inl f1)), (sc, .inr (3, [.ref q2, .int (nI (n + 1))])), (q2, .inl (G.2.1, 200, .inl f2))] sz)) 0 0 (va_A [(h0, .inr (4, [.ref qr, .ref qp, .ref qd, .ref qc, .ref qf, .ref qt, .ref sp, .ref sc, .int (nI (n + 1))])), (qr, .inl (G.2.1, 200, .inl fr)), (qp, .inl (G.2.1, 200, .inl fp)), (qd, .inl (G.2.1, 200, .inl fd)), (qc, .inl (G.2.1, 200, .inl fc)), (sp, .inr (3, [.ref q1, .int (nI (n + 1))])), (q1, .inl (G.2.1, 200, .inl f1)), (sc, .inr (3, [.ref q2, .int (nI (n + 1))])), (q2, .inl (G.2.1, 200, .inl f2))] sz) := by
  refine Met.ofW (cc := cX4_removeLast) (maxL := 1) (ret := none) (by decide) rfl ?_
  intro p e s m args below meth c s₁ B hml hv
  obtain ⟨rfl, hsz, hP, hK, hD0, hN⟩ := hv
  have hx := B.exec
  have hb := B.bytes
  have hr := B.returns
  have hlocks := B.notSynchronized
  have hts := atoms_spec (ws := wsX4_removeLast) B.pre
  have htb := fun (w : Cond) (h : w ∈ qTb) => hts w (List.mem_cons_of_mem _ h)
  have hown : s.vm.findClass "GradeRows$Steps" = some m.cls := findClass_of_methodNamed B.named
  subst hsz
  have hD := hD0.self (sz := s.heap.size)
  generalize hAe : va_A [(h0, .inr (4, [.ref qr, .ref qp, .ref qd, .ref qc, .ref qf, .ref qt, .ref sp, .ref sc, .int (nI (n + 1))])), (qr, .inl (G.2.1, 200, .inl fr)), (qp, .inl (G.2.1, 200, .inl fp)), (qd, .inl (G.2.1, 200, .inl fd)), (qc, .inl (G.2.1, 200, .inl fc)), (sp, .inr (3, [.ref q1, .int (nI (n + 1))])), (q1, .inl (G.2.1, 200, .inl f1)), (sc, .inr (3, [.ref q2, .int (nI (n + 1))])), (q2, .inl (G.2.1, 200, .inl f2))] s.heap.size = A at hD ⊢
  have hA : ∀ q : Nat, s.heap.size ≤ q → A q := fun q h => by rw [← hAe]; exact Or.inr h
  have hS : va_S A s.heap s.heap [] := va_S.rf
  have hP : va_P G.1 vwCl [(h0, .inr (4, [.ref qr, .ref qp, .ref qd, .ref qc, .ref qf, .ref qt, .ref sp, .ref sc, .int (nI (n + 1))])), (qr, .inl (G.2.1, 200, .inl fr)), (qp, .inl (G.2.1, 200, .inl fp)), (qd, .inl (G.2.1, 200, .inl fd)), (qc, .inl (G.2.1, 200, .inl fc)), (sp, .inr (3, [.ref q1, .int (nI (n + 1))])), (q1, .inl (G.2.1, 200, .inl f1)), (sc, .inr (3, [.ref q2, .int (nI (n + 1))])), (q2, .inl (G.2.1, 200, .inl f2))] s.heap := hP
  have hl := lv_entry ([.ref h0]) (n := 1) (Nat.le_of_ble_eq_true rfl)
  rw [lg_entry_eq]
  generalize (lg_sl ([.ref h0]) ++ List.replicate (1 - (lg_sl ([.ref h0])).length) Slot.unset).toArray = ls at hl ⊢
  have hl : lv_has ls 1 [(0, .ref h0)] := hl
  refine lv_aload_n hx hb dX4_removeLast_0 rfl (lv_at hl 0 rfl) ?_
  refine va_get (D := G.1) (ci := 4) (v := .int (nI (n + 1))) (C := "GradeRows$Steps") (T := TX4) (N := 9) hx hb htb inX4 hown hK hP 0 rfl rfl 8 (by decide) (htb _ qw_83) (fun _ h9 => h9) rfl dX4_removeLast_1 ?_
  refine lv_if_le (tgt := 70) hx hb dX4_removeLast_4 (by decide) (fun c_1 => ?_) (fun c_1 => ?_)
  · have c_1 : (n + 1) ≤ 0 := (z0le (by omega)).mp c_1
    exfalso; omega
  · have c_1 : ¬ ((n + 1) ≤ 0) := fun q9 => c_1 ((z0le (by omega)).mpr q9)
    refine lv_aload_n hx hb dX4_removeLast_7 rfl (lv_at hl 0 rfl) ?_
    refine lv_dup hx hb dX4_removeLast_8 rfl ?_
    refine va_get (D := G.1) (ci := 4) (v := .int (nI (n + 1))) (C := "GradeRows$Steps") (T := TX4) (N := 9) hx hb htb inX4 hown hK hP 0 rfl rfl 8 (by decide) (htb _ qw_83) (fun _ h9 => h9) rfl dX4_removeLast_9 ?_
    refine lv_iconst (v := nI 1) hx hb dX4_removeLast_12 (by decide) ?_
    refine lv_isub hx hb dX4_removeLast_13 ?_
    refine qk_topi (t := nI n) (nI_pred n) ?_
    refine va_put (D := G.1) (ci := 4) (v := .int (nI n)) (ty := .int) (C := "GradeRows$Steps") (T := TX4) (N := 9) hx hb htb inX4 tyX4 tyX4_ok nmX4 hown hK hP hD hS 0 rfl rfl 8 (by decide) (htb _ qw_83) (fun _ h9 => h9) rfl (by decide +kernel) rfl rfl (Nat.le_of_ble_eq_true rfl) dX4_removeLast_14 (fun H locs hP hD hS => ?_)
    have hP : va_P G.1 vwCl [(h0, .inr (4, [.ref qr, .ref qp, .ref qd, .ref qc, .ref qf, .ref qt, .ref sp, .ref sc, .int (nI n)])), (qr, .inl (G.2.1, 200, .inl fr)), (qp, .inl (G.2.1, 200, .inl fp)), (qd, .inl (G.2.1, 200, .inl fd)), (qc, .inl (G.2.1, 200, .inl fc)), (sp, .inr (3, [.ref q1, .int (nI (n + 1))])), (q1, .inl (G.2.1, 200, .inl f1)), (sc, .inr (3, [.ref q2, .int (nI (n + 1))])), (q2, .inl (G.2.1, 200, .inl f2))] H := hP
    have hD : va_D A [(h0, .inr (4, [.ref qr, .ref qp, .ref qd, .ref qc, .ref qf, .ref qt, .ref sp, .ref sc, .int (nI n)])), (qr, .inl (G.2.1, 200, .inl fr)), (qp, .inl (G.2.1, 200, .inl fp)), (qd, .inl (G.2.1, 200, .inl fd)), (qc, .inl (G.2.1, 200, .inl fc)), (sp, .inr (3, [.ref q1, .int (nI (n + 1))])), (q1, .inl (G.2.1, 200, .inl f1)), (sc, .inr (3, [.ref q2, .int (nI (n + 1))])), (q2, .inl (G.2.1, 200, .inl f2))] := hD
    refine lv_aload_n hx hb dX4_removeLast_17 rfl (lv_at hl 0 rfl) ?_
    refine va_get (D := G.1) (ci := 4) (v := .ref sp) (C := "GradeRows$Steps") (T := TX4) (N := 9) hx hb htb inX4 hown hK hP 0 rfl rfl 6 (by decide) (htb _ qw_81) (fun _ h9 => h9) rfl dX4_removeLast_18 ?_
    refine lv_aload_n hx hb dX4_removeLast_21 rfl (lv_at hl 0 rfl) ?_
    refine va_get (D := G.1) (ci := 4) (v := .ref qc) (C := "GradeRows$Steps") (T := TX4) (N := 9) hx hb htb inX4 hown hK hP 0 rfl rfl 3 (by decide) (htb _ qw_78) (fun _ h9 => h9) rfl dX4_removeLast_22 ?_
    refine lv_aload_n hx hb dX4_removeLast_25 rfl (lv_at hl 0 rfl) ?_
    refine va_get (D := G.1) (ci := 4) (v := .int (nI n)) (C := "GradeRows$Steps") (T := TX4) (N := 9) hx hb htb inX4 hown hK hP 0 rfl rfl 8 (by decide) (htb _ qw_83) (fun _ h9 => h9) rfl dX4_removeLast_26 ?_
    refine qk_iald hx hb hK hP 4 0 rfl rfl (i := n) (by omega) (by omega) (v := nI pr) hc1 dX4_removeLast_29 ?_
    have hPc := hP.sub (ws' := [(sp, .inr (3, [.ref q1, .int (nI (n + 1))])), (q1, .inl (G.2.1, 200, .inl f1))]) [5, 6] rfl
    have hDc := hD.sub (ws' := [(sp, .inr (3, [.ref q1, .int (nI (n + 1))])), (q1, .inl (G.2.1, 200, .inl f1))]) [5, 6] (by decide) rfl
    have hFc := va_free (wc := [(sp, .inr (3, [.ref q1, .int (nI (n + 1))])), (q1, .inl (G.2.1, 200, .inl f1))]) hD hS hA [5, 6] rfl
    refine va_callv (va_runV (As := [.int (nI pr)]) (rest := []) ⟨hx, hb, hml, hown, htb⟩ (qc_S_take l G sp q1 n f1 (nI pr) H.size hn he1) (cwV 1 htb (qW_V qw_231 qw_232 qw_233 qw_16 qw_234) rfl rfl rfl (by decide +kernel) ⟨Nat.le_of_ble_eq_true rfl, Nat.le_of_ble_eq_true rfl⟩) (qk_pvw (ci := 3) (q0 := 0) hK hPc hN hDc rfl rfl) rfl rfl hl.1 rfl (lv_room (Nat.le_of_ble_eq_true rfl)) dX4_removeLast_30 ⟨Nat.le_of_ble_eq_true rfl, Nat.le_of_ble_eq_true rfl⟩) hS (fun q _ h => hFc q h) hFc (fun u_30 t9 H1 locs ht9 hvm w_30 hB hz1 hk1 hS => ?_)
    obtain ⟨v_30, rfl⟩ : ∃ z, z = u_30 := ⟨_, rfl⟩
    obtain ⟨hP1, hK1, hD1⟩ := hB
    rw [ht9] at hP1
    obtain ⟨hP, hD⟩ := va_join (wr := [(h0, .inr (4, [.ref qr, .ref qp, .ref qd, .ref qc, .ref qf, .ref qt, .ref sp, .ref sc, .int (nI n)])), (qr, .inl (G.2.1, 200, .inl fr)), (qp, .inl (G.2.1, 200, .inl fp)), (qd, .inl (G.2.1, 200, .inl fd)), (qc, .inl (G.2.1, 200, .inl fc)), (sc, .inr (3, [.ref q2, .int (nI (n + 1))])), (q2, .inl (G.2.1, 200, .inl f2))]) (w1 := [(sp, .inr (3, [.ref q1, .int (nI n)])), (q1, .inl (G.2.1, 200, .inl v_30))]) hP hD [5, 6] [0, 1, 2, 3, 4, 7, 8] rfl rfl (by decide) (by decide) hk1 hFc hP1 hD1
    generalize H1 = H at hP hS ⊢
    have hP : va_P G.1 vwCl [(h0, .inr (4, [.ref qr, .ref qp, .ref qd, .ref qc, .ref qf, .ref qt, .ref sp, .ref sc, .int (nI n)])), (qr, .inl (G.2.1, 200, .inl fr)), (qp, .inl (G.2.1, 200, .inl fp)), (qd, .inl (G.2.1, 200, .inl fd)), (qc, .inl (G.2.1, 200, .inl fc)), (sc, .inr (3, [.ref q2, .int (nI (n + 1))])), (q2, .inl (G.2.1, 200, .inl f2)), (sp, .inr (3, [.ref q1, .int (nI n)])), (q1, .inl (G.2.1, 200, .inl v_30))] H := hP
    have hD : va_D A [(h0, .inr (4, [.ref qr, .ref qp, .ref qd, .ref qc, .ref qf, .ref qt, .ref sp, .ref sc, .int (nI n)])), (qr, .inl (G.2.1, 200, .inl fr)), (qp, .inl (G.2.1, 200, .inl fp)), (qd, .inl (G.2.1, 200, .inl fd)), (qc, .inl (G.2.1, 200, .inl fc)), (sc, .inr (3, [.ref q2, .int (nI (n + 1))])), (q2, .inl (G.2.1, 200, .inl f2)), (sp, .inr (3, [.ref q1, .int (nI n)])), (q1, .inl (G.2.1, 200, .inl v_30))] := hD
    refine lv_aload_n hx hb dX4_removeLast_33 rfl (lv_at hl 0 rfl) ?_
    refine va_get (D := G.1) (ci := 4) (v := .ref sc) (C := "GradeRows$Steps") (T := TX4) (N := 9) hx hb htb inX4 hown hK hP 0 rfl rfl 7 (by decide) (htb _ qw_82) (fun _ h9 => h9) rfl dX4_removeLast_34 ?_
    refine lv_aload_n hx hb dX4_removeLast_37 rfl (lv_at hl 0 rfl) ?_
    refine va_get (D := G.1) (ci := 4) (v := .ref qr) (C := "GradeRows$Steps") (T := TX4) (N := 9) hx hb htb inX4 hown hK hP 0 rfl rfl 0 (by decide) (htb _ qw_75) (fun _ h9 => h9) rfl dX4_removeLast_38 ?_
    refine lv_aload_n hx hb dX4_removeLast_41 rfl (lv_at hl 0 rfl) ?_
    refine va_get (D := G.1) (ci := 4) (v := .int (nI n)) (C := "GradeRows$Steps") (T := TX4) (N := 9) hx hb htb inX4 hown hK hP 0 rfl rfl 8 (by decide) (htb _ qw_83) (fun _ h9 => h9) rfl dX4_removeLast_42 ?_
    refine qk_iald hx hb hK hP 1 0 rfl rfl (i := n) (by omega) (by omega) (v := nM z1) hr1 dX4_removeLast_45 ?_
    refine lv_aload_n hx hb dX4_removeLast_46 rfl (lv_at hl 0 rfl) ?_
    refine va_get (D := G.1) (ci := 4) (v := .ref qp) (C := "GradeRows$Steps") (T := TX4) (N := 9) hx hb htb inX4 hown hK hP 0 rfl rfl 1 (by decide) (htb _ qw_76) (fun _ h9 => h9) rfl dX4_removeLast_47 ?_
    refine lv_aload_n hx hb dX4_removeLast_50 rfl (lv_at hl 0 rfl) ?_
    refine va_get (D := G.1) (ci := 4) (v := .int (nI n)) (C := "GradeRows$Steps") (T := TX4) (N := 9) hx hb htb inX4 hown hK hP 0 rfl rfl 8 (by decide) (htb _ qw_83) (fun _ h9 => h9) rfl dX4_removeLast_51 ?_
    refine qk_iald hx hb hK hP 2 0 rfl rfl (i := n) (by omega) (by omega) (v := nI pl) hp1 dX4_removeLast_54 ?_
    refine lv_aload_n hx hb dX4_removeLast_55 rfl (lv_at hl 0 rfl) ?_
    refine va_get (D := G.1) (ci := 4) (v := .ref qd) (C := "GradeRows$Steps") (T := TX4) (N := 9) hx hb htb inX4 hown hK hP 0 rfl rfl 2 (by decide) (htb _ qw_77) (fun _ h9 => h9) rfl dX4_removeLast_56 ?_
    refine lv_aload_n hx hb dX4_removeLast_59 rfl (lv_at hl 0 rfl) ?_
    refine va_get (D := G.1) (ci := 4) (v := .int (nI n)) (C := "GradeRows$Steps") (T := TX4) (N := 9) hx hb htb inX4 hown hK hP 0 rfl rfl 8 (by decide) (htb _ qw_83) (fun _ h9 => h9) rfl dX4_removeLast_60 ?_
    refine qk_iald hx hb hK hP 3 0 rfl rfl (i := n) (by omega) (by omega) (v := nI wd) hd1 dX4_removeLast_63 ?_
    have hPc := hP.sub (ws' := []) [] rfl
    refine vp_callSi (va_runS (As := [.int (nM z1), .int (nI pl), .int (nI wd)]) (rest := [.ref sc]) ⟨hx, hb, hml, hown, htb⟩ (qc_T_code l G (nM z1) (nI pl) (nI wd)) (va_cwS 3 htb (qW_S qw_186 qw_187 qw_15 qw_188) rfl rfl rfl (by decide +kernel) ⟨Nat.le_of_ble_eq_true rfl, Nat.le_of_ble_eq_true rfl⟩) (qk_ps hK hPc hN) rfl rfl hl.1 rfl (lv_room (Nat.le_of_ble_eq_true rfl)) dX4_removeLast_64 ⟨Nat.le_of_ble_eq_true rfl, Nat.le_of_ble_eq_true rfl⟩).run (fun r_64 e_64 => ?_)
    have e_64 := e_64.symm
    subst e_64
    have hPc := hP.sub (ws' := [(sc, .inr (3, [.ref q2, .int (nI (n + 1))])), (q2, .inl (G.2.1, 200, .inl f2))]) [5, 6] rfl
    have hDc := hD.sub (ws' := [(sc, .inr (3, [.ref q2, .int (nI (n + 1))])), (q2, .inl (G.2.1, 200, .inl f2))]) [5, 6] (by decide) rfl
    have hFc := va_free (wc := [(sc, .inr (3, [.ref q2, .int (nI (n + 1))])), (q2, .inl (G.2.1, 200, .inl f2))]) hD hS hA [5, 6] rfl
    refine va_callv (va_runV (As := [.int (qm_code (nM z1) (nI pl) (nI wd))]) (rest := []) ⟨hx, hb, hml, hown, htb⟩ (qc_S_take l G sc q2 n f2 (qm_code (nM z1) (nI pl) (nI wd)) H.size hn he2) (cwV 1 htb (qW_V qw_231 qw_232 qw_233 qw_16 qw_234) rfl rfl rfl (by decide +kernel) ⟨Nat.le_of_ble_eq_true rfl, Nat.le_of_ble_eq_true rfl⟩) (qk_pvw (ci := 3) (q0 := 0) hK hPc hN hDc rfl rfl) rfl rfl hl.1 rfl (lv_room (Nat.le_of_ble_eq_true rfl)) dX4_removeLast_67 ⟨Nat.le_of_ble_eq_true rfl, Nat.le_of_ble_eq_true rfl⟩) hS (fun q _ h => hFc q h) hFc (fun u_67 t9 H1 locs ht9 hvm w_67 hB hz1 hk1 hS => ?_)
    obtain ⟨v_67, rfl⟩ : ∃ z, z = u_67 := ⟨_, rfl⟩
    obtain ⟨hP1, hK1, hD1⟩ := hB
    rw [ht9] at hP1
    obtain ⟨hP, hD⟩ := va_join (wr := [(h0, .inr (4, [.ref qr, .ref qp, .ref qd, .ref qc, .ref qf, .ref qt, .ref sp, .ref sc, .int (nI n)])), (qr, .inl (G.2.1, 200, .inl fr)), (qp, .inl (G.2.1, 200, .inl fp)), (qd, .inl (G.2.1, 200, .inl fd)), (qc, .inl (G.2.1, 200, .inl fc)), (sp, .inr (3, [.ref q1, .int (nI n)])), (q1, .inl (G.2.1, 200, .inl v_30))]) (w1 := [(sc, .inr (3, [.ref q2, .int (nI n)])), (q2, .inl (G.2.1, 200, .inl v_67))]) hP hD [5, 6] [0, 1, 2, 3, 4, 7, 8] rfl rfl (by decide) (by decide) hk1 hFc hP1 hD1
    generalize H1 = H at hP hS ⊢
    have hP : va_P G.1 vwCl [(h0, .inr (4, [.ref qr, .ref qp, .ref qd, .ref qc, .ref qf, .ref qt, .ref sp, .ref sc, .int (nI n)])), (qr, .inl (G.2.1, 200, .inl fr)), (qp, .inl (G.2.1, 200, .inl fp)), (qd, .inl (G.2.1, 200, .inl fd)), (qc, .inl (G.2.1, 200, .inl fc)), (sp, .inr (3, [.ref q1, .int (nI n)])), (q1, .inl (G.2.1, 200, .inl v_30)), (sc, .inr (3, [.ref q2, .int (nI n)])), (q2, .inl (G.2.1, 200, .inl v_67))] H := hP
    have hD : va_D A [(h0, .inr (4, [.ref qr, .ref qp, .ref qd, .ref qc, .ref qf, .ref qt, .ref sp, .ref sc, .int (nI n)])), (qr, .inl (G.2.1, 200, .inl fr)), (qp, .inl (G.2.1, 200, .inl fp)), (qd, .inl (G.2.1, 200, .inl fd)), (qc, .inl (G.2.1, 200, .inl fc)), (sp, .inr (3, [.ref q1, .int (nI n)])), (q1, .inl (G.2.1, 200, .inl v_30)), (sc, .inr (3, [.ref q2, .int (nI n)])), (q2, .inl (G.2.1, 200, .inl v_67))] := hD
    have hP9 := hP.sub (ws' := [(h0, .inr (4, [.ref qr, .ref qp, .ref qd, .ref qc, .ref qf, .ref qt, .ref sp, .ref sc, .int (nI n)])), (qr, .inl (G.2.1, 200, .inl fr)), (qp, .inl (G.2.1, 200, .inl fp)), (qd, .inl (G.2.1, 200, .inl fd)), (qc, .inl (G.2.1, 200, .inl fc)), (sp, .inr (3, [.ref q1, .int (nI n)])), (q1, .inl (G.2.1, 200, .inl v_30)), (sc, .inr (3, [.ref q2, .int (nI n)])), (q2, .inl (G.2.1, 200, .inl v_67))]) [0, 1, 2, 3, 4, 5, 6, 7, 8] rfl
    have hD9 := hD.sub (ws' := [(h0, .inr (4, [.ref qr, .ref qp, .ref qd, .ref qc, .ref qf, .ref qt, .ref sp, .ref sc, .int (nI n)])), (qr, .inl (G.2.1, 200, .inl fr)), (qp, .inl (G.2.1, 200, .inl fp)), (qd, .inl (G.2.1, 200, .inl fd)), (qc, .inl (G.2.1, 200, .inl fc)), (sp, .inr (3, [.ref q1, .int (nI n)])), (q1, .inl (G.2.1, 200, .inl v_30)), (sc, .inr (3, [.ref q2, .int (nI n)])), (q2, .inl (G.2.1, 200, .inl v_67))]) [0, 1, 2, 3, 4, 5, 6, 7, 8] (by decide) rfl
    exact W.vret hx hb hr (fun t9 ht9 hW9 => ⟨⟨(v_30, v_67), rfl, ⟨w_30, w_67⟩, by rw [ht9]; exact hP9, va_K.moved hW9.alike hK, hD9⟩, hS.F ht9⟩) hS.2.2 dX4_removeLast_70

set_option maxHeartbeats 4000000 in
set_option maxRecDepth 100000 in
/-- Steps.addGuess, full -/
theorem qc_T_guess0 (l : Launch) (G : qG) (h0 : Nat) (qr : Nat) (qp : Nat) (qd : Nat) (qc : Nat) (qf : Nat) (qt : Nat) (sp : Nat) (sc : Nat) (n : Nat) (fr : Nat → Int32) (d : Nat) (z : Nat) (hn : ¬ n < 200) (hn2 : n ≤ 200) (hz : fr (n - 1) = nM z) (hz1 : z ≤ 40) : Met l yX4_addGuess wsX4_addGuess ({ frames := 2, cells := 0, slots := 0, locals := 44 } : Room) (va_Pc [.ref h0, .int (nI d)] (qk_pre G vwCl [(h0, .inr (4, [.ref qr, .ref qp, .ref qd, .ref qc, .ref qf, .ref qt, .ref sp, .ref sc, .int (nI n)])), (qr, .inl (G.2.1, 200, .inl fr))])) (vp_Si (fun r => r = (-1))) 0 0 (fun _ => False) := by
  refine Met.ofW (cc := cX4_addGuess) (maxL := 3) (ret := (some .int)) (by decide) rfl ?_
  intro p e s m args below meth c s₁ B hml hv
  obtain ⟨rfl, hP, hK, hN⟩ := hv
  have hx := B.exec
  have hb := B.bytes
  have hr := B.returns
  have hlocks := B.notSynchronized
  have hts := atoms_spec (ws := wsX4_addGuess) B.pre
  have htb := fun (w : Cond) (h : w ∈ qTb) => hts w (List.mem_cons_of_mem _ h)
  have hown : s.vm.findClass "GradeRows$Steps" = some m.cls := findClass_of_methodNamed B.named
  have hP : va_P G.1 vwCl [(h0, .inr (4, [.ref qr, .ref qp, .ref qd, .ref qc, .ref qf, .ref qt, .ref sp, .ref sc, .int (nI n)])), (qr, .inl (G.2.1, 200, .inl fr))] s.heap := hP
  have hl := lv_entry ([.ref h0, .int (nI d)]) (n := 3) (Nat.le_of_ble_eq_true rfl)
  rw [lg_entry_eq]
  generalize (lg_sl ([.ref h0, .int (nI d)]) ++ List.replicate (3 - (lg_sl ([.ref h0, .int (nI d)])).length) Slot.unset).toArray = ls at hl ⊢
  have hl : lv_has ls 3 [(0, .ref h0), (1, .int (nI d))] := hl
  refine lv_sipush (v := nI 1000) hx hb dX4_addGuess_0 (by decide) ?_
  refine lv_iload_n hx hb dX4_addGuess_3 rfl (lv_at hl 1 rfl) ?_
  refine lv_imul hx hb dX4_addGuess_4 ?_
  refine qk_topi (t := nI (1000 * d)) (pk_mul _ _) ?_
  refine lv_istore_n (lv' := [(2, .int (nI (1000 * d))), (0, .ref h0), (1, .int (nI d))]) hx hb dX4_addGuess_5 rfl hl (by decide) rfl (fun ls hl => ?_)
  refine lv_aload_n hx hb dX4_addGuess_6 rfl (lv_at hl 1 rfl) ?_
  refine lv_iconst (v := (-1)) hx hb dX4_addGuess_7 (by decide) ?_
  refine lv_iconst (v := nI 0) hx hb dX4_addGuess_8 (by decide) ?_
  refine lv_iload_n hx hb dX4_addGuess_9 rfl (lv_at hl 2 rfl) ?_
  refine lv_aload_n hx hb dX4_addGuess_10 rfl (lv_at hl 1 rfl) ?_
  refine lv_aload_n hx hb dX4_addGuess_11 rfl (lv_at hl 1 rfl) ?_
  refine va_get (D := G.1) (ci := 4) (v := .int (nI n)) (C := "GradeRows$Steps") (T := TX4) (N := 9) hx hb htb inX4 hown hK hP 0 rfl rfl 8 (by decide) (htb _ qw_83) (fun _ h9 => h9) rfl dX4_addGuess_12 ?_
  refine lv_iconst (v := nI 1) hx hb dX4_addGuess_15 (by decide) ?_
  refine lv_isub hx hb dX4_addGuess_16 ?_
  refine qk_topi (t := nI (n - 1)) (pk_sub (by omega)) ?_
  have hPc := hP.sub (ws' := [(h0, .inr (4, [.ref qr, .ref qp, .ref qd, .ref qc, .ref qf, .ref qt, .ref sp, .ref sc, .int (nI n)])), (qr, .inl (G.2.1, 200, .inl fr))]) [0, 1] rfl
  refine vp_callSi (va_runV (As := [.int (nI (n - 1))]) (rest := [.int (nI d), .int (nI 0), .int (-1), .ref h0]) ⟨hx, hb, hml, hown, htb⟩ (qc_T_isg l G h0 qr qp qd qc qf qt sp sc n fr (n - 1) z (by omega) hn2 hz hz1) (cwV 1 htb (qW_V qw_197 qw_198 qw_199 qw_15 qw_200) rfl rfl rfl (by decide +kernel) ⟨Nat.le_of_ble_eq_true rfl, Nat.le_of_ble_eq_true rfl⟩) (qk_pv (ci := 4) (q0 := 0) hK hPc hN rfl rfl) rfl rfl hl.1 rfl (lv_room (Nat.le_of_ble_eq_true rfl)) dX4_addGuess_17 ⟨Nat.le_of_ble_eq_true rfl, Nat.le_of_ble_eq_true rfl⟩).run (fun r_17 e_17 => ?_)
  have e_17 := e_17.symm
  subst e_17
  refine lv_if_eq (tgt := 29) hx hb dX4_addGuess_20 (by decide) (fun c_1 => ?_) (fun c_1 => ?_)
  · have c_1 : ¬ (z = 0) := fun q9 => qk_ite0.mpr q9 c_1
    refine lv_iload_n hx hb dX4_addGuess_29 rfl (lv_at hl 0 rfl) ?_
    have hPc := hP.sub (ws' := [(h0, .inr (4, [.ref qr, .ref qp, .ref qd, .ref qc, .ref qf, .ref qt, .ref sp, .ref sc, .int (nI n)]))]) [0] rfl
    refine vp_callSi (va_runV (As := [.int (-1), .int (nI 0), .int (nI d), .int (nI (1000 * d))]) (rest := []) ⟨hx, hb, hml, hown, htb⟩ (qc_T_add0 l G h0 qr qp qd qc qf qt sp sc n (-1) (nI 0) (nI d) (nI (1000 * d)) hn hn2) (cwV 4 htb (qW_V qw_205 qw_174 qw_175 qw_15 qw_176) rfl rfl rfl (by decide +kernel) ⟨Nat.le_of_ble_eq_true rfl, Nat.le_of_ble_eq_true rfl⟩) (qk_pv (ci := 4) (q0 := 0) hK hPc hN rfl rfl) rfl rfl hl.1 rfl (lv_room (Nat.le_of_ble_eq_true rfl)) dX4_addGuess_30 ⟨Nat.le_of_ble_eq_true rfl, Nat.le_of_ble_eq_true rfl⟩).run (fun r_30 e_30 => ?_)
    have e_30 := e_30.symm
    subst e_30
    exact W.iret (v := -1) hx hb hr (fun t9 ht9 hW9 => ⟨_, rfl, rfl, ht9⟩) (fun q h => absurd h List.not_mem_nil) dX4_addGuess_33
  · have c_1 : z = 0 := qk_ite0.mp c_1
    refine lv_iconst (v := nI 2) hx hb dX4_addGuess_23 (by decide) ?_
    refine lv_iload_n hx hb dX4_addGuess_24 rfl (lv_at hl 0 rfl) ?_
    refine lv_imul hx hb dX4_addGuess_25 ?_
    refine qk_topi (t := nI (2 * (1000 * d))) (pk_mul _ _) ?_
    refine lv_goto (tgt := 30) hx hb dX4_addGuess_26 (by decide) ?_
    have hPc := hP.sub (ws' := [(h0, .inr (4, [.ref qr, .ref qp, .ref qd, .ref qc, .ref qf, .ref qt, .ref sp, .ref sc, .int (nI n)]))]) [0] rfl
    refine vp_callSi (va_runV (As := [.int (-1), .int (nI 0), .int (nI d), .int (nI (2 * (1000 * d)))]) (rest := []) ⟨hx, hb, hml, hown, htb⟩ (qc_T_add0 l G h0 qr qp qd qc qf qt sp sc n (-1) (nI 0) (nI d) (nI (2 * (1000 * d))) hn hn2) (cwV 4 htb (qW_V qw_205 qw_174 qw_175 qw_15 qw_176) rfl rfl rfl (by decide +kernel) ⟨Nat.le_of_ble_eq_true rfl, Nat.le_of_ble_eq_true rfl⟩) (qk_pv (ci := 4) (q0 := 0) hK hPc hN rfl rfl) rfl rfl hl.1 rfl (lv_room (Nat.le_of_ble_eq_true rfl)) dX4_addGuess_30 ⟨Nat.le_of_ble_eq_true rfl, Nat.le_of_ble_eq_true rfl⟩).run (fun r_30 e_30 => ?_)
    have e_30 := e_30.symm
    subst e_30
    exact W.iret (v := -1) hx hb hr (fun t9 ht9 hW9 => ⟨_, rfl, rfl, ht9⟩) (fun q h => absurd h List.not_mem_nil) dX4_addGuess_33

set_option maxHeartbeats 4000000 in
set_option maxRecDepth 100000 in
/-- Steps.addGuess -/
theorem qc_T_guess (l : Launch) (G : qG) (h0 : Nat) (qr : Nat) (qp : Nat) (qd : Nat) (qc : Nat) (qf : Nat) (qt : Nat) (sp : Nat) (sc : Nat) (n : Nat) (fr : Nat → Int32) (fp : Nat → Int32) (fd : Nat → Int32) (fc : Nat → Int32) (ff : Nat → Int32) (ft : Nat → Int64) (q1 : Nat) (f1 : Nat → Int32) (q2 : Nat) (f2 : Nat → Int32) (sq : Nat → qS) (d : Nat) (pr : Nat) (tt : Nat) (sz : Nat) (hn : n < 200) (hf : ∀ i, i < n → ff i = if qm_fn sq i = true then nI 1 else nI 0) (hp : ∀ i, i < n → fp i = nI (qm_pl (sq i))) (hbp : ∀ i, i < n → qm_pl (sq i) ≤ 255) (hd : d ≤ 20) (htt : ft n = lN tt) (hz : ∀ j, j < n → fr j = nM (sq j).1 ∧ (sq j).1 ≤ 40) (hpr : pr = if 0 < n ∧ (sq (n - 1)).1 = 0 then 2000 * d else 1000 * d) : Met l yX4_addGuess wsX4_addGuess ({ frames := 2, cells := 0, slots := 0, locals := 46 } : Room) (va_Pc [.ref h0, .int (nI d)] (qk_prw G vwCl [(h0, .inr (4, [.ref qr, .ref qp, .ref qd, .ref qc, .ref qf, .ref qt, .ref sp, .ref sc, .int (nI n)])), (qr, .inl (G.2.1, 200, .inl fr)), (qp, .inl (G.2.1, 200, .inl fp)), (qd, .inl (G.2.1, 200, .inl fd)), (qc, .inl (G.2.1, 200, .inl fc)), (qf, .inl (G.2.2.2.1, 200, .inl ff)), (qt, .inl (G.2.2.1, 201, .inr (.inl ft))), (sp, .inr (3, [.ref q1, .int (nI n)])), (q1, .inl (G.2.1, 200, .inl f1)), (sc, .inr (3, [.ref q2, .int (nI n)])), (q2, .inl (G.2.1, 200, .inl f2))] sz)) (va_Qi (fun (r : Int32) (u : Int32 × (Nat → Int32) × (Nat → Int32)) => r = nI n ∧ u.1 = (if ¬ 0 = 0 ∧ d = 1 ∧ ¬ qm_wasF sq 0 n = true then nI 1 else nI 0) ∧ qm_ins f1 n (nI pr) u.2.1 ∧ qm_ins f2 n (qm_code (nM 0) (nI 0) (nI d)) u.2.2) (qk_B G vwCl (va_A [(h0, .inr (4, [.ref qr, .ref qp, .ref qd, .ref qc, .ref qf, .ref qt, .ref sp, .ref sc, .int (nI n)])), (qr, .inl (G.2.1, 200, .inl fr)), (qp, .inl (G.2.1, 200, .inl fp)), (qd, .inl (G.2.1, 200, .inl fd)), (qc, .inl (G.2.1, 200, .inl fc)), (qf, .inl (G.2.2.2.1, 200, .inl ff)), (qt, .inl (G.2.2.1, 201, .inr (.inl ft))), (sp, .inr (3, [.ref q1, .int (nI n)])), (q1, .inl (G.2.1, 200, .inl f1)), (sc, .inr (3, [.ref q2, .int (nI n)])), (q2, .inl (G.2.1, 200, .inl f2))] sz) (fun (u : Int32 × (Nat → Int32) × (Nat → Int32)) => [(h0, .inr (4, [.ref qr, .ref qp, .ref qd, .ref qc, .ref qf, .ref qt, .ref sp, .ref sc, .int (nI (n + 1))])), (qr, .inl (G.2.1, 200, .inl (upd fr n (nM 0)))), (qp, .inl (G.2.1, 200, .inl (upd fp n (nI 0)))), (qd, .inl (G.2.1, 200, .inl (upd fd n (nI d)))), (qc, .inl (G.2.1, 200, .inl (upd fc n (nI pr)))), (qf, .inl (G.2.2.2.1, 200, .inl (upd ff n u.1))), (qt, .inl (G.2.2.1, 201, .inr (.inl (vp_updL ft (n + 1) (lN (tt + pr)))))), (sp, .inr (3, [.ref q1, .int (nI (n + 1))])), (q1, .inl (G.2.1, 200, .inl u.2.1)), (sc, .inr (3, [.ref q2, .int (nI (n + 1))])), (q2, .inl (G.2.1, 200, .inl u.2.2))])) (va_A [(h0, .inr (4, [.ref qr, .ref qp, .ref qd, .ref qc, .ref qf, .ref qt, .ref sp, .ref sc, .int (nI n)])), (qr, .inl (G.2.1, 200, .inl fr)), (qp, .inl (G.2.1, 200, .inl fp)), (qd, .inl (G.2.1, 200, .inl fd)), (qc, .inl (G.2.1, 200, .inl fc)), (qf, .inl (G.2.2.2.1, 200, .inl ff)), (qt, .inl (G.2.2.1, 201, .inr (.inl ft))), (sp, .inr (3, [.ref q1, .int (nI n)])), (q1, .inl (G.2.1, 200, .inl f1)), (sc, .inr (3, [.ref q2, .int (nI n)])), (q2, .inl (G.2.1, 200, .inl f2))] sz)) 0 0 (va_A [(h0, .inr (4, [.ref qr, .ref qp, .ref qd, .ref qc, .ref qf, .ref qt, .ref sp, .ref sc, .int (nI n)])), (qr, .inl (G.2.1, 200, .inl fr)), (qp, .inl (G.2.1, 200, .inl fp)), (qd, .inl (G.2.1, 200, .inl fd)), (qc, .inl (G.2.1, 200, .inl fc)), (qf, .inl (G.2.2.2.1, 200, .inl ff)), (qt, .inl (G.2.2.1, 201, .inr (.inl ft))), (sp, .inr (3, [.ref q1, .int (nI n)])), (q1, .inl (G.2.1, 200, .inl f1)), (sc, .inr (3, [.ref q2, .int (nI n)])), (q2, .inl (G.2.1, 200, .inl f2))] sz) := by
  refine Met.ofW (cc := cX4_addGuess) (maxL := 3) (ret := (some .int)) (by decide) rfl ?_
  intro p e s m args below meth c s₁ B hml hv
  obtain ⟨rfl, hsz, hP, hK, hD0, hN⟩ := hv
  have hx := B.exec
  have hb := B.bytes
  have hr := B.returns
  have hlocks := B.notSynchronized
  have hts := atoms_spec (ws := wsX4_addGuess) B.pre
  have htb := fun (w : Cond) (h : w ∈ qTb) => hts w (List.mem_cons_of_mem _ h)
  have hown : s.vm.findClass "GradeRows$Steps" = some m.cls := findClass_of_methodNamed B.named
  subst hsz
  have hD := hD0.self (sz := s.heap.size)
  generalize hAe : va_A [(h0, .inr (4, [.ref qr, .ref qp, .ref qd, .ref qc, .ref qf, .ref qt, .ref sp, .ref sc, .int (nI n)])), (qr, .inl (G.2.1, 200, .inl fr)), (qp, .inl (G.2.1, 200, .inl fp)), (qd, .inl (G.2.1, 200, .inl fd)), (qc, .inl (G.2.1, 200, .inl fc)), (qf, .inl (G.2.2.2.1, 200, .inl ff)), (qt, .inl (G.2.2.1, 201, .inr (.inl ft))), (sp, .inr (3, [.ref q1, .int (nI n)])), (q1, .inl (G.2.1, 200, .inl f1)), (sc, .inr (3, [.ref q2, .int (nI n)])), (q2, .inl (G.2.1, 200, .inl f2))] s.heap.size = A at hD ⊢
  have hA : ∀ q : Nat, s.heap.size ≤ q → A q := fun q h => by rw [← hAe]; exact Or.inr h
  have hS : va_S A s.heap s.heap [] := va_S.rf
  have hP : va_P G.1 vwCl [(h0, .inr (4, [.ref qr, .ref qp, .ref qd, .ref qc, .ref qf, .ref qt, .ref sp, .ref sc, .int (nI n)])), (qr, .inl (G.2.1, 200, .inl fr)), (qp, .inl (G.2.1, 200, .inl fp)), (qd, .inl (G.2.1, 200, .inl fd)), (qc, .inl (G.2.1, 200, .inl fc)), (qf, .inl (G.2.2.2.1, 200, .inl ff)), (qt, .inl (G.2.2.1, 201, .inr (.inl ft))), (sp, .inr (3, [.ref q1, .int (nI n)])), (q1, .inl (G.2.1, 200, .inl f1)), (sc, .inr (3, [.ref q2, .int (nI n)])), (q2, .inl (G.2.1, 200, .inl f2))] s.heap := hP
  have hl := lv_entry ([.ref h0, .int (nI d)]) (n := 3) (Nat.le_of_ble_eq_true rfl)
  rw [lg_entry_eq]
  generalize (lg_sl ([.ref h0, .int (nI d)]) ++ List.replicate (3 - (lg_sl ([.ref h0, .int (nI d)])).length) Slot.unset).toArray = ls at hl ⊢
  have hl : lv_has ls 3 [(0, .ref h0), (1, .int (nI d))] := hl
  refine lv_sipush (v := nI 1000) hx hb dX4_addGuess_0 (by decide) ?_
  refine lv_iload_n hx hb dX4_addGuess_3 rfl (lv_at hl 1 rfl) ?_
  refine lv_imul hx hb dX4_addGuess_4 ?_
  refine qk_topi (t := nI (1000 * d)) (pk_mul _ _) ?_
  refine lv_istore_n (lv' := [(2, .int (nI (1000 * d))), (0, .ref h0), (1, .int (nI d))]) hx hb dX4_addGuess_5 rfl hl (by decide) rfl (fun ls hl => ?_)
  by_cases h0n : 0 < n
  · skip
    refine lv_aload_n hx hb dX4_addGuess_6 rfl (lv_at hl 1 rfl) ?_
    refine lv_iconst (v := (-1)) hx hb dX4_addGuess_7 (by decide) ?_
    refine qk_topi (t := nM 0) nM_0.symm ?_
    refine lv_iconst (v := nI 0) hx hb dX4_addGuess_8 (by decide) ?_
    refine lv_iload_n hx hb dX4_addGuess_9 rfl (lv_at hl 2 rfl) ?_
    refine lv_aload_n hx hb dX4_addGuess_10 rfl (lv_at hl 1 rfl) ?_
    refine lv_aload_n hx hb dX4_addGuess_11 rfl (lv_at hl 1 rfl) ?_
    refine va_get (D := G.1) (ci := 4) (v := .int (nI n)) (C := "GradeRows$Steps") (T := TX4) (N := 9) hx hb htb inX4 hown hK hP 0 rfl rfl 8 (by decide) (htb _ qw_83) (fun _ h9 => h9) rfl dX4_addGuess_12 ?_
    refine lv_iconst (v := nI 1) hx hb dX4_addGuess_15 (by decide) ?_
    refine lv_isub hx hb dX4_addGuess_16 ?_
    refine qk_topi (t := nI (n - 1)) (pk_sub (by omega)) ?_
    have hPc := hP.sub (ws' := [(h0, .inr (4, [.ref qr, .ref qp, .ref qd, .ref qc, .ref qf, .ref qt, .ref sp, .ref sc, .int (nI n)])), (qr, .inl (G.2.1, 200, .inl fr))]) [0, 1] rfl
    refine vp_callSi (va_runV (As := [.int (nI (n - 1))]) (rest := [.int (nI d), .int (nI 0), .int (nM 0), .ref h0]) ⟨hx, hb, hml, hown, htb⟩ (qc_T_isg l G h0 qr qp qd qc qf qt sp sc n fr (n - 1) (sq (n - 1)).1 (by omega) (by omega) (hz (n - 1) (by omega)).1 (hz (n - 1) (by omega)).2) (cwV 1 htb (qW_V qw_197 qw_198 qw_199 qw_15 qw_200) rfl rfl rfl (by decide +kernel) ⟨Nat.le_of_ble_eq_true rfl, Nat.le_of_ble_eq_true rfl⟩) (qk_pv (ci := 4) (q0 := 0) hK hPc hN rfl rfl) rfl rfl hl.1 rfl (lv_room (Nat.le_of_ble_eq_true rfl)) dX4_addGuess_17 ⟨Nat.le_of_ble_eq_true rfl, Nat.le_of_ble_eq_true rfl⟩).run (fun r_17 e_17 => ?_)
    have e_17 := e_17.symm
    subst e_17
    refine lv_if_eq (tgt := 29) hx hb dX4_addGuess_20 (by decide) (fun cz => ?_) (fun cz => ?_)
    · have cz : ¬ ((sq (n - 1)).1 = 0) := fun q9 => qk_ite0.mpr q9 cz
      refine lv_iload_n hx hb dX4_addGuess_29 rfl (lv_at hl 0 rfl) ?_
      refine qk_topi (t := nI pr) (by congr 1; rw [hpr, if_neg (by first | (intro h; exact cz h.2) | omega)]) ?_
      have hprb : pr ≤ 40000 := by rw [hpr]; split <;> omega
      have hPc := hP.sub (ws' := [(h0, .inr (4, [.ref qr, .ref qp, .ref qd, .ref qc, .ref qf, .ref qt, .ref sp, .ref sc, .int (nI n)])), (qr, .inl (G.2.1, 200, .inl fr)), (qp, .inl (G.2.1, 200, .inl fp)), (qd, .inl (G.2.1, 200, .inl fd)), (qc, .inl (G.2.1, 200, .inl fc)), (qf, .inl (G.2.2.2.1, 200, .inl ff)), (qt, .inl (G.2.2.1, 201, .inr (.inl ft))), (sp, .inr (3, [.ref q1, .int (nI n)])), (q1, .inl (G.2.1, 200, .inl f1)), (sc, .inr (3, [.ref q2, .int (nI n)])), (q2, .inl (G.2.1, 200, .inl f2))]) [0, 1, 2, 3, 4, 5, 6, 7, 8, 9, 10] rfl
      have hDc := hD.sub (ws' := [(h0, .inr (4, [.ref qr, .ref qp, .ref qd, .ref qc, .ref qf, .ref qt, .ref sp, .ref sc, .int (nI n)])), (qr, .inl (G.2.1, 200, .inl fr)), (qp, .inl (G.2.1, 200, .inl fp)), (qd, .inl (G.2.1, 200, .inl fd)), (qc, .inl (G.2.1, 200, .inl fc)), (qf, .inl (G.2.2.2.1, 200, .inl ff)), (qt, .inl (G.2.2.1, 201, .inr (.inl ft))), (sp, .inr (3, [.ref q1, .int (nI n)])), (q1, .inl (G.2.1, 200, .inl f1)), (sc, .inr (3, [.ref q2, .int (nI n)])), (q2, .inl (G.2.1, 200, .inl f2))]) [0, 1, 2, 3, 4, 5, 6, 7, 8, 9, 10] (by decide) rfl
      have hFc := va_free (wc := [(h0, .inr (4, [.ref qr, .ref qp, .ref qd, .ref qc, .ref qf, .ref qt, .ref sp, .ref sc, .int (nI n)])), (qr, .inl (G.2.1, 200, .inl fr)), (qp, .inl (G.2.1, 200, .inl fp)), (qd, .inl (G.2.1, 200, .inl fd)), (qc, .inl (G.2.1, 200, .inl fc)), (qf, .inl (G.2.2.2.1, 200, .inl ff)), (qt, .inl (G.2.2.1, 201, .inr (.inl ft))), (sp, .inr (3, [.ref q1, .int (nI n)])), (q1, .inl (G.2.1, 200, .inl f1)), (sc, .inr (3, [.ref q2, .int (nI n)])), (q2, .inl (G.2.1, 200, .inl f2))]) hD hS hA [0, 1, 2, 3, 4, 5, 6, 7, 8, 9, 10] rfl
      refine va_calli (va_runV (As := [.int (nM 0), .int (nI 0), .int (nI d), .int (nI pr)]) (rest := []) ⟨hx, hb, hml, hown, htb⟩ (qc_T_add l G h0 qr qp qd qc qf qt sp sc n fr fp fd fc ff ft q1 f1 q2 f2 sq 0 0 d pr tt s.heap.size hn hf hp hbp (by omega) (by omega) (by omega) (by omega) htt) (cwV 4 htb (qW_V qw_205 qw_174 qw_175 qw_15 qw_176) rfl rfl rfl (by decide +kernel) ⟨Nat.le_of_ble_eq_true rfl, Nat.le_of_ble_eq_true rfl⟩) (qk_pvw (ci := 4) (q0 := 0) hK hPc hN hDc rfl rfl) rfl rfl hl.1 rfl (lv_room (Nat.le_of_ble_eq_true rfl)) dX4_addGuess_30 ⟨Nat.le_of_ble_eq_true rfl, Nat.le_of_ble_eq_true rfl⟩) hS (fun q _ h => hFc q h) hFc (fun r_30 u_30 t9 H1 locs ht9 hvm w_30 hB hz1 hk1 hS => ?_)
      obtain ⟨v_30, rfl⟩ : ∃ z, z = u_30 := ⟨_, rfl⟩
      obtain ⟨hP1, hK1, hD1⟩ := hB
      rw [ht9] at hP1
      obtain ⟨hP, hD⟩ := va_join (wr := []) (w1 := [(h0, .inr (4, [.ref qr, .ref qp, .ref qd, .ref qc, .ref qf, .ref qt, .ref sp, .ref sc, .int (nI (n + 1))])), (qr, .inl (G.2.1, 200, .inl (upd fr n (nM 0)))), (qp, .inl (G.2.1, 200, .inl (upd fp n (nI 0)))), (qd, .inl (G.2.1, 200, .inl (upd fd n (nI d)))), (qc, .inl (G.2.1, 200, .inl (upd fc n (nI pr)))), (qf, .inl (G.2.2.2.1, 200, .inl (upd ff n v_30.1))), (qt, .inl (G.2.2.1, 201, .inr (.inl (vp_updL ft (n + 1) (lN (tt + pr)))))), (sp, .inr (3, [.ref q1, .int (nI (n + 1))])), (q1, .inl (G.2.1, 200, .inl v_30.2.1)), (sc, .inr (3, [.ref q2, .int (nI (n + 1))])), (q2, .inl (G.2.1, 200, .inl v_30.2.2))]) hP hD [0, 1, 2, 3, 4, 5, 6, 7, 8, 9, 10] [] rfl rfl (by decide) (by decide) hk1 hFc hP1 hD1
      generalize H1 = H at hP hS ⊢
      have hP : va_P G.1 vwCl [(h0, .inr (4, [.ref qr, .ref qp, .ref qd, .ref qc, .ref qf, .ref qt, .ref sp, .ref sc, .int (nI (n + 1))])), (qr, .inl (G.2.1, 200, .inl (upd fr n (nM 0)))), (qp, .inl (G.2.1, 200, .inl (upd fp n (nI 0)))), (qd, .inl (G.2.1, 200, .inl (upd fd n (nI d)))), (qc, .inl (G.2.1, 200, .inl (upd fc n (nI pr)))), (qf, .inl (G.2.2.2.1, 200, .inl (upd ff n v_30.1))), (qt, .inl (G.2.2.1, 201, .inr (.inl (vp_updL ft (n + 1) (lN (tt + pr)))))), (sp, .inr (3, [.ref q1, .int (nI (n + 1))])), (q1, .inl (G.2.1, 200, .inl v_30.2.1)), (sc, .inr (3, [.ref q2, .int (nI (n + 1))])), (q2, .inl (G.2.1, 200, .inl v_30.2.2))] H := hP
      have hD : va_D A [(h0, .inr (4, [.ref qr, .ref qp, .ref qd, .ref qc, .ref qf, .ref qt, .ref sp, .ref sc, .int (nI (n + 1))])), (qr, .inl (G.2.1, 200, .inl (upd fr n (nM 0)))), (qp, .inl (G.2.1, 200, .inl (upd fp n (nI 0)))), (qd, .inl (G.2.1, 200, .inl (upd fd n (nI d)))), (qc, .inl (G.2.1, 200, .inl (upd fc n (nI pr)))), (qf, .inl (G.2.2.2.1, 200, .inl (upd ff n v_30.1))), (qt, .inl (G.2.2.1, 201, .inr (.inl (vp_updL ft (n + 1) (lN (tt + pr)))))), (sp, .inr (3, [.ref q1, .int (nI (n + 1))])), (q1, .inl (G.2.1, 200, .inl v_30.2.1)), (sc, .inr (3, [.ref q2, .int (nI (n + 1))])), (q2, .inl (G.2.1, 200, .inl v_30.2.2))] := hD
      obtain ⟨w1, w2, w3, w4⟩ := w_30
      subst w1
      have hP9 := hP.sub (ws' := [(h0, .inr (4, [.ref qr, .ref qp, .ref qd, .ref qc, .ref qf, .ref qt, .ref sp, .ref sc, .int (nI (n + 1))])), (qr, .inl (G.2.1, 200, .inl (upd fr n (nM 0)))), (qp, .inl (G.2.1, 200, .inl (upd fp n (nI 0)))), (qd, .inl (G.2.1, 200, .inl (upd fd n (nI d)))), (qc, .inl (G.2.1, 200, .inl (upd fc n (nI pr)))), (qf, .inl (G.2.2.2.1, 200, .inl (upd ff n v_30.1))), (qt, .inl (G.2.2.1, 201, .inr (.inl (vp_updL ft (n + 1) (lN (tt + pr)))))), (sp, .inr (3, [.ref q1, .int (nI (n + 1))])), (q1, .inl (G.2.1, 200, .inl v_30.2.1)), (sc, .inr (3, [.ref q2, .int (nI (n + 1))])), (q2, .inl (G.2.1, 200, .inl v_30.2.2))]) [0, 1, 2, 3, 4, 5, 6, 7, 8, 9, 10] rfl
      have hD9 := hD.sub (ws' := [(h0, .inr (4, [.ref qr, .ref qp, .ref qd, .ref qc, .ref qf, .ref qt, .ref sp, .ref sc, .int (nI (n + 1))])), (qr, .inl (G.2.1, 200, .inl (upd fr n (nM 0)))), (qp, .inl (G.2.1, 200, .inl (upd fp n (nI 0)))), (qd, .inl (G.2.1, 200, .inl (upd fd n (nI d)))), (qc, .inl (G.2.1, 200, .inl (upd fc n (nI pr)))), (qf, .inl (G.2.2.2.1, 200, .inl (upd ff n v_30.1))), (qt, .inl (G.2.2.1, 201, .inr (.inl (vp_updL ft (n + 1) (lN (tt + pr)))))), (sp, .inr (3, [.ref q1, .int (nI (n + 1))])), (q1, .inl (G.2.1, 200, .inl v_30.2.1)), (sc, .inr (3, [.ref q2, .int (nI (n + 1))])), (q2, .inl (G.2.1, 200, .inl v_30.2.2))]) [0, 1, 2, 3, 4, 5, 6, 7, 8, 9, 10] (by decide) rfl
      exact W.iret (v := nI n) hx hb hr (fun t9 ht9 hW9 => ⟨⟨_, v_30, rfl, ⟨rfl, w2, w3, w4⟩, by rw [ht9]; exact hP9, va_K.moved hW9.alike hK, hD9⟩, hS.F ht9⟩) hS.2.2 dX4_addGuess_33
    · have cz : (sq (n - 1)).1 = 0 := qk_ite0.mp cz
      refine lv_iconst (v := nI 2) hx hb dX4_addGuess_23 (by decide) ?_
      refine lv_iload_n hx hb dX4_addGuess_24 rfl (lv_at hl 0 rfl) ?_
      refine lv_imul hx hb dX4_addGuess_25 ?_
      refine qk_topi (t := nI pr) ((pk_mul _ _).trans (by congr 1; rw [hpr, if_pos ⟨by omega, cz⟩]; omega)) ?_
      refine lv_goto (tgt := 30) hx hb dX4_addGuess_26 (by decide) ?_
      have hprb : pr ≤ 40000 := by rw [hpr]; split <;> omega
      have hPc := hP.sub (ws' := [(h0, .inr (4, [.ref qr, .ref qp, .ref qd, .ref qc, .ref qf, .ref qt, .ref sp, .ref sc, .int (nI n)])), (qr, .inl (G.2.1, 200, .inl fr)), (qp, .inl (G.2.1, 200, .inl fp)), (qd, .inl (G.2.1, 200, .inl fd)), (qc, .inl (G.2.1, 200, .inl fc)), (qf, .inl (G.2.2.2.1, 200, .inl ff)), (qt, .inl (G.2.2.1, 201, .inr (.inl ft))), (sp, .inr (3, [.ref q1, .int (nI n)])), (q1, .inl (G.2.1, 200, .inl f1)), (sc, .inr (3, [.ref q2, .int (nI n)])), (q2, .inl (G.2.1, 200, .inl f2))]) [0, 1, 2, 3, 4, 5, 6, 7, 8, 9, 10] rfl
      have hDc := hD.sub (ws' := [(h0, .inr (4, [.ref qr, .ref qp, .ref qd, .ref qc, .ref qf, .ref qt, .ref sp, .ref sc, .int (nI n)])), (qr, .inl (G.2.1, 200, .inl fr)), (qp, .inl (G.2.1, 200, .inl fp)), (qd, .inl (G.2.1, 200, .inl fd)), (qc, .inl (G.2.1, 200, .inl fc)), (qf, .inl (G.2.2.2.1, 200, .inl ff)), (qt, .inl (G.2.2.1, 201, .inr (.inl ft))), (sp, .inr (3, [.ref q1, .int (nI n)])), (q1, .inl (G.2.1, 200, .inl f1)), (sc, .inr (3, [.ref q2, .int (nI n)])), (q2, .inl (G.2.1, 200, .inl f2))]) [0, 1, 2, 3, 4, 5, 6, 7, 8, 9, 10] (by decide) rfl
      have hFc := va_free (wc := [(h0, .inr (4, [.ref qr, .ref qp, .ref qd, .ref qc, .ref qf, .ref qt, .ref sp, .ref sc, .int (nI n)])), (qr, .inl (G.2.1, 200, .inl fr)), (qp, .inl (G.2.1, 200, .inl fp)), (qd, .inl (G.2.1, 200, .inl fd)), (qc, .inl (G.2.1, 200, .inl fc)), (qf, .inl (G.2.2.2.1, 200, .inl ff)), (qt, .inl (G.2.2.1, 201, .inr (.inl ft))), (sp, .inr (3, [.ref q1, .int (nI n)])), (q1, .inl (G.2.1, 200, .inl f1)), (sc, .inr (3, [.ref q2, .int (nI n)])), (q2, .inl (G.2.1, 200, .inl f2))]) hD hS hA [0, 1, 2, 3, 4, 5, 6, 7, 8, 9, 10] rfl
      refine va_calli (va_runV (As := [.int (nM 0), .int (nI 0), .int (nI d), .int (nI pr)]) (rest := []) ⟨hx, hb, hml, hown, htb⟩ (qc_T_add l G h0 qr qp qd qc qf qt sp sc n fr fp fd fc ff ft q1 f1 q2 f2 sq 0 0 d pr tt s.heap.size hn hf hp hbp (by omega) (by omega) (by omega) (by omega) htt) (cwV 4 htb (qW_V qw_205 qw_174 qw_175 qw_15 qw_176) rfl rfl rfl (by decide +kernel) ⟨Nat.le_of_ble_eq_true rfl, Nat.le_of_ble_eq_true rfl⟩) (qk_pvw (ci := 4) (q0 := 0) hK hPc hN hDc rfl rfl) rfl rfl hl.1 rfl (lv_room (Nat.le_of_ble_eq_true rfl)) dX4_addGuess_30 ⟨Nat.le_of_ble_eq_true rfl, Nat.le_of_ble_eq_true rfl⟩) hS (fun q _ h => hFc q h) hFc (fun r_30 u_30 t9 H1 locs ht9 hvm w_30 hB hz1 hk1 hS => ?_)
      obtain ⟨v_30, rfl⟩ : ∃ z, z = u_30 := ⟨_, rfl⟩
      obtain ⟨hP1, hK1, hD1⟩ := hB
      rw [ht9] at hP1
      obtain ⟨hP, hD⟩ := va_join (wr := []) (w1 := [(h0, .inr (4, [.ref qr, .ref qp, .ref qd, .ref qc, .ref qf, .ref qt, .ref sp, .ref sc, .int (nI (n + 1))])), (qr, .inl (G.2.1, 200, .inl (upd fr n (nM 0)))), (qp, .inl (G.2.1, 200, .inl (upd fp n (nI 0)))), (qd, .inl (G.2.1, 200, .inl (upd fd n (nI d)))), (qc, .inl (G.2.1, 200, .inl (upd fc n (nI pr)))), (qf, .inl (G.2.2.2.1, 200, .inl (upd ff n v_30.1))), (qt, .inl (G.2.2.1, 201, .inr (.inl (vp_updL ft (n + 1) (lN (tt + pr)))))), (sp, .inr (3, [.ref q1, .int (nI (n + 1))])), (q1, .inl (G.2.1, 200, .inl v_30.2.1)), (sc, .inr (3, [.ref q2, .int (nI (n + 1))])), (q2, .inl (G.2.1, 200, .inl v_30.2.2))]) hP hD [0, 1, 2, 3, 4, 5, 6, 7, 8, 9, 10] [] rfl rfl (by decide) (by decide) hk1 hFc hP1 hD1
      generalize H1 = H at hP hS ⊢
      have hP : va_P G.1 vwCl [(h0, .inr (4, [.ref qr, .ref qp, .ref qd, .ref qc, .ref qf, .ref qt, .ref sp, .ref sc, .int (nI (n + 1))])), (qr, .inl (G.2.1, 200, .inl (upd fr n (nM 0)))), (qp, .inl (G.2.1, 200, .inl (upd fp n (nI 0)))), (qd, .inl (G.2.1, 200, .inl (upd fd n (nI d)))), (qc, .inl (G.2.1, 200, .inl (upd fc n (nI pr)))), (qf, .inl (G.2.2.2.1, 200, .inl (upd ff n v_30.1))), (qt, .inl (G.2.2.1, 201, .inr (.inl (vp_updL ft (n + 1) (lN (tt + pr)))))), (sp, .inr (3, [.ref q1, .int (nI (n + 1))])), (q1, .inl (G.2.1, 200, .inl v_30.2.1)), (sc, .inr (3, [.ref q2, .int (nI (n + 1))])), (q2, .inl (G.2.1, 200, .inl v_30.2.2))] H := hP
      have hD : va_D A [(h0, .inr (4, [.ref qr, .ref qp, .ref qd, .ref qc, .ref qf, .ref qt, .ref sp, .ref sc, .int (nI (n + 1))])), (qr, .inl (G.2.1, 200, .inl (upd fr n (nM 0)))), (qp, .inl (G.2.1, 200, .inl (upd fp n (nI 0)))), (qd, .inl (G.2.1, 200, .inl (upd fd n (nI d)))), (qc, .inl (G.2.1, 200, .inl (upd fc n (nI pr)))), (qf, .inl (G.2.2.2.1, 200, .inl (upd ff n v_30.1))), (qt, .inl (G.2.2.1, 201, .inr (.inl (vp_updL ft (n + 1) (lN (tt + pr)))))), (sp, .inr (3, [.ref q1, .int (nI (n + 1))])), (q1, .inl (G.2.1, 200, .inl v_30.2.1)), (sc, .inr (3, [.ref q2, .int (nI (n + 1))])), (q2, .inl (G.2.1, 200, .inl v_30.2.2))] := hD
      obtain ⟨w1, w2, w3, w4⟩ := w_30
      subst w1
      have hP9 := hP.sub (ws' := [(h0, .inr (4, [.ref qr, .ref qp, .ref qd, .ref qc, .ref qf, .ref qt, .ref sp, .ref sc, .int (nI (n + 1))])), (qr, .inl (G.2.1, 200, .inl (upd fr n (nM 0)))), (qp, .inl (G.2.1, 200, .inl (upd fp n (nI 0)))), (qd, .inl (G.2.1, 200, .inl (upd fd n (nI d)))), (qc, .inl (G.2.1, 200, .inl (upd fc n (nI pr)))), (qf, .inl (G.2.2.2.1, 200, .inl (upd ff n v_30.1))), (qt, .inl (G.2.2.1, 201, .inr (.inl (vp_updL ft (n + 1) (lN (tt + pr)))))), (sp, .inr (3, [.ref q1, .int (nI (n + 1))])), (q1, .inl (G.2.1, 200, .inl v_30.2.1)), (sc, .inr (3, [.ref q2, .int (nI (n + 1))])), (q2, .inl (G.2.1, 200, .inl v_30.2.2))]) [0, 1, 2, 3, 4, 5, 6, 7, 8, 9, 10] rfl
      have hD9 := hD.sub (ws' := [(h0, .inr (4, [.ref qr, .ref qp, .ref qd, .ref qc, .ref qf, .ref qt, .ref sp, .ref sc, .int (nI (n + 1))])), (qr, .inl (G.2.1, 200, .inl (upd fr n (nM 0)))), (qp, .inl (G.2.1, 200, .inl (upd fp n (nI 0)))), (qd, .inl (G.2.1, 200, .inl (upd fd n (nI d)))), (qc, .inl (G.2.1, 200, .inl (upd fc n (nI pr)))), (qf, .inl (G.2.2.2.1, 200, .inl (upd ff n v_30.1))), (qt, .inl (G.2.2.1, 201, .inr (.inl (vp_updL ft (n + 1) (lN (tt + pr)))))), (sp, .inr (3, [.ref q1, .int (nI (n + 1))])), (q1, .inl (G.2.1, 200, .inl v_30.2.1)), (sc, .inr (3, [.ref q2, .int (nI (n + 1))])), (q2, .inl (G.2.1, 200, .inl v_30.2.2))]) [0, 1, 2, 3, 4, 5, 6, 7, 8, 9, 10] (by decide) rfl
      exact W.iret (v := nI n) hx hb hr (fun t9 ht9 hW9 => ⟨⟨_, v_30, rfl, ⟨rfl, w2, w3, w4⟩, by rw [ht9]; exact hP9, va_K.moved hW9.alike hK, hD9⟩, hS.F ht9⟩) hS.2.2 dX4_addGuess_33
  · skip
    refine lv_aload_n hx hb dX4_addGuess_6 rfl (lv_at hl 1 rfl) ?_
    refine lv_iconst (v := (-1)) hx hb dX4_addGuess_7 (by decide) ?_
    refine qk_topi (t := nM 0) nM_0.symm ?_
    refine lv_iconst (v := nI 0) hx hb dX4_addGuess_8 (by decide) ?_
    refine lv_iload_n hx hb dX4_addGuess_9 rfl (lv_at hl 2 rfl) ?_
    refine lv_aload_n hx hb dX4_addGuess_10 rfl (lv_at hl 1 rfl) ?_
    refine lv_aload_n hx hb dX4_addGuess_11 rfl (lv_at hl 1 rfl) ?_
    refine va_get (D := G.1) (ci := 4) (v := .int (nI n)) (C := "GradeRows$Steps") (T := TX4) (N := 9) hx hb htb inX4 hown hK hP 0 rfl rfl 8 (by decide) (htb _ qw_83) (fun _ h9 => h9) rfl dX4_addGuess_12 ?_
    refine lv_iconst (v := nI 1) hx hb dX4_addGuess_15 (by decide) ?_
    refine lv_isub hx hb dX4_addGuess_16 ?_
    refine qk_topi (t := (-1)) (by rw [show n = 0 by omega]; decide) ?_
    have hPc := hP.sub (ws' := [(h0, .inr (4, [.ref qr, .ref qp, .ref qd, .ref qc, .ref qf, .ref qt, .ref sp, .ref sc, .int (nI n)]))]) [0] rfl
    refine vp_callSi (va_runV (As := [.int (-1)]) (rest := [.int (nI d), .int (nI 0), .int (nM 0), .ref h0]) ⟨hx, hb, hml, hown, htb⟩ (qc_T_isg0 l G h0 qr qp qd qc qf qt sp sc n) (cwV 1 htb (qW_V qw_197 qw_198 qw_199 qw_15 qw_200) rfl rfl rfl (by decide +kernel) ⟨Nat.le_of_ble_eq_true rfl, Nat.le_of_ble_eq_true rfl⟩) (qk_pv (ci := 4) (q0 := 0) hK hPc hN rfl rfl) rfl rfl hl.1 rfl (lv_room (Nat.le_of_ble_eq_true rfl)) dX4_addGuess_17 ⟨Nat.le_of_ble_eq_true rfl, Nat.le_of_ble_eq_true rfl⟩).run (fun r_17 e_17 => ?_)
    have e_17 := e_17.symm
    subst e_17
    refine lv_if_eq (tgt := 29) hx hb dX4_addGuess_20 (by decide) (fun cz => ?_) (fun cz => ?_)
    · have cz : 0 = 0 := (z0eq (by omega)).mp cz
      refine lv_iload_n hx hb dX4_addGuess_29 rfl (lv_at hl 0 rfl) ?_
      refine qk_topi (t := nI pr) (by congr 1; rw [hpr, if_neg (by first | (intro h; exact cz h.2) | omega)]) ?_
      have hprb : pr ≤ 40000 := by rw [hpr]; split <;> omega
      have hPc := hP.sub (ws' := [(h0, .inr (4, [.ref qr, .ref qp, .ref qd, .ref qc, .ref qf, .ref qt, .ref sp, .ref sc, .int (nI n)])), (qr, .inl (G.2.1, 200, .inl fr)), (qp, .inl (G.2.1, 200, .inl fp)), (qd, .inl (G.2.1, 200, .inl fd)), (qc, .inl (G.2.1, 200, .inl fc)), (qf, .inl (G.2.2.2.1, 200, .inl ff)), (qt, .inl (G.2.2.1, 201, .inr (.inl ft))), (sp, .inr (3, [.ref q1, .int (nI n)])), (q1, .inl (G.2.1, 200, .inl f1)), (sc, .inr (3, [.ref q2, .int (nI n)])), (q2, .inl (G.2.1, 200, .inl f2))]) [0, 1, 2, 3, 4, 5, 6, 7, 8, 9, 10] rfl
      have hDc := hD.sub (ws' := [(h0, .inr (4, [.ref qr, .ref qp, .ref qd, .ref qc, .ref qf, .ref qt, .ref sp, .ref sc, .int (nI n)])), (qr, .inl (G.2.1, 200, .inl fr)), (qp, .inl (G.2.1, 200, .inl fp)), (qd, .inl (G.2.1, 200, .inl fd)), (qc, .inl (G.2.1, 200, .inl fc)), (qf, .inl (G.2.2.2.1, 200, .inl ff)), (qt, .inl (G.2.2.1, 201, .inr (.inl ft))), (sp, .inr (3, [.ref q1, .int (nI n)])), (q1, .inl (G.2.1, 200, .inl f1)), (sc, .inr (3, [.ref q2, .int (nI n)])), (q2, .inl (G.2.1, 200, .inl f2))]) [0, 1, 2, 3, 4, 5, 6, 7, 8, 9, 10] (by decide) rfl
      have hFc := va_free (wc := [(h0, .inr (4, [.ref qr, .ref qp, .ref qd, .ref qc, .ref qf, .ref qt, .ref sp, .ref sc, .int (nI n)])), (qr, .inl (G.2.1, 200, .inl fr)), (qp, .inl (G.2.1, 200, .inl fp)), (qd, .inl (G.2.1, 200, .inl fd)), (qc, .inl (G.2.1, 200, .inl fc)), (qf, .inl (G.2.2.2.1, 200, .inl ff)), (qt, .inl (G.2.2.1, 201, .inr (.inl ft))), (sp, .inr (3, [.ref q1, .int (nI n)])), (q1, .inl (G.2.1, 200, .inl f1)), (sc, .inr (3, [.ref q2, .int (nI n)])), (q2, .inl (G.2.1, 200, .inl f2))]) hD hS hA [0, 1, 2, 3, 4, 5, 6, 7, 8, 9, 10] rfl
      refine va_calli (va_runV (As := [.int (nM 0), .int (nI 0), .int (nI d), .int (nI pr)]) (rest := []) ⟨hx, hb, hml, hown, htb⟩ (qc_T_add l G h0 qr qp qd qc qf qt sp sc n fr fp fd fc ff ft q1 f1 q2 f2 sq 0 0 d pr tt s.heap.size hn hf hp hbp (by omega) (by omega) (by omega) (by omega) htt) (cwV 4 htb (qW_V qw_205 qw_174 qw_175 qw_15 qw_176) rfl rfl rfl (by decide +kernel) ⟨Nat.le_of_ble_eq_true rfl, Nat.le_of_ble_eq_true rfl⟩) (qk_pvw (ci := 4) (q0 := 0) hK hPc hN hDc rfl rfl) rfl rfl hl.1 rfl (lv_room (Nat.le_of_ble_eq_true rfl)) dX4_addGuess_30 ⟨Nat.le_of_ble_eq_true rfl, Nat.le_of_ble_eq_true rfl⟩) hS (fun q _ h => hFc q h) hFc (fun r_30 u_30 t9 H1 locs ht9 hvm w_30 hB hz1 hk1 hS => ?_)
      obtain ⟨v_30, rfl⟩ : ∃ z, z = u_30 := ⟨_, rfl⟩
      obtain ⟨hP1, hK1, hD1⟩ := hB
      rw [ht9] at hP1
      obtain ⟨hP, hD⟩ := va_join (wr := []) (w1 := [(h0, .inr (4, [.ref qr, .ref qp, .ref qd, .ref qc, .ref qf, .ref qt, .ref sp, .ref sc, .int (nI (n + 1))])), (qr, .inl (G.2.1, 200, .inl (upd fr n (nM 0)))), (qp, .inl (G.2.1, 200, .inl (upd fp n (nI 0)))), (qd, .inl (G.2.1, 200, .inl (upd fd n (nI d)))), (qc, .inl (G.2.1, 200, .inl (upd fc n (nI pr)))), (qf, .inl (G.2.2.2.1, 200, .inl (upd ff n v_30.1))), (qt, .inl (G.2.2.1, 201, .inr (.inl (vp_updL ft (n + 1) (lN (tt + pr)))))), (sp, .inr (3, [.ref q1, .int (nI (n + 1))])), (q1, .inl (G.2.1, 200, .inl v_30.2.1)), (sc, .inr (3, [.ref q2, .int (nI (n + 1))])), (q2, .inl (G.2.1, 200, .inl v_30.2.2))]) hP hD [0, 1, 2, 3, 4, 5, 6, 7, 8, 9, 10] [] rfl rfl (by decide) (by decide) hk1 hFc hP1 hD1
      generalize H1 = H at hP hS ⊢
      have hP : va_P G.1 vwCl [(h0, .inr (4, [.ref qr, .ref qp, .ref qd, .ref qc, .ref qf, .ref qt, .ref sp, .ref sc, .int (nI (n + 1))])), (qr, .inl (G.2.1, 200, .inl (upd fr n (nM 0)))), (qp, .inl (G.2.1, 200, .inl (upd fp n (nI 0)))), (qd, .inl (G.2.1, 200, .inl (upd fd n (nI d)))), (qc, .inl (G.2.1, 200, .inl (upd fc n (nI pr)))), (qf, .inl (G.2.2.2.1, 200, .inl (upd ff n v_30.1))), (qt, .inl (G.2.2.1, 201, .inr (.inl (vp_updL ft (n + 1) (lN (tt + pr)))))), (sp, .inr (3, [.ref q1, .int (nI (n + 1))])), (q1, .inl (G.2.1, 200, .inl v_30.2.1)), (sc, .inr (3, [.ref q2, .int (nI (n + 1))])), (q2, .inl (G.2.1, 200, .inl v_30.2.2))] H := hP
      have hD : va_D A [(h0, .inr (4, [.ref qr, .ref qp, .ref qd, .ref qc, .ref qf, .ref qt, .ref sp, .ref sc, .int (nI (n + 1))])), (qr, .inl (G.2.1, 200, .inl (upd fr n (nM 0)))), (qp, .inl (G.2.1, 200, .inl (upd fp n (nI 0)))), (qd, .inl (G.2.1, 200, .inl (upd fd n (nI d)))), (qc, .inl (G.2.1, 200, .inl (upd fc n (nI pr)))), (qf, .inl (G.2.2.2.1, 200, .inl (upd ff n v_30.1))), (qt, .inl (G.2.2.1, 201, .inr (.inl (vp_updL ft (n + 1) (lN (tt + pr)))))), (sp, .inr (3, [.ref q1, .int (nI (n + 1))])), (q1, .inl (G.2.1, 200, .inl v_30.2.1)), (sc, .inr (3, [.ref q2, .int (nI (n + 1))])), (q2, .inl (G.2.1, 200, .inl v_30.2.2))] := hD
      obtain ⟨w1, w2, w3, w4⟩ := w_30
      subst w1
      have hP9 := hP.sub (ws' := [(h0, .inr (4, [.ref qr, .ref qp, .ref qd, .ref qc, .ref qf, .ref qt, .ref sp, .ref sc, .int (nI (n + 1))])), (qr, .inl (G.2.1, 200, .inl (upd fr n (nM 0)))), (qp, .inl (G.2.1, 200, .inl (upd fp n (nI 0)))), (qd, .inl (G.2.1, 200, .inl (upd fd n (nI d)))), (qc, .inl (G.2.1, 200, .inl (upd fc n (nI pr)))), (qf, .inl (G.2.2.2.1, 200, .inl (upd ff n v_30.1))), (qt, .inl (G.2.2.1, 201, .inr (.inl (vp_updL ft (n + 1) (lN (tt + pr)))))), (sp, .inr (3, [.ref q1, .int (nI (n + 1))])), (q1, .inl (G.2.1, 200, .inl v_30.2.1)), (sc, .inr (3, [.ref q2, .int (nI (n + 1))])), (q2, .inl (G.2.1, 200, .inl v_30.2.2))]) [0, 1, 2, 3, 4, 5, 6, 7, 8, 9, 10] rfl
      have hD9 := hD.sub (ws' := [(h0, .inr (4, [.ref qr, .ref qp, .ref qd, .ref qc, .ref qf, .ref qt, .ref sp, .ref sc, .int (nI (n + 1))])), (qr, .inl (G.2.1, 200, .inl (upd fr n (nM 0)))), (qp, .inl (G.2.1, 200, .inl (upd fp n (nI 0)))), (qd, .inl (G.2.1, 200, .inl (upd fd n (nI d)))), (qc, .inl (G.2.1, 200, .inl (upd fc n (nI pr)))), (qf, .inl (G.2.2.2.1, 200, .inl (upd ff n v_30.1))), (qt, .inl (G.2.2.1, 201, .inr (.inl (vp_updL ft (n + 1) (lN (tt + pr)))))), (sp, .inr (3, [.ref q1, .int (nI (n + 1))])), (q1, .inl (G.2.1, 200, .inl v_30.2.1)), (sc, .inr (3, [.ref q2, .int (nI (n + 1))])), (q2, .inl (G.2.1, 200, .inl v_30.2.2))]) [0, 1, 2, 3, 4, 5, 6, 7, 8, 9, 10] (by decide) rfl
      exact W.iret (v := nI n) hx hb hr (fun t9 ht9 hW9 => ⟨⟨_, v_30, rfl, ⟨rfl, w2, w3, w4⟩, by rw [ht9]; exact hP9, va_K.moved hW9.alike hK, hD9⟩, hS.F ht9⟩) hS.2.2 dX4_addGuess_33
    · have cz : ¬ (0 = 0) := fun q9 => cz ((z0eq (by omega)).mpr q9)
      exact absurd rfl cz

set_option maxHeartbeats 4000000 in
set_option maxRecDepth 100000 in
/-- Steps.orderAgainst -/
theorem qc_T_against (l : Launch) (G : qG) (h0 : Nat) (qr : Nat) (qp : Nat) (qd : Nat) (qc : Nat) (qf : Nat) (qt : Nat) (sp : Nat) (sc : Nat) (n : Nat) (ft : Nat → Int64) (ta : Int64) (q1 : Nat) (f1 : Nat → Int32) (ro : Nat) (tk : Int64) (k1 : Nat) (k2 : Nat) (mq : Nat) (e1 : Nat) (g1 : Nat → Int32) (N2 : Nat) (e2 : Nat) (g2 : Nat → Int32) (hn : n ≤ 200) (hm : mq ≤ 200) (hta : ft n = ta) (hq2 : mq ≤ N2 ∧ N2 ≤ 200) (hf : qm_srt f1 n) (hg : qm_srt g1 mq) : Met l yX4_orderAgainst wsX4_orderAgainst ({ frames := 2, cells := 0, slots := 0, locals := 47 } : Room) (va_Pc [.ref h0, .ref ro] (qk_pre G vwCl [(h0, .inr (4, [.ref qr, .ref qp, .ref qd, .ref qc, .ref qf, .ref qt, .ref sp, .ref sc, .int (nI n)])), (qt, .inl (G.2.2.1, 201, .inr (.inl ft))), (sp, .inr (3, [.ref q1, .int (nI n)])), (q1, .inl (G.2.1, 200, .inl f1)), (ro, .inr (1, [.long tk, .ref k1, .ref k2])), (k1, .inr (3, [.ref e1, .int (nI mq)])), (e1, .inl (G.2.1, N2, .inl g1))])) (vp_Si (fun r => ∃ q, qm_sg ta tk q ∧ ((¬ q = 0 ∧ r = q) ∨ (q = 0 ∧ ∃ q2, qm_sg (lN n) (lN mq) q2 ∧ ((¬ q2 = 0 ∧ r = q2) ∨ (q2 = 0 ∧ qm_ord (fun a b : Int32 => a < b) (qm_cnt f1 n) (qm_cnt g1 n) r)))))) 0 0 (fun _ => False) := by
  refine Met.ofW (cc := cX4_orderAgainst) (maxL := 4) (ret := (some .int)) (by decide) rfl ?_
  intro p e s m args below meth c s₁ B hml hv
  obtain ⟨rfl, hP, hK, hN⟩ := hv
  have hx := B.exec
  have hb := B.bytes
  have hr := B.returns
  have hlocks := B.notSynchronized
  have hts := atoms_spec (ws := wsX4_orderAgainst) B.pre
  have htb := fun (w : Cond) (h : w ∈ qTb) => hts w (List.mem_cons_of_mem _ h)
  have hown : s.vm.findClass "GradeRows$Steps" = some m.cls := findClass_of_methodNamed B.named
  have hP : va_P G.1 vwCl [(h0, .inr (4, [.ref qr, .ref qp, .ref qd, .ref qc, .ref qf, .ref qt, .ref sp, .ref sc, .int (nI n)])), (qt, .inl (G.2.2.1, 201, .inr (.inl ft))), (sp, .inr (3, [.ref q1, .int (nI n)])), (q1, .inl (G.2.1, 200, .inl f1)), (ro, .inr (1, [.long tk, .ref k1, .ref k2])), (k1, .inr (3, [.ref e1, .int (nI mq)])), (e1, .inl (G.2.1, N2, .inl g1))] s.heap := hP
  have hl := lv_entry ([.ref h0, .ref ro]) (n := 4) (Nat.le_of_ble_eq_true rfl)
  rw [lg_entry_eq]
  generalize (lg_sl ([.ref h0, .ref ro]) ++ List.replicate (4 - (lg_sl ([.ref h0, .ref ro])).length) Slot.unset).toArray = ls at hl ⊢
  have hl : lv_has ls 4 [(0, .ref h0), (1, .ref ro)] := hl
  refine lv_aload_n hx hb dX4_orderAgainst_0 rfl (lv_at hl 0 rfl) ?_
  have hPc := hP.sub (ws' := [(h0, .inr (4, [.ref qr, .ref qp, .ref qd, .ref qc, .ref qf, .ref qt, .ref sp, .ref sc, .int (nI n)])), (qt, .inl (G.2.2.1, 201, .inr (.inl ft)))]) [0, 1] rfl
  refine vp_callSl (va_runV (As := []) (rest := []) ⟨hx, hb, hml, hown, htb⟩ (qc_T_total l G h0 qr qp qd qc qf qt sp sc n ft ta hn hta) (cwV 0 htb (qW_V qw_251 qw_252 qw_253 qw_15 qw_254) rfl rfl rfl (by decide +kernel) ⟨Nat.le_of_ble_eq_true rfl, Nat.le_of_ble_eq_true rfl⟩) (qk_pv (ci := 4) (q0 := 0) hK hPc hN rfl rfl) rfl rfl hl.1 rfl (lv_room (Nat.le_of_ble_eq_true rfl)) dX4_orderAgainst_1 ⟨Nat.le_of_ble_eq_true rfl, Nat.le_of_ble_eq_true rfl⟩).run (fun r_1 e_1 => ?_)
  have e_1 := e_1.symm
  subst e_1
  refine lv_aload_n hx hb dX4_orderAgainst_4 rfl (lv_at hl 1 rfl) ?_
  refine va_getN (D := G.1) (ci := 1) (v := .long tk) (C := "GradeRows$Row") (T := TX1) (N := 3) hx hb htb inX1 hown hK hP 4 rfl rfl 0 (by decide) (va_Nw.use rfl (hN.1 _ qw_382)) (fun _ h9 => h9) rfl dX4_orderAgainst_5 ?_
  have hPc := hP.sub (ws' := []) [] rfl
  refine vp_callSi (va_runSN (As := [.long ta, .long tk]) (rest := []) ⟨hx, hb, hml, hown, htb⟩ (qc_order l G ta tk) ⟨va_cnB 2 htb (qW_good qw_408) rfl rfl rfl (hN.1 _ qw_406) (htb _ qw_13) (by decide +kernel) ⟨Nat.le_of_ble_eq_true rfl, Nat.le_of_ble_eq_true rfl⟩, htb _ qw_407, trivial⟩ (qk_ps hK hPc hN) rfl rfl hl.1 rfl (lv_room (Nat.le_of_ble_eq_true rfl)) dX4_orderAgainst_8 ⟨Nat.le_of_ble_eq_true rfl, Nat.le_of_ble_eq_true rfl⟩).run (fun r_8 e_8 => ?_)
  refine lv_istore_n (lv' := [(2, .int r_8), (0, .ref h0), (1, .ref ro)]) hx hb dX4_orderAgainst_11 rfl hl (by decide) rfl (fun ls hl => ?_)
  refine lv_iload_n hx hb dX4_orderAgainst_12 rfl (lv_at hl 0 rfl) ?_
  refine lv_if_eq (tgt := 18) hx hb dX4_orderAgainst_13 (by decide) (fun c1 => ?_) (fun c1 => ?_)
  · refine lv_aload_n hx hb dX4_orderAgainst_18 rfl (lv_at hl 1 rfl) ?_
    refine va_get (D := G.1) (ci := 4) (v := .int (nI n)) (C := "GradeRows$Steps") (T := TX4) (N := 9) hx hb htb inX4 hown hK hP 0 rfl rfl 8 (by decide) (htb _ qw_83) (fun _ h9 => h9) rfl dX4_orderAgainst_19 ?_
    refine lv_i2l (v := lN n) hx hb dX4_orderAgainst_22 (nI_l (by omega)) ?_
    refine lv_aload_n hx hb dX4_orderAgainst_23 rfl (lv_at hl 2 rfl) ?_
    refine va_getN (D := G.1) (ci := 1) (v := .ref k1) (C := "GradeRows$Row") (T := TX1) (N := 3) hx hb htb inX1 hown hK hP 4 rfl rfl 1 (by decide) (va_Nw.use rfl (hN.1 _ qw_384)) (fun _ h9 => h9) rfl dX4_orderAgainst_24 ?_
    have hPc := hP.sub (ws' := [(k1, .inr (3, [.ref e1, .int (nI mq)]))]) [5] rfl
    refine vp_callSi (va_runV (As := []) (rest := [.long (lN n)]) ⟨hx, hb, hml, hown, htb⟩ (qc_S_size l G k1 e1 mq) (cwV 0 htb (qW_V qw_409 qw_410 qw_411 qw_16 qw_412) rfl rfl rfl (by decide +kernel) ⟨Nat.le_of_ble_eq_true rfl, Nat.le_of_ble_eq_true rfl⟩) (qk_pv (ci := 3) (q0 := 0) hK hPc hN rfl rfl) rfl rfl hl.1 rfl (lv_room (Nat.le_of_ble_eq_true rfl)) dX4_orderAgainst_27 ⟨Nat.le_of_ble_eq_true rfl, Nat.le_of_ble_eq_true rfl⟩).run (fun r_27 e_27 => ?_)
    have e_27 := e_27.symm
    subst e_27
    refine lv_i2l (v := lN mq) hx hb dX4_orderAgainst_30 (nI_l (by omega)) ?_
    have hPc := hP.sub (ws' := []) [] rfl
    refine vp_callSi (va_runSN (As := [.long (lN n), .long (lN mq)]) (rest := []) ⟨hx, hb, hml, hown, htb⟩ (qc_order l G (lN n) (lN mq)) ⟨va_cnB 2 htb (qW_good qw_408) rfl rfl rfl (hN.1 _ qw_406) (htb _ qw_13) (by decide +kernel) ⟨Nat.le_of_ble_eq_true rfl, Nat.le_of_ble_eq_true rfl⟩, htb _ qw_407, trivial⟩ (qk_ps hK hPc hN) rfl rfl hl.1 rfl (lv_room (Nat.le_of_ble_eq_true rfl)) dX4_orderAgainst_31 ⟨Nat.le_of_ble_eq_true rfl, Nat.le_of_ble_eq_true rfl⟩).run (fun r_31 e_31 => ?_)
    refine lv_istore_n (lv' := [(3, .int r_31), (2, .int r_8), (0, .ref h0), (1, .ref ro)]) hx hb dX4_orderAgainst_34 rfl hl (by decide) rfl (fun ls hl => ?_)
    refine lv_iload_n hx hb dX4_orderAgainst_35 rfl (lv_at hl 0 rfl) ?_
    refine lv_if_eq (tgt := 43) hx hb dX4_orderAgainst_36 (by decide) (fun c2 => ?_) (fun c2 => ?_)
    · have hnm : n = mq := (lN_eq (by omega) (by omega)).mp (qm_sg_0 e_31 c2)
      subst hnm
      refine lv_aload_n hx hb dX4_orderAgainst_43 rfl (lv_at hl 2 rfl) ?_
      refine va_get (D := G.1) (ci := 4) (v := .ref sp) (C := "GradeRows$Steps") (T := TX4) (N := 9) hx hb htb inX4 hown hK hP 0 rfl rfl 6 (by decide) (htb _ qw_81) (fun _ h9 => h9) rfl dX4_orderAgainst_44 ?_
      refine lv_aload_n hx hb dX4_orderAgainst_47 rfl (lv_at hl 3 rfl) ?_
      refine va_getN (D := G.1) (ci := 1) (v := .ref k1) (C := "GradeRows$Row") (T := TX1) (N := 3) hx hb htb inX1 hown hK hP 4 rfl rfl 1 (by decide) (va_Nw.use rfl (hN.1 _ qw_384)) (fun _ h9 => h9) rfl dX4_orderAgainst_48 ?_
      have hPc := hP.sub (ws' := [(sp, .inr (3, [.ref q1, .int (nI n)])), (q1, .inl (G.2.1, 200, .inl f1)), (k1, .inr (3, [.ref e1, .int (nI n)])), (e1, .inl (G.2.1, N2, .inl g1))]) [2, 3, 5, 6] rfl
      refine vp_callSi (va_runV (As := [.ref k1]) (rest := []) ⟨hx, hb, hml, hown, htb⟩ (qc_S_order l G sp q1 n 200 f1 k1 e1 N2 g1 hn hq2.1 (by omega) hq2.2 hf hg) (cwV 1 htb (qW_V qw_413 qw_414 qw_415 qw_16 qw_416) rfl rfl rfl (by decide +kernel) ⟨Nat.le_of_ble_eq_true rfl, Nat.le_of_ble_eq_true rfl⟩) (qk_pv (ci := 3) (q0 := 0) hK hPc hN rfl rfl) rfl rfl hl.1 rfl (lv_room (Nat.le_of_ble_eq_true rfl)) dX4_orderAgainst_51 ⟨Nat.le_of_ble_eq_true rfl, Nat.le_of_ble_eq_true rfl⟩).run (fun r_51 e_51 => ?_)
      exact W.iret (v := r_51) hx hb hr (fun t9 ht9 hW9 => ⟨_, rfl, ⟨_, e_8, Or.inr ⟨c1, _, e_31, Or.inr ⟨c2, e_51⟩⟩⟩, ht9⟩) (fun q h => absurd h List.not_mem_nil) dX4_orderAgainst_54
    · refine lv_iload_n hx hb dX4_orderAgainst_39 rfl (lv_at hl 0 rfl) ?_
      refine lv_goto (tgt := 54) hx hb dX4_orderAgainst_40 (by decide) ?_
      exact W.iret (v := r_31) hx hb hr (fun t9 ht9 hW9 => ⟨_, rfl, ⟨_, e_8, Or.inr ⟨c1, _, e_31, Or.inl ⟨c2, rfl⟩⟩⟩, ht9⟩) (fun q h => absurd h List.not_mem_nil) dX4_orderAgainst_54
  · refine lv_iload_n hx hb dX4_orderAgainst_16 rfl (lv_at hl 0 rfl) ?_
    exact W.iret (v := r_8) hx hb hr (fun t9 ht9 hW9 => ⟨_, rfl, ⟨_, e_8, Or.inl ⟨c1, rfl⟩⟩, ht9⟩) (fun q h => absurd h List.not_mem_nil) dX4_orderAgainst_17

set_option maxHeartbeats 4000000 in
set_option maxRecDepth 100000 in
/-- Steps.hasStepsOf -/
theorem qc_T_same (l : Launch) (G : qG) (h0 : Nat) (qr : Nat) (qp : Nat) (qd : Nat) (qc : Nat) (qf : Nat) (qt : Nat) (sp : Nat) (sc : Nat) (n : Nat) (q2 : Nat) (f2 : Nat → Int32) (ro : Nat) (tk : Int64) (k1 : Nat) (k2 : Nat) (mq : Nat) (e1 : Nat) (g1 : Nat → Int32) (N2 : Nat) (e2 : Nat) (g2 : Nat → Int32) (hn : n ≤ 200) (hm : mq ≤ 200) (hq2 : mq ≤ N2 ∧ N2 ≤ 200) (hf : qm_srt f2 n) (hg : qm_srt g2 mq) : Met l yX4_hasStepsOf wsX4_hasStepsOf ({ frames := 2, cells := 0, slots := 0, locals := 47 } : Room) (va_Pc [.ref h0, .ref ro] (qk_pre G vwCl [(h0, .inr (4, [.ref qr, .ref qp, .ref qd, .ref qc, .ref qf, .ref qt, .ref sp, .ref sc, .int (nI n)])), (sc, .inr (3, [.ref q2, .int (nI n)])), (q2, .inl (G.2.1, 200, .inl f2)), (ro, .inr (1, [.long tk, .ref k1, .ref k2])), (k2, .inr (3, [.ref e2, .int (nI mq)])), (e2, .inl (G.2.1, N2, .inl g2))])) (vp_Si (fun r => (n = mq ∧ (∀ v, qm_cnt f2 n v = qm_cnt g2 n v) ∧ r = nI 1) ∨ (¬ (n = mq ∧ ∀ v, qm_cnt f2 n v = qm_cnt g2 n v) ∧ r = nI 0))) 0 0 (fun _ => False) := by
  refine Met.ofW (cc := cX4_hasStepsOf) (maxL := 2) (ret := (some .boolean)) (by decide) rfl ?_
  intro p e s m args below meth c s₁ B hml hv
  obtain ⟨rfl, hP, hK, hN⟩ := hv
  have hx := B.exec
  have hb := B.bytes
  have hr := B.returns
  have hlocks := B.notSynchronized
  have hts := atoms_spec (ws := wsX4_hasStepsOf) B.pre
  have htb := fun (w : Cond) (h : w ∈ qTb) => hts w (List.mem_cons_of_mem _ h)
  have hown : s.vm.findClass "GradeRows$Steps" = some m.cls := findClass_of_methodNamed B.named
  have hP : va_P G.1 vwCl [(h0, .inr (4, [.ref qr, .ref qp, .ref qd, .ref qc, .ref qf, .ref qt, .ref sp, .ref sc, .int (nI n)])), (sc, .inr (3, [.ref q2, .int (nI n)])), (q2, .inl (G.2.1, 200, .inl f2)), (ro, .inr (1, [.long tk, .ref k1, .ref k2])), (k2, .inr (3, [.ref e2, .int (nI mq)])), (e2, .inl (G.2.1, N2, .inl g2))] s.heap := hP
  have hl := lv_entry ([.ref h0, .ref ro]) (n := 2) (Nat.le_of_ble_eq_true rfl)
  rw [lg_entry_eq]
  generalize (lg_sl ([.ref h0, .ref ro]) ++ List.replicate (2 - (lg_sl ([.ref h0, .ref ro])).length) Slot.unset).toArray = ls at hl ⊢
  have hl : lv_has ls 2 [(0, .ref h0), (1, .ref ro)] := hl
  refine lv_aload_n hx hb dX4_hasStepsOf_0 rfl (lv_at hl 0 rfl) ?_
  refine va_get (D := G.1) (ci := 4) (v := .ref sc) (C := "GradeRows$Steps") (T := TX4) (N := 9) hx hb htb inX4 hown hK hP 0 rfl rfl 7 (by decide) (htb _ qw_82) (fun _ h9 => h9) rfl dX4_hasStepsOf_1 ?_
  have hPc := hP.sub (ws' := [(sc, .inr (3, [.ref q2, .int (nI n)]))]) [1] rfl
  refine vp_callSi (va_runV (As := []) (rest := []) ⟨hx, hb, hml, hown, htb⟩ (qc_S_size l G sc q2 n) (cwV 0 htb (qW_V qw_409 qw_410 qw_411 qw_16 qw_412) rfl rfl rfl (by decide +kernel) ⟨Nat.le_of_ble_eq_true rfl, Nat.le_of_ble_eq_true rfl⟩) (qk_pv (ci := 3) (q0 := 0) hK hPc hN rfl rfl) rfl rfl hl.1 rfl (lv_room (Nat.le_of_ble_eq_true rfl)) dX4_hasStepsOf_4 ⟨Nat.le_of_ble_eq_true rfl, Nat.le_of_ble_eq_true rfl⟩).run (fun r_4 e_4 => ?_)
  have e_4 := e_4.symm
  subst e_4
  refine lv_aload_n hx hb dX4_hasStepsOf_7 rfl (lv_at hl 1 rfl) ?_
  refine va_getN (D := G.1) (ci := 1) (v := .ref k2) (C := "GradeRows$Row") (T := TX1) (N := 3) hx hb htb inX1 hown hK hP 3 rfl rfl 2 (by decide) (va_Nw.use rfl (hN.1 _ qw_386)) (fun _ h9 => h9) rfl dX4_hasStepsOf_8 ?_
  have hPc := hP.sub (ws' := [(k2, .inr (3, [.ref e2, .int (nI mq)]))]) [4] rfl
  refine vp_callSi (va_runV (As := []) (rest := [.int (nI n)]) ⟨hx, hb, hml, hown, htb⟩ (qc_S_size l G k2 e2 mq) (cwV 0 htb (qW_V qw_409 qw_410 qw_411 qw_16 qw_412) rfl rfl rfl (by decide +kernel) ⟨Nat.le_of_ble_eq_true rfl, Nat.le_of_ble_eq_true rfl⟩) (qk_pv (ci := 3) (q0 := 0) hK hPc hN rfl rfl) rfl rfl hl.1 rfl (lv_room (Nat.le_of_ble_eq_true rfl)) dX4_hasStepsOf_11 ⟨Nat.le_of_ble_eq_true rfl, Nat.le_of_ble_eq_true rfl⟩).run (fun r_11 e_11 => ?_)
  have e_11 := e_11.symm
  subst e_11
  refine lv_icmp_ne (tgt := 35) hx hb dX4_hasStepsOf_14 (by decide) (fun c1 => ?_) (fun c1 => ?_)
  · have c1 : ¬ (n = mq) := fun q9 => c1 ((nI_eq (by omega) (by omega)).mpr q9)
    refine lv_iconst (v := nI 0) hx hb dX4_hasStepsOf_35 (by decide) ?_
    exact W.zret (v := nI 0) (ty := .boolean) hx hb hr (by decide) (fun t9 ht9 hW9 => ⟨_, rfl, Or.inr ⟨fun h => c1 h.1, rfl⟩, ht9⟩) (fun q h => absurd h List.not_mem_nil) dX4_hasStepsOf_36
  · have c1 : n = mq := (nI_eq (by omega) (by omega)).mp c1
    subst c1
    refine lv_aload_n hx hb dX4_hasStepsOf_17 rfl (lv_at hl 0 rfl) ?_
    refine va_get (D := G.1) (ci := 4) (v := .ref sc) (C := "GradeRows$Steps") (T := TX4) (N := 9) hx hb htb inX4 hown hK hP 0 rfl rfl 7 (by decide) (htb _ qw_82) (fun _ h9 => h9) rfl dX4_hasStepsOf_18 ?_
    refine lv_aload_n hx hb dX4_hasStepsOf_21 rfl (lv_at hl 1 rfl) ?_
    refine va_getN (D := G.1) (ci := 1) (v := .ref k2) (C := "GradeRows$Row") (T := TX1) (N := 3) hx hb htb inX1 hown hK hP 3 rfl rfl 2 (by decide) (va_Nw.use rfl (hN.1 _ qw_386)) (fun _ h9 => h9) rfl dX4_hasStepsOf_22 ?_
    have hPc := hP.sub (ws' := [(sc, .inr (3, [.ref q2, .int (nI n)])), (q2, .inl (G.2.1, 200, .inl f2)), (k2, .inr (3, [.ref e2, .int (nI n)])), (e2, .inl (G.2.1, N2, .inl g2))]) [1, 2, 4, 5] rfl
    refine vp_callSi (va_runV (As := [.ref k2]) (rest := []) ⟨hx, hb, hml, hown, htb⟩ (qc_S_order l G sc q2 n 200 f2 k2 e2 N2 g2 hn hq2.1 (by omega) hq2.2 hf hg) (cwV 1 htb (qW_V qw_413 qw_414 qw_415 qw_16 qw_416) rfl rfl rfl (by decide +kernel) ⟨Nat.le_of_ble_eq_true rfl, Nat.le_of_ble_eq_true rfl⟩) (qk_pv (ci := 3) (q0 := 0) hK hPc hN rfl rfl) rfl rfl hl.1 rfl (lv_room (Nat.le_of_ble_eq_true rfl)) dX4_hasStepsOf_25 ⟨Nat.le_of_ble_eq_true rfl, Nat.le_of_ble_eq_true rfl⟩).run (fun r_25 e_25 => ?_)
    refine lv_if_ne (tgt := 35) hx hb dX4_hasStepsOf_28 (by decide) (fun c2 => ?_) (fun c2 => ?_)
    · refine lv_iconst (v := nI 0) hx hb dX4_hasStepsOf_35 (by decide) ?_
      exact W.zret (v := nI 0) (ty := .boolean) hx hb hr (by decide) (fun t9 ht9 hW9 => ⟨_, rfl, Or.inr ⟨fun h => c2 (qm_ord_z e_25 h.2), rfl⟩, ht9⟩) (fun q h => absurd h List.not_mem_nil) dX4_hasStepsOf_36
    · refine lv_iconst (v := nI 1) hx hb dX4_hasStepsOf_31 (by decide) ?_
      refine lv_goto (tgt := 36) hx hb dX4_hasStepsOf_32 (by decide) ?_
      exact W.zret (v := nI 1) (ty := .boolean) hx hb hr (by decide) (fun t9 ht9 hW9 => ⟨_, rfl, Or.inl ⟨rfl, qm_ord_0 e_25 c2, rfl⟩, ht9⟩) (fun q h => absurd h List.not_mem_nil) dX4_hasStepsOf_36
