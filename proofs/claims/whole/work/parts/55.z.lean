-- qc_at
set_option maxHeartbeats 4000000 in
set_option maxRecDepth 100000 in
/-- keptAt -/
theorem qc_X_at (l : Launch) (G : qG) (h0 : Nat) (aR : Nat) (aS : Nat) (aC : Nat) (aK : Nat) (kn : Nat) (cur : Nat) (fk : Nat → Option Nat) (k : Nat) (ro : Nat) (hk : k < kn) (hkn : kn ≤ 10) (hv : fk k = some ro) : Met l yX5_keptAt wsX5_keptAt ({ frames := 0, cells := 0, slots := 0, locals := 0 } : Room) (va_Pc [.ref h0, .int (nI k)] (qk_pre G vwCl [(h0, .inr (5, [.ref aR, .ref aS, .ref aC, .ref aK, .int (nI kn), .int (nI cur)])), (aK, .inl (G.2.2.2.2, 10, .inr (.inr (.inr (.inr fk)))))])) (va_Sr (fun k => k = ro) Value.ref) 0 0 (fun _ => False) := by
  refine Met.ofW (cc := cX5_keptAt) (maxL := 2) (ret := (some (.object "GradeRows$Row"))) (by decide) rfl ?_
  intro p e s m args below meth c s₁ B hml hv
  obtain ⟨rfl, hP, hK, hN⟩ := hv
  have hx := B.exec
  have hb := B.bytes
  have hr := B.returns
  have hlocks := B.notSynchronized
  have hts := atoms_spec (ws := wsX5_keptAt) B.pre
  have htb := fun (w : Cond) (h : w ∈ qTb) => hts w (List.mem_cons_of_mem _ h)
  have hown : s.vm.findClass "GradeRows" = some m.cls := findClass_of_methodNamed B.named
  have hP : va_P G.1 vwCl [(h0, .inr (5, [.ref aR, .ref aS, .ref aC, .ref aK, .int (nI kn), .int (nI cur)])), (aK, .inl (G.2.2.2.2, 10, .inr (.inr (.inr (.inr fk)))))] s.heap := hP
  have hl := lv_entry ([.ref h0, .int (nI k)]) (n := 2) (Nat.le_of_ble_eq_true rfl)
  rw [lg_entry_eq]
  generalize (lg_sl ([.ref h0, .int (nI k)]) ++ List.replicate (2 - (lg_sl ([.ref h0, .int (nI k)])).length) Slot.unset).toArray = ls at hl ⊢
  have hl : lv_has ls 2 [(0, .ref h0), (1, .int (nI k))] := hl
  refine lv_iload_n hx hb dX5_keptAt_0 rfl (lv_at hl 1 rfl) ?_
  refine lv_if_lt (tgt := 21) hx hb dX5_keptAt_1 (by decide) (fun c_1 => ?_) (fun c_1 => ?_)
  · have c_1 : k < 0 := (z0lt (by omega)).mp c_1
    exfalso; omega
  · have c_1 : ¬ (k < 0) := fun q9 => c_1 ((z0lt (by omega)).mpr q9)
    refine lv_iload_n hx hb dX5_keptAt_4 rfl (lv_at hl 1 rfl) ?_
    refine lv_aload_n hx hb dX5_keptAt_5 rfl (lv_at hl 0 rfl) ?_
    refine va_get (D := G.1) (ci := 5) (v := .int (nI kn)) (C := "GradeRows") (T := TX5) (N := 6) hx hb htb inX5 hown hK hP 0 rfl rfl 4 (by decide) (htb _ qw_125) (fun _ h9 => h9) rfl dX5_keptAt_6 ?_
    refine lv_icmp_ge (tgt := 21) hx hb dX5_keptAt_9 (by decide) (fun c_2 => ?_) (fun c_2 => ?_)
    · have c_2 : kn ≤ k := (nI_leI (by omega) (by omega)).mp c_2
      exfalso; omega
    · have c_2 : ¬ (kn ≤ k) := fun q9 => c_2 ((nI_leI (by omega) (by omega)).mpr q9)
      refine lv_aload_n hx hb dX5_keptAt_12 rfl (lv_at hl 0 rfl) ?_
      refine va_get (D := G.1) (ci := 5) (v := .ref aK) (C := "GradeRows") (T := TX5) (N := 6) hx hb htb inX5 hown hK hP 0 rfl rfl 3 (by decide) (htb _ qw_124) (fun _ h9 => h9) rfl dX5_keptAt_13 ?_
      refine lv_iload_n hx hb dX5_keptAt_16 rfl (lv_at hl 1 rfl) ?_
      refine qk_aald hx hb hK hP 1 3 rfl rfl (i := k) (by omega) (by omega) (v := ro) hv dX5_keptAt_17 ?_
      refine lv_goto (tgt := 22) hx hb dX5_keptAt_18 (by decide) ?_
      exact W.aret (v := .ref ro) hx hb hr (Or.inl ⟨_, rfl⟩) (Or.inr ⟨_, rfl⟩) (fun t9 ht9 hW9 => ⟨ro, rfl, rfl, ht9⟩) (fun q h => absurd h List.not_mem_nil) dX5_keptAt_22

set_option maxHeartbeats 4000000 in
set_option maxRecDepth 100000 in
/-- keptAt, no such row -/
theorem qc_X_at0 (l : Launch) (G : qG) (h0 : Nat) (aR : Nat) (aS : Nat) (aC : Nat) (aK : Nat) (kn : Nat) (cur : Nat) (fk : Nat → Option Nat) (k : Int32) (hk : ¬ (¬ k < 0 ∧ k < nI kn)) : Met l yX5_keptAt wsX5_keptAt ({ frames := 0, cells := 0, slots := 0, locals := 0 } : Room) (va_Pc [.ref h0, .int k] (qk_pre G vwCl [(h0, .inr (5, [.ref aR, .ref aS, .ref aC, .ref aK, .int (nI kn), .int (nI cur)])), (aK, .inl (G.2.2.2.2, 10, .inr (.inr (.inr (.inr fk)))))])) (va_Sr (fun _ => True) (fun _ => Value.null)) 0 0 (fun _ => False) := by
  refine Met.ofW (cc := cX5_keptAt) (maxL := 2) (ret := (some (.object "GradeRows$Row"))) (by decide) rfl ?_
  intro p e s m args below meth c s₁ B hml hv
  obtain ⟨rfl, hP, hK, hN⟩ := hv
  have hx := B.exec
  have hb := B.bytes
  have hr := B.returns
  have hlocks := B.notSynchronized
  have hts := atoms_spec (ws := wsX5_keptAt) B.pre
  have htb := fun (w : Cond) (h : w ∈ qTb) => hts w (List.mem_cons_of_mem _ h)
  have hown : s.vm.findClass "GradeRows" = some m.cls := findClass_of_methodNamed B.named
  have hP : va_P G.1 vwCl [(h0, .inr (5, [.ref aR, .ref aS, .ref aC, .ref aK, .int (nI kn), .int (nI cur)])), (aK, .inl (G.2.2.2.2, 10, .inr (.inr (.inr (.inr fk)))))] s.heap := hP
  have hl := lv_entry ([.ref h0, .int k]) (n := 2) (Nat.le_of_ble_eq_true rfl)
  rw [lg_entry_eq]
  generalize (lg_sl ([.ref h0, .int k]) ++ List.replicate (2 - (lg_sl ([.ref h0, .int k])).length) Slot.unset).toArray = ls at hl ⊢
  have hl : lv_has ls 2 [(0, .ref h0), (1, .int k)] := hl
  refine lv_iload_n hx hb dX5_keptAt_0 rfl (lv_at hl 1 rfl) ?_
  refine lv_if_lt (tgt := 21) hx hb dX5_keptAt_1 (by decide) (fun c1 => ?_) (fun c1 => ?_)
  · refine lv_null hx hb dX5_keptAt_21 ?_
    exact W.aret (v := .null) hx hb hr (Or.inl ⟨_, rfl⟩) (Or.inl rfl) (fun t9 ht9 hW9 => ⟨0, rfl, trivial, ht9⟩) (fun q h => absurd h List.not_mem_nil) dX5_keptAt_22
  · refine lv_iload_n hx hb dX5_keptAt_4 rfl (lv_at hl 1 rfl) ?_
    refine lv_aload_n hx hb dX5_keptAt_5 rfl (lv_at hl 0 rfl) ?_
    refine va_get (D := G.1) (ci := 5) (v := .int (nI kn)) (C := "GradeRows") (T := TX5) (N := 6) hx hb htb inX5 hown hK hP 0 rfl rfl 4 (by decide) (htb _ qw_125) (fun _ h9 => h9) rfl dX5_keptAt_6 ?_
    refine lv_icmp_ge (tgt := 21) hx hb dX5_keptAt_9 (by decide) (fun c2 => ?_) (fun c2 => ?_)
    · refine lv_null hx hb dX5_keptAt_21 ?_
      exact W.aret (v := .null) hx hb hr (Or.inl ⟨_, rfl⟩) (Or.inl rfl) (fun t9 ht9 hW9 => ⟨0, rfl, trivial, ht9⟩) (fun q h => absurd h List.not_mem_nil) dX5_keptAt_22
    · exact absurd ⟨c1, qm_nle c2⟩ hk

-- qc_keep
set_option maxHeartbeats 4000000 in
set_option maxRecDepth 100000 in
/-- the class: keep -/
theorem qc_X_keep (l : Launch) (G : qG) (h0 : Nat) (fk : Nat → Option Nat) (nr : Nat) (w : Nat → Nat) (x : Nat → Nat) (sz0 : Nat → Nat) (st : Nat → Nat → qS) (nc : Nat) (lo : Nat → Int64) (hi : Nat → Int64) (kn : Nat) (cur : Nat) (ws0 : va_W) (sz : Nat) (hok : qm_ok nr w x sz0 st nc lo hi kn cur) (hrep : qX_rp G h0 fk nr w x sz0 st nc lo hi kn cur ws0) : Met l yX5_keep wsX5_keep ({ frames := 4, cells := 5, slots := 407, locals := 92 } : Room) (va_Pc [.ref h0] (qk_prw G vwCl ws0 sz)) (va_Qi (fun (r : Int32) (u : qZ × (Nat → Option Nat) × va_W × va_W) => r = (qo_keep (qZt nr w x sz0 st nc lo hi kn cur)).1 ∧ u.1 = (qo_keep (qZt nr w x sz0 st nc lo hi kn cur)).2 ∧ qX_rep G h0 u.2.1 u.1 u.2.2.1 ∧ ∀ kw, qK_rp G fk w x sz0 st kn kw → qK_rep G u.2.1 u.1 (kw ++ u.2.2.2)) (qk_B G vwCl (va_A ws0 sz) (fun (u : qZ × (Nat → Option Nat) × va_W × va_W) => (u.2.2.1 ++ u.2.2.2))) (va_A ws0 sz)) 5 407 (va_A ws0 sz) := by
  obtain ⟨aR, aS, aC, aK, qw, qx, qn, qs, qr, qp, qd, qc, qf, qt, sp, sc, q1, q2, ql, qh, fw, fx, fu, fr, fp, fd, fc, ff, f1, f2, fs, ft, rfl, hXR, hXS⟩ := hrep
  obtain ⟨hR, hkn, hrows, hcur, hnc, hcl⟩ := hok
  obtain ⟨hw, hus⟩ := hXR
  obtain ⟨hst, htt, ho1, ho2⟩ := hXS
  have hr40 := hR.1
  have h10 := hrows 10 (Or.inr rfl)
  have hz10 := h10.1
  have ho10 := h10.2
  have hcb : ∀ i, i < sz0 10 → qm_cost w x (st 10) i ≤ 130000 := fun i hi => qm_cost_le hR (ho10 i hi)
  refine Met.ofW (cc := cX5_keep) (maxL := 1) (ret := (some .int)) (by decide) rfl ?_
  intro p e s m args below meth c s₁ B hml hv
  obtain ⟨rfl, hsz, hP, hK, hD0, hN⟩ := hv
  have hx := B.exec
  have hb := B.bytes
  have hr := B.returns
  have hlocks := B.notSynchronized
  have hts := atoms_spec (ws := wsX5_keep) B.pre
  have htb := fun (w : Cond) (h : w ∈ qTb) => hts w (List.mem_cons_of_mem _ h)
  have hown : s.vm.findClass "GradeRows" = some m.cls := findClass_of_methodNamed B.named
  subst hsz
  have hD := hD0.self (sz := s.heap.size)
  generalize hAe : va_A [(h0, .inr (5, [.ref aR, .ref aS, .ref aC, .ref aK, .int (nI kn), .int (nI cur)])), (aR, .inr (2, [.ref qw, .ref qx, .ref qn, .ref qs, .int (nI nr)])), (qw, .inl (G.2.1, 40, .inl fw)), (qx, .inl (G.2.1, 40, .inl fx)), (qn, .inl (G.2.1, 40, .inl fu)), (qs, .inl (G.2.2.1, 40, .inr (.inl fs))), (aS, .inr (4, [.ref qr, .ref qp, .ref qd, .ref qc, .ref qf, .ref qt, .ref sp, .ref sc, .int (nI (sz0 10))])), (qr, .inl (G.2.1, 200, .inl fr)), (qp, .inl (G.2.1, 200, .inl fp)), (qd, .inl (G.2.1, 200, .inl fd)), (qc, .inl (G.2.1, 200, .inl fc)), (qf, .inl (G.2.2.2.1, 200, .inl ff)), (qt, .inl (G.2.2.1, 201, .inr (.inl ft))), (sp, .inr (3, [.ref q1, .int (nI (sz0 10))])), (q1, .inl (G.2.1, 200, .inl f1)), (sc, .inr (3, [.ref q2, .int (nI (sz0 10))])), (q2, .inl (G.2.1, 200, .inl f2)), (aC, .inr (0, [.ref ql, .ref qh, .int (nI nc)])), (ql, .inl (G.2.2.1, 20, .inr (.inl lo))), (qh, .inl (G.2.2.1, 20, .inr (.inl hi))), (aK, .inl (G.2.2.2.2, 10, .inr (.inr (.inr (.inr fk)))))] s.heap.size = A at hD ⊢
  have hA : ∀ q : Nat, s.heap.size ≤ q → A q := fun q h => by rw [← hAe]; exact Or.inr h
  have hS : va_S A s.heap s.heap [] := va_S.rf
  have hP : va_P G.1 vwCl [(h0, .inr (5, [.ref aR, .ref aS, .ref aC, .ref aK, .int (nI kn), .int (nI cur)])), (aR, .inr (2, [.ref qw, .ref qx, .ref qn, .ref qs, .int (nI nr)])), (qw, .inl (G.2.1, 40, .inl fw)), (qx, .inl (G.2.1, 40, .inl fx)), (qn, .inl (G.2.1, 40, .inl fu)), (qs, .inl (G.2.2.1, 40, .inr (.inl fs))), (aS, .inr (4, [.ref qr, .ref qp, .ref qd, .ref qc, .ref qf, .ref qt, .ref sp, .ref sc, .int (nI (sz0 10))])), (qr, .inl (G.2.1, 200, .inl fr)), (qp, .inl (G.2.1, 200, .inl fp)), (qd, .inl (G.2.1, 200, .inl fd)), (qc, .inl (G.2.1, 200, .inl fc)), (qf, .inl (G.2.2.2.1, 200, .inl ff)), (qt, .inl (G.2.2.1, 201, .inr (.inl ft))), (sp, .inr (3, [.ref q1, .int (nI (sz0 10))])), (q1, .inl (G.2.1, 200, .inl f1)), (sc, .inr (3, [.ref q2, .int (nI (sz0 10))])), (q2, .inl (G.2.1, 200, .inl f2)), (aC, .inr (0, [.ref ql, .ref qh, .int (nI nc)])), (ql, .inl (G.2.2.1, 20, .inr (.inl lo))), (qh, .inl (G.2.2.1, 20, .inr (.inl hi))), (aK, .inl (G.2.2.2.2, 10, .inr (.inr (.inr (.inr fk)))))] s.heap := hP
  have hl := lv_entry ([.ref h0]) (n := 1) (Nat.le_of_ble_eq_true rfl)
  rw [lg_entry_eq]
  generalize (lg_sl ([.ref h0]) ++ List.replicate (1 - (lg_sl ([.ref h0])).length) Slot.unset).toArray = ls at hl ⊢
  have hl : lv_has ls 1 [(0, .ref h0)] := hl
  refine lv_aload_n hx hb dX5_keep_0 rfl (lv_at hl 0 rfl) ?_
  refine va_get (D := G.1) (ci := 5) (v := .int (nI kn)) (C := "GradeRows") (T := TX5) (N := 6) hx hb htb inX5 hown hK hP 0 rfl rfl 4 (by decide) (htb _ qw_125) (fun _ h9 => h9) rfl dX5_keep_1 ?_
  refine lv_bipush (v := nI 10) hx hb dX5_keep_4 (by decide) ?_
  refine lv_icmp_lt (tgt := 11) hx hb dX5_keep_6 (by decide) (fun c1 => ?_) (fun c1 => ?_)
  · have c1 : kn < 10 := (nI_ltI (by omega) (by omega)).mp c1
    refine lv_aload_n hx hb dX5_keep_11 rfl (lv_at hl 0 rfl) ?_
    refine va_get (D := G.1) (ci := 5) (v := .ref aK) (C := "GradeRows") (T := TX5) (N := 6) hx hb htb inX5 hown hK hP 0 rfl rfl 3 (by decide) (htb _ qw_124) (fun _ h9 => h9) rfl dX5_keep_12 ?_
    refine lv_aload_n hx hb dX5_keep_15 rfl (lv_at hl 0 rfl) ?_
    refine va_get (D := G.1) (ci := 5) (v := .int (nI kn)) (C := "GradeRows") (T := TX5) (N := 6) hx hb htb inX5 hown hK hP 0 rfl rfl 4 (by decide) (htb _ qw_125) (fun _ h9 => h9) rfl dX5_keep_16 ?_
    refine lv_aload_n hx hb dX5_keep_19 rfl (lv_at hl 0 rfl) ?_
    refine va_get (D := G.1) (ci := 5) (v := .ref aS) (C := "GradeRows") (T := TX5) (N := 6) hx hb htb inX5 hown hK hP 0 rfl rfl 1 (by decide) (htb _ qw_122) (fun _ h9 => h9) rfl dX5_keep_20 ?_
    have hPc := hP.sub (ws' := [(aS, .inr (4, [.ref qr, .ref qp, .ref qd, .ref qc, .ref qf, .ref qt, .ref sp, .ref sc, .int (nI (sz0 10))])), (qt, .inl (G.2.2.1, 201, .inr (.inl ft))), (sp, .inr (3, [.ref q1, .int (nI (sz0 10))])), (q1, .inl (G.2.1, 200, .inl f1)), (sc, .inr (3, [.ref q2, .int (nI (sz0 10))])), (q2, .inl (G.2.1, 200, .inl f2))]) [6, 12, 13, 14, 15, 16] rfl
    have hDc := hD.sub (ws' := [(aS, .inr (4, [.ref qr, .ref qp, .ref qd, .ref qc, .ref qf, .ref qt, .ref sp, .ref sc, .int (nI (sz0 10))])), (qt, .inl (G.2.2.1, 201, .inr (.inl ft))), (sp, .inr (3, [.ref q1, .int (nI (sz0 10))])), (q1, .inl (G.2.1, 200, .inl f1)), (sc, .inr (3, [.ref q2, .int (nI (sz0 10))])), (q2, .inl (G.2.1, 200, .inl f2))]) [6, 12, 13, 14, 15, 16] (by decide) rfl
    have hFc := va_free (wc := [(aS, .inr (4, [.ref qr, .ref qp, .ref qd, .ref qc, .ref qf, .ref qt, .ref sp, .ref sc, .int (nI (sz0 10))])), (qt, .inl (G.2.2.1, 201, .inr (.inl ft))), (sp, .inr (3, [.ref q1, .int (nI (sz0 10))])), (q1, .inl (G.2.1, 200, .inl f1)), (sc, .inr (3, [.ref q2, .int (nI (sz0 10))])), (q2, .inl (G.2.1, 200, .inl f2))]) hD hS hA [6, 12, 13, 14, 15, 16] rfl
    refine va_callr (va_runV (As := []) (rest := [.int (nI kn), .ref aK]) ⟨hx, hb, hml, hown, htb⟩ (qc_T_row l G aS qr qp qd qc qf qt sp sc (sz0 10) ft (lN (qm_sum (qm_cost w x (st 10)) (sz0 10))) q1 f1 q2 f2 s.heap.size hz10 (htt _ (Nat.le_refl _))) (cwV 0 htb (qW_V qw_351 qw_352 qw_353 qw_15 qw_354) rfl rfl rfl (by decide +kernel) ⟨Nat.le_of_ble_eq_true rfl, Nat.le_of_ble_eq_true rfl⟩) (qk_pvw (ci := 4) (q0 := 0) hK hPc hN hDc rfl rfl) rfl rfl hl.1 rfl (lv_room (Nat.le_of_ble_eq_true rfl)) dX5_keep_23 ⟨Nat.le_of_ble_eq_true rfl, Nat.le_of_ble_eq_true rfl⟩) hS (fun q _ h => hFc q h) hFc (fun u_23 ra_23 t9 H1 locs ht9 hvm w_23 hB hz1 hk1 hS => ?_)
    obtain ⟨v_23, rfl⟩ : ∃ z, z = u_23 := ⟨_, rfl⟩
    obtain ⟨hP1, hK1, hD1⟩ := hB
    rw [ht9] at hP1
    obtain ⟨hP, hD⟩ := va_join (wr := [(h0, .inr (5, [.ref aR, .ref aS, .ref aC, .ref aK, .int (nI kn), .int (nI cur)])), (aR, .inr (2, [.ref qw, .ref qx, .ref qn, .ref qs, .int (nI nr)])), (qw, .inl (G.2.1, 40, .inl fw)), (qx, .inl (G.2.1, 40, .inl fx)), (qn, .inl (G.2.1, 40, .inl fu)), (qs, .inl (G.2.2.1, 40, .inr (.inl fs))), (qr, .inl (G.2.1, 200, .inl fr)), (qp, .inl (G.2.1, 200, .inl fp)), (qd, .inl (G.2.1, 200, .inl fd)), (qc, .inl (G.2.1, 200, .inl fc)), (qf, .inl (G.2.2.2.1, 200, .inl ff)), (aC, .inr (0, [.ref ql, .ref qh, .int (nI nc)])), (ql, .inl (G.2.2.1, 20, .inr (.inl lo))), (qh, .inl (G.2.2.1, 20, .inr (.inl hi))), (aK, .inl (G.2.2.2.2, 10, .inr (.inr (.inr (.inr fk)))))]) (w1 := [(aS, .inr (4, [.ref qr, .ref qp, .ref qd, .ref qc, .ref qf, .ref qt, .ref sp, .ref sc, .int (nI (sz0 10))])), (qt, .inl (G.2.2.1, 201, .inr (.inl ft))), (sp, .inr (3, [.ref q1, .int (nI (sz0 10))])), (q1, .inl (G.2.1, 200, .inl f1)), (sc, .inr (3, [.ref q2, .int (nI (sz0 10))])), (q2, .inl (G.2.1, 200, .inl f2)), (ra_23, .inr (1, [.long (lN (qm_sum (qm_cost w x (st 10)) (sz0 10))), .ref v_23.1, .ref v_23.2.2.1])), (v_23.1, .inr (3, [.ref v_23.2.1, .int (nI (sz0 10))])), (v_23.2.1, .inl (G.2.1, (sz0 10), .inl v_23.2.2.2.2.1)), (v_23.2.2.1, .inr (3, [.ref v_23.2.2.2.1, .int (nI (sz0 10))])), (v_23.2.2.2.1, .inl (G.2.1, (sz0 10), .inl v_23.2.2.2.2.2))]) hP hD [6, 12, 13, 14, 15, 16] [0, 1, 2, 3, 4, 5, 7, 8, 9, 10, 11, 17, 18, 19, 20] rfl rfl (by decide) (by decide) hk1 hFc hP1 hD1
    generalize H1 = H at hP hS ⊢
    have hP : va_P G.1 vwCl [(h0, .inr (5, [.ref aR, .ref aS, .ref aC, .ref aK, .int (nI kn), .int (nI cur)])), (aR, .inr (2, [.ref qw, .ref qx, .ref qn, .ref qs, .int (nI nr)])), (qw, .inl (G.2.1, 40, .inl fw)), (qx, .inl (G.2.1, 40, .inl fx)), (qn, .inl (G.2.1, 40, .inl fu)), (qs, .inl (G.2.2.1, 40, .inr (.inl fs))), (qr, .inl (G.2.1, 200, .inl fr)), (qp, .inl (G.2.1, 200, .inl fp)), (qd, .inl (G.2.1, 200, .inl fd)), (qc, .inl (G.2.1, 200, .inl fc)), (qf, .inl (G.2.2.2.1, 200, .inl ff)), (aC, .inr (0, [.ref ql, .ref qh, .int (nI nc)])), (ql, .inl (G.2.2.1, 20, .inr (.inl lo))), (qh, .inl (G.2.2.1, 20, .inr (.inl hi))), (aK, .inl (G.2.2.2.2, 10, .inr (.inr (.inr (.inr fk))))), (aS, .inr (4, [.ref qr, .ref qp, .ref qd, .ref qc, .ref qf, .ref qt, .ref sp, .ref sc, .int (nI (sz0 10))])), (qt, .inl (G.2.2.1, 201, .inr (.inl ft))), (sp, .inr (3, [.ref q1, .int (nI (sz0 10))])), (q1, .inl (G.2.1, 200, .inl f1)), (sc, .inr (3, [.ref q2, .int (nI (sz0 10))])), (q2, .inl (G.2.1, 200, .inl f2)), (ra_23, .inr (1, [.long (lN (qm_sum (qm_cost w x (st 10)) (sz0 10))), .ref v_23.1, .ref v_23.2.2.1])), (v_23.1, .inr (3, [.ref v_23.2.1, .int (nI (sz0 10))])), (v_23.2.1, .inl (G.2.1, (sz0 10), .inl v_23.2.2.2.2.1)), (v_23.2.2.1, .inr (3, [.ref v_23.2.2.2.1, .int (nI (sz0 10))])), (v_23.2.2.2.1, .inl (G.2.1, (sz0 10), .inl v_23.2.2.2.2.2))] H := hP
    have hD : va_D A [(h0, .inr (5, [.ref aR, .ref aS, .ref aC, .ref aK, .int (nI kn), .int (nI cur)])), (aR, .inr (2, [.ref qw, .ref qx, .ref qn, .ref qs, .int (nI nr)])), (qw, .inl (G.2.1, 40, .inl fw)), (qx, .inl (G.2.1, 40, .inl fx)), (qn, .inl (G.2.1, 40, .inl fu)), (qs, .inl (G.2.2.1, 40, .inr (.inl fs))), (qr, .inl (G.2.1, 200, .inl fr)), (qp, .inl (G.2.1, 200, .inl fp)), (qd, .inl (G.2.1, 200, .inl fd)), (qc, .inl (G.2.1, 200, .inl fc)), (qf, .inl (G.2.2.2.1, 200, .inl ff)), (aC, .inr (0, [.ref ql, .ref qh, .int (nI nc)])), (ql, .inl (G.2.2.1, 20, .inr (.inl lo))), (qh, .inl (G.2.2.1, 20, .inr (.inl hi))), (aK, .inl (G.2.2.2.2, 10, .inr (.inr (.inr (.inr fk))))), (aS, .inr (4, [.ref qr, .ref qp, .ref qd, .ref qc, .ref qf, .ref qt, .ref sp, .ref sc, .int (nI (sz0 10))])), (qt, .inl (G.2.2.1, 201, .inr (.inl ft))), (sp, .inr (3, [.ref q1, .int (nI (sz0 10))])), (q1, .inl (G.2.1, 200, .inl f1)), (sc, .inr (3, [.ref q2, .int (nI (sz0 10))])), (q2, .inl (G.2.1, 200, .inl f2)), (ra_23, .inr (1, [.long (lN (qm_sum (qm_cost w x (st 10)) (sz0 10))), .ref v_23.1, .ref v_23.2.2.1])), (v_23.1, .inr (3, [.ref v_23.2.1, .int (nI (sz0 10))])), (v_23.2.1, .inl (G.2.1, (sz0 10), .inl v_23.2.2.2.2.1)), (v_23.2.2.1, .inr (3, [.ref v_23.2.2.2.1, .int (nI (sz0 10))])), (v_23.2.2.2.1, .inl (G.2.1, (sz0 10), .inl v_23.2.2.2.2.2))] := hD
    refine W.widen (k := 5) (n := 407) (Nat.le_of_ble_eq_true rfl) (Nat.le_of_ble_eq_true rfl) ?_
    refine qk_aast hx hb hK hP hD hS 14 3 21 1 rfl rfl rfl rfl (i := kn) (by omega) (by omega) dX5_keep_26 (fun H locs hP hD hS => ?_)
    have hP : va_P G.1 vwCl [(h0, .inr (5, [.ref aR, .ref aS, .ref aC, .ref aK, .int (nI kn), .int (nI cur)])), (aR, .inr (2, [.ref qw, .ref qx, .ref qn, .ref qs, .int (nI nr)])), (qw, .inl (G.2.1, 40, .inl fw)), (qx, .inl (G.2.1, 40, .inl fx)), (qn, .inl (G.2.1, 40, .inl fu)), (qs, .inl (G.2.2.1, 40, .inr (.inl fs))), (qr, .inl (G.2.1, 200, .inl fr)), (qp, .inl (G.2.1, 200, .inl fp)), (qd, .inl (G.2.1, 200, .inl fd)), (qc, .inl (G.2.1, 200, .inl fc)), (qf, .inl (G.2.2.2.1, 200, .inl ff)), (aC, .inr (0, [.ref ql, .ref qh, .int (nI nc)])), (ql, .inl (G.2.2.1, 20, .inr (.inl lo))), (qh, .inl (G.2.2.1, 20, .inr (.inl hi))), (aK, .inl (G.2.2.2.2, 10, .inr (.inr (.inr (.inr (va_up fk kn (some ra_23))))))), (aS, .inr (4, [.ref qr, .ref qp, .ref qd, .ref qc, .ref qf, .ref qt, .ref sp, .ref sc, .int (nI (sz0 10))])), (qt, .inl (G.2.2.1, 201, .inr (.inl ft))), (sp, .inr (3, [.ref q1, .int (nI (sz0 10))])), (q1, .inl (G.2.1, 200, .inl f1)), (sc, .inr (3, [.ref q2, .int (nI (sz0 10))])), (q2, .inl (G.2.1, 200, .inl f2)), (ra_23, .inr (1, [.long (lN (qm_sum (qm_cost w x (st 10)) (sz0 10))), .ref v_23.1, .ref v_23.2.2.1])), (v_23.1, .inr (3, [.ref v_23.2.1, .int (nI (sz0 10))])), (v_23.2.1, .inl (G.2.1, (sz0 10), .inl v_23.2.2.2.2.1)), (v_23.2.2.1, .inr (3, [.ref v_23.2.2.2.1, .int (nI (sz0 10))])), (v_23.2.2.2.1, .inl (G.2.1, (sz0 10), .inl v_23.2.2.2.2.2))] H := hP
    have hD : va_D A [(h0, .inr (5, [.ref aR, .ref aS, .ref aC, .ref aK, .int (nI kn), .int (nI cur)])), (aR, .inr (2, [.ref qw, .ref qx, .ref qn, .ref qs, .int (nI nr)])), (qw, .inl (G.2.1, 40, .inl fw)), (qx, .inl (G.2.1, 40, .inl fx)), (qn, .inl (G.2.1, 40, .inl fu)), (qs, .inl (G.2.2.1, 40, .inr (.inl fs))), (qr, .inl (G.2.1, 200, .inl fr)), (qp, .inl (G.2.1, 200, .inl fp)), (qd, .inl (G.2.1, 200, .inl fd)), (qc, .inl (G.2.1, 200, .inl fc)), (qf, .inl (G.2.2.2.1, 200, .inl ff)), (aC, .inr (0, [.ref ql, .ref qh, .int (nI nc)])), (ql, .inl (G.2.2.1, 20, .inr (.inl lo))), (qh, .inl (G.2.2.1, 20, .inr (.inl hi))), (aK, .inl (G.2.2.2.2, 10, .inr (.inr (.inr (.inr (va_up fk kn (some ra_23))))))), (aS, .inr (4, [.ref qr, .ref qp, .ref qd, .ref qc, .ref qf, .ref qt, .ref sp, .ref sc, .int (nI (sz0 10))])), (qt, .inl (G.2.2.1, 201, .inr (.inl ft))), (sp, .inr (3, [.ref q1, .int (nI (sz0 10))])), (q1, .inl (G.2.1, 200, .inl f1)), (sc, .inr (3, [.ref q2, .int (nI (sz0 10))])), (q2, .inl (G.2.1, 200, .inl f2)), (ra_23, .inr (1, [.long (lN (qm_sum (qm_cost w x (st 10)) (sz0 10))), .ref v_23.1, .ref v_23.2.2.1])), (v_23.1, .inr (3, [.ref v_23.2.1, .int (nI (sz0 10))])), (v_23.2.1, .inl (G.2.1, (sz0 10), .inl v_23.2.2.2.2.1)), (v_23.2.2.1, .inr (3, [.ref v_23.2.2.2.1, .int (nI (sz0 10))])), (v_23.2.2.2.1, .inl (G.2.1, (sz0 10), .inl v_23.2.2.2.2.2))] := hD
    refine lv_aload_n hx hb dX5_keep_27 rfl (lv_at hl 0 rfl) ?_
    refine lv_dup hx hb dX5_keep_28 rfl ?_
    refine va_get (D := G.1) (ci := 5) (v := .int (nI kn)) (C := "GradeRows") (T := TX5) (N := 6) hx hb htb inX5 hown hK hP 0 rfl rfl 4 (by decide) (htb _ qw_125) (fun _ h9 => h9) rfl dX5_keep_29 ?_
    refine lv_iconst (v := nI 1) hx hb dX5_keep_32 (by decide) ?_
    refine lv_iadd hx hb dX5_keep_33 ?_
    refine qk_topi (t := nI (kn + 1)) ((nI_add _ _).trans rfl) ?_
    refine va_put (D := G.1) (ci := 5) (v := .int (nI (kn + 1))) (ty := .int) (C := "GradeRows") (T := TX5) (N := 6) hx hb htb inX5 tyX5 tyX5_ok nmX5 hown hK hP hD hS 0 rfl rfl 4 (by decide) (htb _ qw_125) (fun _ h9 => h9) rfl (by decide +kernel) rfl rfl (Nat.le_of_ble_eq_true rfl) dX5_keep_34 (fun H locs hP hD hS => ?_)
    have hP : va_P G.1 vwCl [(h0, .inr (5, [.ref aR, .ref aS, .ref aC, .ref aK, .int (nI (kn + 1)), .int (nI cur)])), (aR, .inr (2, [.ref qw, .ref qx, .ref qn, .ref qs, .int (nI nr)])), (qw, .inl (G.2.1, 40, .inl fw)), (qx, .inl (G.2.1, 40, .inl fx)), (qn, .inl (G.2.1, 40, .inl fu)), (qs, .inl (G.2.2.1, 40, .inr (.inl fs))), (qr, .inl (G.2.1, 200, .inl fr)), (qp, .inl (G.2.1, 200, .inl fp)), (qd, .inl (G.2.1, 200, .inl fd)), (qc, .inl (G.2.1, 200, .inl fc)), (qf, .inl (G.2.2.2.1, 200, .inl ff)), (aC, .inr (0, [.ref ql, .ref qh, .int (nI nc)])), (ql, .inl (G.2.2.1, 20, .inr (.inl lo))), (qh, .inl (G.2.2.1, 20, .inr (.inl hi))), (aK, .inl (G.2.2.2.2, 10, .inr (.inr (.inr (.inr (va_up fk kn (some ra_23))))))), (aS, .inr (4, [.ref qr, .ref qp, .ref qd, .ref qc, .ref qf, .ref qt, .ref sp, .ref sc, .int (nI (sz0 10))])), (qt, .inl (G.2.2.1, 201, .inr (.inl ft))), (sp, .inr (3, [.ref q1, .int (nI (sz0 10))])), (q1, .inl (G.2.1, 200, .inl f1)), (sc, .inr (3, [.ref q2, .int (nI (sz0 10))])), (q2, .inl (G.2.1, 200, .inl f2)), (ra_23, .inr (1, [.long (lN (qm_sum (qm_cost w x (st 10)) (sz0 10))), .ref v_23.1, .ref v_23.2.2.1])), (v_23.1, .inr (3, [.ref v_23.2.1, .int (nI (sz0 10))])), (v_23.2.1, .inl (G.2.1, (sz0 10), .inl v_23.2.2.2.2.1)), (v_23.2.2.1, .inr (3, [.ref v_23.2.2.2.1, .int (nI (sz0 10))])), (v_23.2.2.2.1, .inl (G.2.1, (sz0 10), .inl v_23.2.2.2.2.2))] H := hP
    have hD : va_D A [(h0, .inr (5, [.ref aR, .ref aS, .ref aC, .ref aK, .int (nI (kn + 1)), .int (nI cur)])), (aR, .inr (2, [.ref qw, .ref qx, .ref qn, .ref qs, .int (nI nr)])), (qw, .inl (G.2.1, 40, .inl fw)), (qx, .inl (G.2.1, 40, .inl fx)), (qn, .inl (G.2.1, 40, .inl fu)), (qs, .inl (G.2.2.1, 40, .inr (.inl fs))), (qr, .inl (G.2.1, 200, .inl fr)), (qp, .inl (G.2.1, 200, .inl fp)), (qd, .inl (G.2.1, 200, .inl fd)), (qc, .inl (G.2.1, 200, .inl fc)), (qf, .inl (G.2.2.2.1, 200, .inl ff)), (aC, .inr (0, [.ref ql, .ref qh, .int (nI nc)])), (ql, .inl (G.2.2.1, 20, .inr (.inl lo))), (qh, .inl (G.2.2.1, 20, .inr (.inl hi))), (aK, .inl (G.2.2.2.2, 10, .inr (.inr (.inr (.inr (va_up fk kn (some ra_23))))))), (aS, .inr (4, [.ref qr, .ref qp, .ref qd, .ref qc, .ref qf, .ref qt, .ref sp, .ref sc, .int (nI (sz0 10))])), (qt, .inl (G.2.2.1, 201, .inr (.inl ft))), (sp, .inr (3, [.ref q1, .int (nI (sz0 10))])), (q1, .inl (G.2.1, 200, .inl f1)), (sc, .inr (3, [.ref q2, .int (nI (sz0 10))])), (q2, .inl (G.2.1, 200, .inl f2)), (ra_23, .inr (1, [.long (lN (qm_sum (qm_cost w x (st 10)) (sz0 10))), .ref v_23.1, .ref v_23.2.2.1])), (v_23.1, .inr (3, [.ref v_23.2.1, .int (nI (sz0 10))])), (v_23.2.1, .inl (G.2.1, (sz0 10), .inl v_23.2.2.2.2.1)), (v_23.2.2.1, .inr (3, [.ref v_23.2.2.2.1, .int (nI (sz0 10))])), (v_23.2.2.2.1, .inl (G.2.1, (sz0 10), .inl v_23.2.2.2.2.2))] := hD
    refine lv_aload_n hx hb dX5_keep_37 rfl (lv_at hl 0 rfl) ?_
    refine va_get (D := G.1) (ci := 5) (v := .int (nI (kn + 1))) (C := "GradeRows") (T := TX5) (N := 6) hx hb htb inX5 hown hK hP 0 rfl rfl 4 (by decide) (htb _ qw_125) (fun _ h9 => h9) rfl dX5_keep_38 ?_
    refine lv_iconst (v := nI 1) hx hb dX5_keep_41 (by decide) ?_
    refine lv_isub hx hb dX5_keep_42 ?_
    refine qk_topi (t := nI kn) (nI_pred kn) ?_
    have hc : (qZt nr w x sz0 st nc lo hi kn cur).2.2.2.1 < 10 := c1
    have h10n : ¬ 10 = kn := by omega
    have hnew : qX_rep G h0 (va_up fk kn (some ra_23)) (qo_keep (qZt nr w x sz0 st nc lo hi kn cur)).2 [(h0, .inr (5, [.ref aR, .ref aS, .ref aC, .ref aK, .int (nI (kn + 1)), .int (nI cur)])), (aR, .inr (2, [.ref qw, .ref qx, .ref qn, .ref qs, .int (nI nr)])), (qw, .inl (G.2.1, 40, .inl fw)), (qx, .inl (G.2.1, 40, .inl fx)), (qn, .inl (G.2.1, 40, .inl fu)), (qs, .inl (G.2.2.1, 40, .inr (.inl fs))), (aS, .inr (4, [.ref qr, .ref qp, .ref qd, .ref qc, .ref qf, .ref qt, .ref sp, .ref sc, .int (nI (sz0 10))])), (qr, .inl (G.2.1, 200, .inl fr)), (qp, .inl (G.2.1, 200, .inl fp)), (qd, .inl (G.2.1, 200, .inl fd)), (qc, .inl (G.2.1, 200, .inl fc)), (qf, .inl (G.2.2.2.1, 200, .inl ff)), (qt, .inl (G.2.2.1, 201, .inr (.inl ft))), (sp, .inr (3, [.ref q1, .int (nI (sz0 10))])), (q1, .inl (G.2.1, 200, .inl f1)), (sc, .inr (3, [.ref q2, .int (nI (sz0 10))])), (q2, .inl (G.2.1, 200, .inl f2)), (aC, .inr (0, [.ref ql, .ref qh, .int (nI nc)])), (ql, .inl (G.2.2.1, 20, .inr (.inl lo))), (qh, .inl (G.2.2.1, 20, .inr (.inl hi))), (aK, .inl (G.2.2.2.2, 10, .inr (.inr (.inr (.inr (va_up fk kn (some ra_23)))))))] := by
      unfold qo_keep; rw [if_pos hc]
      show qX_rp G h0 (va_up fk kn (some ra_23)) nr w x (qu sz0 kn (sz0 10)) (qu st kn (st 10)) nc lo hi (kn + 1) cur _
      unfold qX_rp; rw [qu_n _ _ h10n, qu_n _ _ h10n]
      exact ⟨aR, aS, aC, aK, qw, qx, qn, qs, qr, qp, qd, qc, qf, qt, sp, sc, q1, q2, ql, qh, fw, fx, fu, fr, fp, fd, fc, ff, f1, f2, fs, ft, rfl, ⟨hw, hus⟩, ⟨hst, htt, ho1, ho2⟩⟩
    have hans : nI kn = (qo_keep (qZt nr w x sz0 st nc lo hi kn cur)).1 := by unfold qo_keep; (rw [if_pos hc]) <;> rfl
    have hkk : ∀ kw, qK_rp G fk w x sz0 st kn kw → qK_rep G (va_up fk kn (some ra_23)) (qo_keep (qZt nr w x sz0 st nc lo hi kn cur)).2 (kw ++ [(ra_23, .inr (1, [.long (lN (qm_sum (qm_cost w x (st 10)) (sz0 10))), .ref v_23.1, .ref v_23.2.2.1])), (v_23.1, .inr (3, [.ref v_23.2.1, .int (nI (sz0 10))])), (v_23.2.1, .inl (G.2.1, (sz0 10), .inl v_23.2.2.2.2.1)), (v_23.2.2.1, .inr (3, [.ref v_23.2.2.2.1, .int (nI (sz0 10))])), (v_23.2.2.2.1, .inl (G.2.1, (sz0 10), .inl v_23.2.2.2.2.2))]) := fun kw hkr => by
      unfold qo_keep; rw [if_pos hc]
      exact qK_add hkr (qm_of_f ho1 w_23.1) (qm_of_f ho2 w_23.2)
    have hP9 := hP.sub (ws' := [(h0, .inr (5, [.ref aR, .ref aS, .ref aC, .ref aK, .int (nI (kn + 1)), .int (nI cur)])), (aR, .inr (2, [.ref qw, .ref qx, .ref qn, .ref qs, .int (nI nr)])), (qw, .inl (G.2.1, 40, .inl fw)), (qx, .inl (G.2.1, 40, .inl fx)), (qn, .inl (G.2.1, 40, .inl fu)), (qs, .inl (G.2.2.1, 40, .inr (.inl fs))), (aS, .inr (4, [.ref qr, .ref qp, .ref qd, .ref qc, .ref qf, .ref qt, .ref sp, .ref sc, .int (nI (sz0 10))])), (qr, .inl (G.2.1, 200, .inl fr)), (qp, .inl (G.2.1, 200, .inl fp)), (qd, .inl (G.2.1, 200, .inl fd)), (qc, .inl (G.2.1, 200, .inl fc)), (qf, .inl (G.2.2.2.1, 200, .inl ff)), (qt, .inl (G.2.2.1, 201, .inr (.inl ft))), (sp, .inr (3, [.ref q1, .int (nI (sz0 10))])), (q1, .inl (G.2.1, 200, .inl f1)), (sc, .inr (3, [.ref q2, .int (nI (sz0 10))])), (q2, .inl (G.2.1, 200, .inl f2)), (aC, .inr (0, [.ref ql, .ref qh, .int (nI nc)])), (ql, .inl (G.2.2.1, 20, .inr (.inl lo))), (qh, .inl (G.2.2.1, 20, .inr (.inl hi))), (aK, .inl (G.2.2.2.2, 10, .inr (.inr (.inr (.inr (va_up fk kn (some ra_23))))))), (ra_23, .inr (1, [.long (lN (qm_sum (qm_cost w x (st 10)) (sz0 10))), .ref v_23.1, .ref v_23.2.2.1])), (v_23.1, .inr (3, [.ref v_23.2.1, .int (nI (sz0 10))])), (v_23.2.1, .inl (G.2.1, (sz0 10), .inl v_23.2.2.2.2.1)), (v_23.2.2.1, .inr (3, [.ref v_23.2.2.2.1, .int (nI (sz0 10))])), (v_23.2.2.2.1, .inl (G.2.1, (sz0 10), .inl v_23.2.2.2.2.2))]) [0, 1, 2, 3, 4, 5, 15, 6, 7, 8, 9, 10, 16, 17, 18, 19, 20, 11, 12, 13, 14, 21, 22, 23, 24, 25] rfl
    have hD9 := hD.sub (ws' := [(h0, .inr (5, [.ref aR, .ref aS, .ref aC, .ref aK, .int (nI (kn + 1)), .int (nI cur)])), (aR, .inr (2, [.ref qw, .ref qx, .ref qn, .ref qs, .int (nI nr)])), (qw, .inl (G.2.1, 40, .inl fw)), (qx, .inl (G.2.1, 40, .inl fx)), (qn, .inl (G.2.1, 40, .inl fu)), (qs, .inl (G.2.2.1, 40, .inr (.inl fs))), (aS, .inr (4, [.ref qr, .ref qp, .ref qd, .ref qc, .ref qf, .ref qt, .ref sp, .ref sc, .int (nI (sz0 10))])), (qr, .inl (G.2.1, 200, .inl fr)), (qp, .inl (G.2.1, 200, .inl fp)), (qd, .inl (G.2.1, 200, .inl fd)), (qc, .inl (G.2.1, 200, .inl fc)), (qf, .inl (G.2.2.2.1, 200, .inl ff)), (qt, .inl (G.2.2.1, 201, .inr (.inl ft))), (sp, .inr (3, [.ref q1, .int (nI (sz0 10))])), (q1, .inl (G.2.1, 200, .inl f1)), (sc, .inr (3, [.ref q2, .int (nI (sz0 10))])), (q2, .inl (G.2.1, 200, .inl f2)), (aC, .inr (0, [.ref ql, .ref qh, .int (nI nc)])), (ql, .inl (G.2.2.1, 20, .inr (.inl lo))), (qh, .inl (G.2.2.1, 20, .inr (.inl hi))), (aK, .inl (G.2.2.2.2, 10, .inr (.inr (.inr (.inr (va_up fk kn (some ra_23))))))), (ra_23, .inr (1, [.long (lN (qm_sum (qm_cost w x (st 10)) (sz0 10))), .ref v_23.1, .ref v_23.2.2.1])), (v_23.1, .inr (3, [.ref v_23.2.1, .int (nI (sz0 10))])), (v_23.2.1, .inl (G.2.1, (sz0 10), .inl v_23.2.2.2.2.1)), (v_23.2.2.1, .inr (3, [.ref v_23.2.2.2.1, .int (nI (sz0 10))])), (v_23.2.2.2.1, .inl (G.2.1, (sz0 10), .inl v_23.2.2.2.2.2))]) [0, 1, 2, 3, 4, 5, 15, 6, 7, 8, 9, 10, 16, 17, 18, 19, 20, 11, 12, 13, 14, 21, 22, 23, 24, 25] (by decide) rfl
    exact W.iret (v := nI kn) hx hb hr (fun t9 ht9 hW9 => ⟨⟨_, ((qo_keep (qZt nr w x sz0 st nc lo hi kn cur)).2, va_up fk kn (some ra_23), [(h0, .inr (5, [.ref aR, .ref aS, .ref aC, .ref aK, .int (nI (kn + 1)), .int (nI cur)])), (aR, .inr (2, [.ref qw, .ref qx, .ref qn, .ref qs, .int (nI nr)])), (qw, .inl (G.2.1, 40, .inl fw)), (qx, .inl (G.2.1, 40, .inl fx)), (qn, .inl (G.2.1, 40, .inl fu)), (qs, .inl (G.2.2.1, 40, .inr (.inl fs))), (aS, .inr (4, [.ref qr, .ref qp, .ref qd, .ref qc, .ref qf, .ref qt, .ref sp, .ref sc, .int (nI (sz0 10))])), (qr, .inl (G.2.1, 200, .inl fr)), (qp, .inl (G.2.1, 200, .inl fp)), (qd, .inl (G.2.1, 200, .inl fd)), (qc, .inl (G.2.1, 200, .inl fc)), (qf, .inl (G.2.2.2.1, 200, .inl ff)), (qt, .inl (G.2.2.1, 201, .inr (.inl ft))), (sp, .inr (3, [.ref q1, .int (nI (sz0 10))])), (q1, .inl (G.2.1, 200, .inl f1)), (sc, .inr (3, [.ref q2, .int (nI (sz0 10))])), (q2, .inl (G.2.1, 200, .inl f2)), (aC, .inr (0, [.ref ql, .ref qh, .int (nI nc)])), (ql, .inl (G.2.2.1, 20, .inr (.inl lo))), (qh, .inl (G.2.2.1, 20, .inr (.inl hi))), (aK, .inl (G.2.2.2.2, 10, .inr (.inr (.inr (.inr (va_up fk kn (some ra_23)))))))], [(ra_23, .inr (1, [.long (lN (qm_sum (qm_cost w x (st 10)) (sz0 10))), .ref v_23.1, .ref v_23.2.2.1])), (v_23.1, .inr (3, [.ref v_23.2.1, .int (nI (sz0 10))])), (v_23.2.1, .inl (G.2.1, (sz0 10), .inl v_23.2.2.2.2.1)), (v_23.2.2.1, .inr (3, [.ref v_23.2.2.2.1, .int (nI (sz0 10))])), (v_23.2.2.2.1, .inl (G.2.1, (sz0 10), .inl v_23.2.2.2.2.2))]), rfl, ⟨hans, rfl, hnew, hkk⟩, by rw [ht9]; exact hP9, va_K.moved hW9.alike hK, hD9⟩, hS.F ht9⟩) hS.2.2 dX5_keep_43
  · have c1 : ¬ (kn < 10) := fun q9 => c1 ((nI_ltI (by omega) (by omega)).mpr q9)
    refine lv_iconst (v := (-1)) hx hb dX5_keep_9 (by decide) ?_
    have hne : qo_keep (qZt nr w x sz0 st nc lo hi kn cur) = (-1, qZt nr w x sz0 st nc lo hi kn cur) := if_neg c1
    have hP9 := hP.sub (ws' := [(h0, .inr (5, [.ref aR, .ref aS, .ref aC, .ref aK, .int (nI kn), .int (nI cur)])), (aR, .inr (2, [.ref qw, .ref qx, .ref qn, .ref qs, .int (nI nr)])), (qw, .inl (G.2.1, 40, .inl fw)), (qx, .inl (G.2.1, 40, .inl fx)), (qn, .inl (G.2.1, 40, .inl fu)), (qs, .inl (G.2.2.1, 40, .inr (.inl fs))), (aS, .inr (4, [.ref qr, .ref qp, .ref qd, .ref qc, .ref qf, .ref qt, .ref sp, .ref sc, .int (nI (sz0 10))])), (qr, .inl (G.2.1, 200, .inl fr)), (qp, .inl (G.2.1, 200, .inl fp)), (qd, .inl (G.2.1, 200, .inl fd)), (qc, .inl (G.2.1, 200, .inl fc)), (qf, .inl (G.2.2.2.1, 200, .inl ff)), (qt, .inl (G.2.2.1, 201, .inr (.inl ft))), (sp, .inr (3, [.ref q1, .int (nI (sz0 10))])), (q1, .inl (G.2.1, 200, .inl f1)), (sc, .inr (3, [.ref q2, .int (nI (sz0 10))])), (q2, .inl (G.2.1, 200, .inl f2)), (aC, .inr (0, [.ref ql, .ref qh, .int (nI nc)])), (ql, .inl (G.2.2.1, 20, .inr (.inl lo))), (qh, .inl (G.2.2.1, 20, .inr (.inl hi))), (aK, .inl (G.2.2.2.2, 10, .inr (.inr (.inr (.inr fk)))))]) [0, 1, 2, 3, 4, 5, 6, 7, 8, 9, 10, 11, 12, 13, 14, 15, 16, 17, 18, 19, 20] rfl
    have hD9 := hD.sub (ws' := [(h0, .inr (5, [.ref aR, .ref aS, .ref aC, .ref aK, .int (nI kn), .int (nI cur)])), (aR, .inr (2, [.ref qw, .ref qx, .ref qn, .ref qs, .int (nI nr)])), (qw, .inl (G.2.1, 40, .inl fw)), (qx, .inl (G.2.1, 40, .inl fx)), (qn, .inl (G.2.1, 40, .inl fu)), (qs, .inl (G.2.2.1, 40, .inr (.inl fs))), (aS, .inr (4, [.ref qr, .ref qp, .ref qd, .ref qc, .ref qf, .ref qt, .ref sp, .ref sc, .int (nI (sz0 10))])), (qr, .inl (G.2.1, 200, .inl fr)), (qp, .inl (G.2.1, 200, .inl fp)), (qd, .inl (G.2.1, 200, .inl fd)), (qc, .inl (G.2.1, 200, .inl fc)), (qf, .inl (G.2.2.2.1, 200, .inl ff)), (qt, .inl (G.2.2.1, 201, .inr (.inl ft))), (sp, .inr (3, [.ref q1, .int (nI (sz0 10))])), (q1, .inl (G.2.1, 200, .inl f1)), (sc, .inr (3, [.ref q2, .int (nI (sz0 10))])), (q2, .inl (G.2.1, 200, .inl f2)), (aC, .inr (0, [.ref ql, .ref qh, .int (nI nc)])), (ql, .inl (G.2.2.1, 20, .inr (.inl lo))), (qh, .inl (G.2.2.1, 20, .inr (.inl hi))), (aK, .inl (G.2.2.2.2, 10, .inr (.inr (.inr (.inr fk)))))]) [0, 1, 2, 3, 4, 5, 6, 7, 8, 9, 10, 11, 12, 13, 14, 15, 16, 17, 18, 19, 20] (by decide) rfl
    refine W.widen (k := 5) (n := 407) (by omega) (by omega) ?_
    exact W.iret (v := (-1)) hx hb hr (fun t9 ht9 hW9 => ⟨⟨_, (qZt nr w x sz0 st nc lo hi kn cur, fk, [(h0, .inr (5, [.ref aR, .ref aS, .ref aC, .ref aK, .int (nI kn), .int (nI cur)])), (aR, .inr (2, [.ref qw, .ref qx, .ref qn, .ref qs, .int (nI nr)])), (qw, .inl (G.2.1, 40, .inl fw)), (qx, .inl (G.2.1, 40, .inl fx)), (qn, .inl (G.2.1, 40, .inl fu)), (qs, .inl (G.2.2.1, 40, .inr (.inl fs))), (aS, .inr (4, [.ref qr, .ref qp, .ref qd, .ref qc, .ref qf, .ref qt, .ref sp, .ref sc, .int (nI (sz0 10))])), (qr, .inl (G.2.1, 200, .inl fr)), (qp, .inl (G.2.1, 200, .inl fp)), (qd, .inl (G.2.1, 200, .inl fd)), (qc, .inl (G.2.1, 200, .inl fc)), (qf, .inl (G.2.2.2.1, 200, .inl ff)), (qt, .inl (G.2.2.1, 201, .inr (.inl ft))), (sp, .inr (3, [.ref q1, .int (nI (sz0 10))])), (q1, .inl (G.2.1, 200, .inl f1)), (sc, .inr (3, [.ref q2, .int (nI (sz0 10))])), (q2, .inl (G.2.1, 200, .inl f2)), (aC, .inr (0, [.ref ql, .ref qh, .int (nI nc)])), (ql, .inl (G.2.2.1, 20, .inr (.inl lo))), (qh, .inl (G.2.2.1, 20, .inr (.inl hi))), (aK, .inl (G.2.2.2.2, 10, .inr (.inr (.inr (.inr fk)))))], []), rfl, ⟨(congrArg Prod.fst hne).symm, (congrArg Prod.snd hne).symm, ⟨aR, aS, aC, aK, qw, qx, qn, qs, qr, qp, qd, qc, qf, qt, sp, sc, q1, q2, ql, qh, fw, fx, fu, fr, fp, fd, fc, ff, f1, f2, fs, ft, rfl, ⟨hw, hus⟩, ⟨hst, htt, ho1, ho2⟩⟩, fun kw hkr => by rw [List.append_nil]; exact hkr⟩, by rw [ht9]; exact hP9, va_K.moved hW9.alike hK, hD9⟩, hS.F ht9⟩) hS.2.2 dX5_keep_10

-- qc_X_cmp
set_option maxHeartbeats 4000000 in
set_option maxRecDepth 100000 in
/-- the class: compare -/
theorem qc_X_cmp (l : Launch) (G : qG) (h0 : Nat) (fk : Nat → Option Nat) (nr : Nat) (w : Nat → Nat) (x : Nat → Nat) (sz0 : Nat → Nat) (st : Nat → Nat → qS) (nc : Nat) (lo : Nat → Int64) (hi : Nat → Int64) (kn : Nat) (cur : Nat) (ws0 : va_W) (kw : va_W) (k : Int32) (hok : qm_ok nr w x sz0 st nc lo hi kn cur) (hrep : qX_rp G h0 fk nr w x sz0 st nc lo hi kn cur ws0) (hkr : qK_rp G fk w x sz0 st kn kw) : Met l yX5_compare wsX5_compare ({ frames := 3, cells := 0, slots := 0, locals := 70 } : Room) (va_Pc [.ref h0, .int k] (qk_pre G vwCl (ws0 ++ kw))) (vp_Si (fun r => qo_cmp (qZt nr w x sz0 st nc lo hi kn cur) k r)) 0 0 (fun _ => False) := by
  obtain ⟨aR, aS, aC, aK, qw, qx, qn, qs, qr, qp, qd, qc, qf, qt, sp, sc, q1, q2, ql, qh, fw, fx, fu, fr, fp, fd, fc, ff, f1, f2, fs, ft, rfl, hXR, hXS⟩ := hrep
  obtain ⟨hR, hkn, hrows, hcur, hnc, hcl⟩ := hok
  obtain ⟨hw, hus⟩ := hXR
  obtain ⟨hst, htt, ho1, ho2⟩ := hXS
  have hr40 := hR.1
  have h10 := hrows 10 (Or.inr rfl)
  have hz10 := h10.1
  have ho10 := h10.2
  have hcb : ∀ i, i < sz0 10 → qm_cost w x (st 10) i ≤ 130000 := fun i hi => qm_cost_le hR (ho10 i hi)
  refine Met.ofW (cc := cX5_compare) (maxL := 3) (ret := (some .int)) (by decide) rfl ?_
  intro p e s m args below meth c s₁ B hml hv
  obtain ⟨rfl, hP, hK, hN⟩ := hv
  have hx := B.exec
  have hb := B.bytes
  have hr := B.returns
  have hlocks := B.notSynchronized
  have hts := atoms_spec (ws := wsX5_compare) B.pre
  have htb := fun (w : Cond) (h : w ∈ qTb) => hts w (List.mem_cons_of_mem _ h)
  have hown : s.vm.findClass "GradeRows" = some m.cls := findClass_of_methodNamed B.named
  have hPk : va_P G.1 vwCl kw s.heap := qk_mem hP (fun q h => List.mem_append_right _ h)
  have hP := qk_mem (wc := [(h0, .inr (5, [.ref aR, .ref aS, .ref aC, .ref aK, .int (nI kn), .int (nI cur)])), (aR, .inr (2, [.ref qw, .ref qx, .ref qn, .ref qs, .int (nI nr)])), (qw, .inl (G.2.1, 40, .inl fw)), (qx, .inl (G.2.1, 40, .inl fx)), (qn, .inl (G.2.1, 40, .inl fu)), (qs, .inl (G.2.2.1, 40, .inr (.inl fs))), (aS, .inr (4, [.ref qr, .ref qp, .ref qd, .ref qc, .ref qf, .ref qt, .ref sp, .ref sc, .int (nI (sz0 10))])), (qr, .inl (G.2.1, 200, .inl fr)), (qp, .inl (G.2.1, 200, .inl fp)), (qd, .inl (G.2.1, 200, .inl fd)), (qc, .inl (G.2.1, 200, .inl fc)), (qf, .inl (G.2.2.2.1, 200, .inl ff)), (qt, .inl (G.2.2.1, 201, .inr (.inl ft))), (sp, .inr (3, [.ref q1, .int (nI (sz0 10))])), (q1, .inl (G.2.1, 200, .inl f1)), (sc, .inr (3, [.ref q2, .int (nI (sz0 10))])), (q2, .inl (G.2.1, 200, .inl f2)), (aC, .inr (0, [.ref ql, .ref qh, .int (nI nc)])), (ql, .inl (G.2.2.1, 20, .inr (.inl lo))), (qh, .inl (G.2.2.1, 20, .inr (.inl hi))), (aK, .inl (G.2.2.2.2, 10, .inr (.inr (.inr (.inr fk)))))]) hP (fun q h => List.mem_append_left _ h)
  have hP : va_P G.1 vwCl [(h0, .inr (5, [.ref aR, .ref aS, .ref aC, .ref aK, .int (nI kn), .int (nI cur)])), (aR, .inr (2, [.ref qw, .ref qx, .ref qn, .ref qs, .int (nI nr)])), (qw, .inl (G.2.1, 40, .inl fw)), (qx, .inl (G.2.1, 40, .inl fx)), (qn, .inl (G.2.1, 40, .inl fu)), (qs, .inl (G.2.2.1, 40, .inr (.inl fs))), (aS, .inr (4, [.ref qr, .ref qp, .ref qd, .ref qc, .ref qf, .ref qt, .ref sp, .ref sc, .int (nI (sz0 10))])), (qr, .inl (G.2.1, 200, .inl fr)), (qp, .inl (G.2.1, 200, .inl fp)), (qd, .inl (G.2.1, 200, .inl fd)), (qc, .inl (G.2.1, 200, .inl fc)), (qf, .inl (G.2.2.2.1, 200, .inl ff)), (qt, .inl (G.2.2.1, 201, .inr (.inl ft))), (sp, .inr (3, [.ref q1, .int (nI (sz0 10))])), (q1, .inl (G.2.1, 200, .inl f1)), (sc, .inr (3, [.ref q2, .int (nI (sz0 10))])), (q2, .inl (G.2.1, 200, .inl f2)), (aC, .inr (0, [.ref ql, .ref qh, .int (nI nc)])), (ql, .inl (G.2.2.1, 20, .inr (.inl lo))), (qh, .inl (G.2.2.1, 20, .inr (.inl hi))), (aK, .inl (G.2.2.2.2, 10, .inr (.inr (.inr (.inr fk)))))] s.heap := hP
  have hl := lv_entry ([.ref h0, .int k]) (n := 3) (Nat.le_of_ble_eq_true rfl)
  rw [lg_entry_eq]
  generalize (lg_sl ([.ref h0, .int k]) ++ List.replicate (3 - (lg_sl ([.ref h0, .int k])).length) Slot.unset).toArray = ls at hl ⊢
  have hl : lv_has ls 3 [(0, .ref h0), (1, .int k)] := hl
  by_cases hq : ¬ k < 0 ∧ k < nI kn
  · obtain ⟨k1, hk1, rfl⟩ := qm_below hq (by omega)
    obtain ⟨ro, s1, a1, s2, a2, g1, g2, hro, hmem, hg1, hg2⟩ := hkr k1 hk1
    have hrk := hrows k1 (Or.inl hk1)
    have hzk := hrk.1
    have hPr := qk_mem hPk hmem
    have hP : va_P G.1 vwCl [(h0, .inr (5, [.ref aR, .ref aS, .ref aC, .ref aK, .int (nI kn), .int (nI cur)])), (aR, .inr (2, [.ref qw, .ref qx, .ref qn, .ref qs, .int (nI nr)])), (qw, .inl (G.2.1, 40, .inl fw)), (qx, .inl (G.2.1, 40, .inl fx)), (qn, .inl (G.2.1, 40, .inl fu)), (qs, .inl (G.2.2.1, 40, .inr (.inl fs))), (aS, .inr (4, [.ref qr, .ref qp, .ref qd, .ref qc, .ref qf, .ref qt, .ref sp, .ref sc, .int (nI (sz0 10))])), (qr, .inl (G.2.1, 200, .inl fr)), (qp, .inl (G.2.1, 200, .inl fp)), (qd, .inl (G.2.1, 200, .inl fd)), (qc, .inl (G.2.1, 200, .inl fc)), (qf, .inl (G.2.2.2.1, 200, .inl ff)), (qt, .inl (G.2.2.1, 201, .inr (.inl ft))), (sp, .inr (3, [.ref q1, .int (nI (sz0 10))])), (q1, .inl (G.2.1, 200, .inl f1)), (sc, .inr (3, [.ref q2, .int (nI (sz0 10))])), (q2, .inl (G.2.1, 200, .inl f2)), (aC, .inr (0, [.ref ql, .ref qh, .int (nI nc)])), (ql, .inl (G.2.2.1, 20, .inr (.inl lo))), (qh, .inl (G.2.2.1, 20, .inr (.inl hi))), (aK, .inl (G.2.2.2.2, 10, .inr (.inr (.inr (.inr fk))))), (ro, .inr (1, [.long (lN (qm_sum (qm_cost w x (st k1)) (sz0 k1))), .ref s1, .ref s2])), (s1, .inr (3, [.ref a1, .int (nI (sz0 k1))])), (a1, .inl (G.2.1, (sz0 k1), .inl g1)), (s2, .inr (3, [.ref a2, .int (nI (sz0 k1))])), (a2, .inl (G.2.1, (sz0 k1), .inl g2))] s.heap := hP.app hPr
    refine lv_aload_n hx hb dX5_compare_0 rfl (lv_at hl 0 rfl) ?_
    refine lv_iload_n hx hb dX5_compare_1 rfl (lv_at hl 1 rfl) ?_
    have hPc := hP.sub (ws' := [(h0, .inr (5, [.ref aR, .ref aS, .ref aC, .ref aK, .int (nI kn), .int (nI cur)])), (aK, .inl (G.2.2.2.2, 10, .inr (.inr (.inr (.inr fk)))))]) [0, 20] rfl
    refine va_csr (va_runV (As := [.int (nI k1)]) (rest := []) ⟨hx, hb, hml, hown, htb⟩ (qc_X_at l G h0 aR aS aC aK kn cur fk k1 ro hk1 hkn hro) (cwV 1 htb (qW_V qw_398 qw_400 qw_4 qw_13 qw_401) rfl rfl rfl (by decide +kernel) ⟨Nat.le_of_ble_eq_true rfl, Nat.le_of_ble_eq_true rfl⟩) (qk_pv (ci := 5) (q0 := 0) hK hPc hN rfl rfl) rfl rfl hl.1 rfl (lv_room (Nat.le_of_ble_eq_true rfl)) dX5_compare_2 ⟨Nat.le_of_ble_eq_true rfl, Nat.le_of_ble_eq_true rfl⟩).run (fun r_2 e_2 => ?_)
    have e_2 := e_2.symm
    subst e_2
    refine lv_astore_n (lv' := [(2, .ref ro), (0, .ref h0), (1, .int (nI k1))]) hx hb dX5_compare_5 rfl hl (by decide) rfl (fun ls hl => ?_)
    refine lv_aload_n hx hb dX5_compare_6 rfl (lv_at hl 0 rfl) ?_
    refine lv_ifnonnull (tgt := 15) hx hb dX5_compare_7 (by decide) ?_
    refine lv_aload_n hx hb dX5_compare_15 rfl (lv_at hl 1 rfl) ?_
    refine va_get (D := G.1) (ci := 5) (v := .ref aS) (C := "GradeRows") (T := TX5) (N := 6) hx hb htb inX5 hown hK hP 0 rfl rfl 1 (by decide) (htb _ qw_122) (fun _ h9 => h9) rfl dX5_compare_16 ?_
    refine lv_aload_n hx hb dX5_compare_19 rfl (lv_at hl 0 rfl) ?_
    have hPc := hP.sub (ws' := [(aS, .inr (4, [.ref qr, .ref qp, .ref qd, .ref qc, .ref qf, .ref qt, .ref sp, .ref sc, .int (nI (sz0 10))])), (qt, .inl (G.2.2.1, 201, .inr (.inl ft))), (sp, .inr (3, [.ref q1, .int (nI (sz0 10))])), (q1, .inl (G.2.1, 200, .inl f1)), (ro, .inr (1, [.long (lN (qm_sum (qm_cost w x (st k1)) (sz0 k1))), .ref s1, .ref s2])), (s1, .inr (3, [.ref a1, .int (nI (sz0 k1))])), (a1, .inl (G.2.1, (sz0 k1), .inl g1))]) [6, 12, 13, 14, 21, 22, 23] rfl
    refine vp_callSi (va_runV (As := [.ref ro]) (rest := []) ⟨hx, hb, hml, hown, htb⟩ (qc_T_against l G aS qr qp qd qc qf qt sp sc (sz0 10) ft (lN (qm_sum (qm_cost w x (st 10)) (sz0 10))) q1 f1 ro (lN (qm_sum (qm_cost w x (st k1)) (sz0 k1))) s1 s2 (sz0 k1) a1 g1 (sz0 k1) a2 g2 hz10 hzk (htt _ (Nat.le_refl _)) (⟨Nat.le_refl _, hzk⟩) ho1.1 hg1.1) (cwV 1 htb (qW_V qw_402 qw_403 qw_404 qw_15 qw_405) rfl rfl rfl (by decide +kernel) ⟨Nat.le_of_ble_eq_true rfl, Nat.le_of_ble_eq_true rfl⟩) (qk_pv (ci := 4) (q0 := 0) hK hPc hN rfl rfl) rfl rfl hl.1 rfl (lv_room (Nat.le_of_ble_eq_true rfl)) dX5_compare_20 ⟨Nat.le_of_ble_eq_true rfl, Nat.le_of_ble_eq_true rfl⟩).run (fun r_20 e_20 => ?_)
    exact W.iret (v := r_20) hx hb hr (fun t9 ht9 hW9 => ⟨_, rfl, qo_cmp_rel (z := qZt nr w x sz0 st nc lo hi kn cur) (show k1 < kn from hk1) (show kn < 2 ^ 31 by omega) ho1 hg1 hcb (fun j hj => qm_cost_le hR (hrk.2 j hj)) hz10 hzk e_20, ht9⟩) (fun q h => absurd h List.not_mem_nil) dX5_compare_23
  · skip
    refine lv_aload_n hx hb dX5_compare_0 rfl (lv_at hl 0 rfl) ?_
    refine lv_iload_n hx hb dX5_compare_1 rfl (lv_at hl 1 rfl) ?_
    have hPc := hP.sub (ws' := [(h0, .inr (5, [.ref aR, .ref aS, .ref aC, .ref aK, .int (nI kn), .int (nI cur)])), (aK, .inl (G.2.2.2.2, 10, .inr (.inr (.inr (.inr fk)))))]) [0, 20] rfl
    refine va_csr (va_runV (As := [.int k]) (rest := []) ⟨hx, hb, hml, hown, htb⟩ (qc_X_at0 l G h0 aR aS aC aK kn cur fk k hq) (cwV 1 htb (qW_V qw_398 qw_400 qw_4 qw_13 qw_401) rfl rfl rfl (by decide +kernel) ⟨Nat.le_of_ble_eq_true rfl, Nat.le_of_ble_eq_true rfl⟩) (qk_pv (ci := 5) (q0 := 0) hK hPc hN rfl rfl) rfl rfl hl.1 rfl (lv_room (Nat.le_of_ble_eq_true rfl)) dX5_compare_2 ⟨Nat.le_of_ble_eq_true rfl, Nat.le_of_ble_eq_true rfl⟩).run (fun r_2 e_2 => ?_)
    refine lv_astore_nN (lv' := [(2, .null), (0, .ref h0), (1, .int k)]) hx hb dX5_compare_5 rfl hl (by decide) rfl (fun ls hl => ?_)
    refine lv_aload_nN hx hb dX5_compare_6 rfl (lv_at hl 0 rfl) ?_
    refine lv_ifnonnullN hx hb dX5_compare_7 ?_
    refine lv_bipush (v := (-2)) hx hb dX5_compare_10 (by decide) ?_
    refine lv_goto (tgt := 23) hx hb dX5_compare_12 (by decide) ?_
    exact W.iret (v := (-2)) hx hb hr (fun t9 ht9 hW9 => ⟨_, rfl, qo_cmp_0 hq, ht9⟩) (fun q h => absurd h List.not_mem_nil) dX5_compare_23

-- qc_X_same
set_option maxHeartbeats 4000000 in
set_option maxRecDepth 100000 in
/-- the class: same -/
theorem qc_X_same (l : Launch) (G : qG) (h0 : Nat) (fk : Nat → Option Nat) (nr : Nat) (w : Nat → Nat) (x : Nat → Nat) (sz0 : Nat → Nat) (st : Nat → Nat → qS) (nc : Nat) (lo : Nat → Int64) (hi : Nat → Int64) (kn : Nat) (cur : Nat) (ws0 : va_W) (kw : va_W) (k : Int32) (hok : qm_ok nr w x sz0 st nc lo hi kn cur) (hrep : qX_rp G h0 fk nr w x sz0 st nc lo hi kn cur ws0) (hkr : qK_rp G fk w x sz0 st kn kw) : Met l yX5_same wsX5_same ({ frames := 3, cells := 0, slots := 0, locals := 68 } : Room) (va_Pc [.ref h0, .int k] (qk_pre G vwCl (ws0 ++ kw))) (vp_Si (fun r => qo_same (qZt nr w x sz0 st nc lo hi kn cur) k r)) 0 0 (fun _ => False) := by
  obtain ⟨aR, aS, aC, aK, qw, qx, qn, qs, qr, qp, qd, qc, qf, qt, sp, sc, q1, q2, ql, qh, fw, fx, fu, fr, fp, fd, fc, ff, f1, f2, fs, ft, rfl, hXR, hXS⟩ := hrep
  obtain ⟨hR, hkn, hrows, hcur, hnc, hcl⟩ := hok
  obtain ⟨hw, hus⟩ := hXR
  obtain ⟨hst, htt, ho1, ho2⟩ := hXS
  have hr40 := hR.1
  have h10 := hrows 10 (Or.inr rfl)
  have hz10 := h10.1
  have ho10 := h10.2
  have hcb : ∀ i, i < sz0 10 → qm_cost w x (st 10) i ≤ 130000 := fun i hi => qm_cost_le hR (ho10 i hi)
  refine Met.ofW (cc := cX5_same) (maxL := 3) (ret := (some .boolean)) (by decide) rfl ?_
  intro p e s m args below meth c s₁ B hml hv
  obtain ⟨rfl, hP, hK, hN⟩ := hv
  have hx := B.exec
  have hb := B.bytes
  have hr := B.returns
  have hlocks := B.notSynchronized
  have hts := atoms_spec (ws := wsX5_same) B.pre
  have htb := fun (w : Cond) (h : w ∈ qTb) => hts w (List.mem_cons_of_mem _ h)
  have hown : s.vm.findClass "GradeRows" = some m.cls := findClass_of_methodNamed B.named
  have hPk : va_P G.1 vwCl kw s.heap := qk_mem hP (fun q h => List.mem_append_right _ h)
  have hP := qk_mem (wc := [(h0, .inr (5, [.ref aR, .ref aS, .ref aC, .ref aK, .int (nI kn), .int (nI cur)])), (aR, .inr (2, [.ref qw, .ref qx, .ref qn, .ref qs, .int (nI nr)])), (qw, .inl (G.2.1, 40, .inl fw)), (qx, .inl (G.2.1, 40, .inl fx)), (qn, .inl (G.2.1, 40, .inl fu)), (qs, .inl (G.2.2.1, 40, .inr (.inl fs))), (aS, .inr (4, [.ref qr, .ref qp, .ref qd, .ref qc, .ref qf, .ref qt, .ref sp, .ref sc, .int (nI (sz0 10))])), (qr, .inl (G.2.1, 200, .inl fr)), (qp, .inl (G.2.1, 200, .inl fp)), (qd, .inl (G.2.1, 200, .inl fd)), (qc, .inl (G.2.1, 200, .inl fc)), (qf, .inl (G.2.2.2.1, 200, .inl ff)), (qt, .inl (G.2.2.1, 201, .inr (.inl ft))), (sp, .inr (3, [.ref q1, .int (nI (sz0 10))])), (q1, .inl (G.2.1, 200, .inl f1)), (sc, .inr (3, [.ref q2, .int (nI (sz0 10))])), (q2, .inl (G.2.1, 200, .inl f2)), (aC, .inr (0, [.ref ql, .ref qh, .int (nI nc)])), (ql, .inl (G.2.2.1, 20, .inr (.inl lo))), (qh, .inl (G.2.2.1, 20, .inr (.inl hi))), (aK, .inl (G.2.2.2.2, 10, .inr (.inr (.inr (.inr fk)))))]) hP (fun q h => List.mem_append_left _ h)
  have hP : va_P G.1 vwCl [(h0, .inr (5, [.ref aR, .ref aS, .ref aC, .ref aK, .int (nI kn), .int (nI cur)])), (aR, .inr (2, [.ref qw, .ref qx, .ref qn, .ref qs, .int (nI nr)])), (qw, .inl (G.2.1, 40, .inl fw)), (qx, .inl (G.2.1, 40, .inl fx)), (qn, .inl (G.2.1, 40, .inl fu)), (qs, .inl (G.2.2.1, 40, .inr (.inl fs))), (aS, .inr (4, [.ref qr, .ref qp, .ref qd, .ref qc, .ref qf, .ref qt, .ref sp, .ref sc, .int (nI (sz0 10))])), (qr, .inl (G.2.1, 200, .inl fr)), (qp, .inl (G.2.1, 200, .inl fp)), (qd, .inl (G.2.1, 200, .inl fd)), (qc, .inl (G.2.1, 200, .inl fc)), (qf, .inl (G.2.2.2.1, 200, .inl ff)), (qt, .inl (G.2.2.1, 201, .inr (.inl ft))), (sp, .inr (3, [.ref q1, .int (nI (sz0 10))])), (q1, .inl (G.2.1, 200, .inl f1)), (sc, .inr (3, [.ref q2, .int (nI (sz0 10))])), (q2, .inl (G.2.1, 200, .inl f2)), (aC, .inr (0, [.ref ql, .ref qh, .int (nI nc)])), (ql, .inl (G.2.2.1, 20, .inr (.inl lo))), (qh, .inl (G.2.2.1, 20, .inr (.inl hi))), (aK, .inl (G.2.2.2.2, 10, .inr (.inr (.inr (.inr fk)))))] s.heap := hP
  have hl := lv_entry ([.ref h0, .int k]) (n := 3) (Nat.le_of_ble_eq_true rfl)
  rw [lg_entry_eq]
  generalize (lg_sl ([.ref h0, .int k]) ++ List.replicate (3 - (lg_sl ([.ref h0, .int k])).length) Slot.unset).toArray = ls at hl ⊢
  have hl : lv_has ls 3 [(0, .ref h0), (1, .int k)] := hl
  by_cases hq : ¬ k < 0 ∧ k < nI kn
  · obtain ⟨k1, hk1, rfl⟩ := qm_below hq (by omega)
    obtain ⟨ro, s1, a1, s2, a2, g1, g2, hro, hmem, hg1, hg2⟩ := hkr k1 hk1
    have hrk := hrows k1 (Or.inl hk1)
    have hzk := hrk.1
    have hPr := qk_mem hPk hmem
    have hP : va_P G.1 vwCl [(h0, .inr (5, [.ref aR, .ref aS, .ref aC, .ref aK, .int (nI kn), .int (nI cur)])), (aR, .inr (2, [.ref qw, .ref qx, .ref qn, .ref qs, .int (nI nr)])), (qw, .inl (G.2.1, 40, .inl fw)), (qx, .inl (G.2.1, 40, .inl fx)), (qn, .inl (G.2.1, 40, .inl fu)), (qs, .inl (G.2.2.1, 40, .inr (.inl fs))), (aS, .inr (4, [.ref qr, .ref qp, .ref qd, .ref qc, .ref qf, .ref qt, .ref sp, .ref sc, .int (nI (sz0 10))])), (qr, .inl (G.2.1, 200, .inl fr)), (qp, .inl (G.2.1, 200, .inl fp)), (qd, .inl (G.2.1, 200, .inl fd)), (qc, .inl (G.2.1, 200, .inl fc)), (qf, .inl (G.2.2.2.1, 200, .inl ff)), (qt, .inl (G.2.2.1, 201, .inr (.inl ft))), (sp, .inr (3, [.ref q1, .int (nI (sz0 10))])), (q1, .inl (G.2.1, 200, .inl f1)), (sc, .inr (3, [.ref q2, .int (nI (sz0 10))])), (q2, .inl (G.2.1, 200, .inl f2)), (aC, .inr (0, [.ref ql, .ref qh, .int (nI nc)])), (ql, .inl (G.2.2.1, 20, .inr (.inl lo))), (qh, .inl (G.2.2.1, 20, .inr (.inl hi))), (aK, .inl (G.2.2.2.2, 10, .inr (.inr (.inr (.inr fk))))), (ro, .inr (1, [.long (lN (qm_sum (qm_cost w x (st k1)) (sz0 k1))), .ref s1, .ref s2])), (s1, .inr (3, [.ref a1, .int (nI (sz0 k1))])), (a1, .inl (G.2.1, (sz0 k1), .inl g1)), (s2, .inr (3, [.ref a2, .int (nI (sz0 k1))])), (a2, .inl (G.2.1, (sz0 k1), .inl g2))] s.heap := hP.app hPr
    refine lv_aload_n hx hb dX5_same_0 rfl (lv_at hl 0 rfl) ?_
    refine lv_iload_n hx hb dX5_same_1 rfl (lv_at hl 1 rfl) ?_
    have hPc := hP.sub (ws' := [(h0, .inr (5, [.ref aR, .ref aS, .ref aC, .ref aK, .int (nI kn), .int (nI cur)])), (aK, .inl (G.2.2.2.2, 10, .inr (.inr (.inr (.inr fk)))))]) [0, 20] rfl
    refine va_csr (va_runV (As := [.int (nI k1)]) (rest := []) ⟨hx, hb, hml, hown, htb⟩ (qc_X_at l G h0 aR aS aC aK kn cur fk k1 ro hk1 hkn hro) (cwV 1 htb (qW_V qw_398 qw_400 qw_4 qw_13 qw_401) rfl rfl rfl (by decide +kernel) ⟨Nat.le_of_ble_eq_true rfl, Nat.le_of_ble_eq_true rfl⟩) (qk_pv (ci := 5) (q0 := 0) hK hPc hN rfl rfl) rfl rfl hl.1 rfl (lv_room (Nat.le_of_ble_eq_true rfl)) dX5_same_2 ⟨Nat.le_of_ble_eq_true rfl, Nat.le_of_ble_eq_true rfl⟩).run (fun r_2 e_2 => ?_)
    have e_2 := e_2.symm
    subst e_2
    refine lv_astore_n (lv' := [(2, .ref ro), (0, .ref h0), (1, .int (nI k1))]) hx hb dX5_same_5 rfl hl (by decide) rfl (fun ls hl => ?_)
    refine lv_aload_n hx hb dX5_same_6 rfl (lv_at hl 0 rfl) ?_
    refine lv_ifnull hx hb dX5_same_7 ?_
    refine lv_aload_n hx hb dX5_same_10 rfl (lv_at hl 1 rfl) ?_
    refine va_get (D := G.1) (ci := 5) (v := .ref aS) (C := "GradeRows") (T := TX5) (N := 6) hx hb htb inX5 hown hK hP 0 rfl rfl 1 (by decide) (htb _ qw_122) (fun _ h9 => h9) rfl dX5_same_11 ?_
    refine lv_aload_n hx hb dX5_same_14 rfl (lv_at hl 0 rfl) ?_
    have hPc := hP.sub (ws' := [(aS, .inr (4, [.ref qr, .ref qp, .ref qd, .ref qc, .ref qf, .ref qt, .ref sp, .ref sc, .int (nI (sz0 10))])), (sc, .inr (3, [.ref q2, .int (nI (sz0 10))])), (q2, .inl (G.2.1, 200, .inl f2)), (ro, .inr (1, [.long (lN (qm_sum (qm_cost w x (st k1)) (sz0 k1))), .ref s1, .ref s2])), (s2, .inr (3, [.ref a2, .int (nI (sz0 k1))])), (a2, .inl (G.2.1, (sz0 k1), .inl g2))]) [6, 15, 16, 21, 24, 25] rfl
    refine vp_callSi (va_runV (As := [.ref ro]) (rest := []) ⟨hx, hb, hml, hown, htb⟩ (qc_T_same l G aS qr qp qd qc qf qt sp sc (sz0 10) q2 f2 ro (lN (qm_sum (qm_cost w x (st k1)) (sz0 k1))) s1 s2 (sz0 k1) a1 g1 (sz0 k1) a2 g2 hz10 hzk (⟨Nat.le_refl _, hzk⟩) ho2.1 hg2.1) (cwV 1 htb (qW_V qw_423 qw_424 qw_425 qw_15 qw_426) rfl rfl rfl (by decide +kernel) ⟨Nat.le_of_ble_eq_true rfl, Nat.le_of_ble_eq_true rfl⟩) (qk_pv (ci := 4) (q0 := 0) hK hPc hN rfl rfl) rfl rfl hl.1 rfl (lv_room (Nat.le_of_ble_eq_true rfl)) dX5_same_15 ⟨Nat.le_of_ble_eq_true rfl, Nat.le_of_ble_eq_true rfl⟩).run (fun r_15 e_15 => ?_)
    refine lv_if_eq (tgt := 25) hx hb dX5_same_18 (by decide) (fun cz => ?_) (fun cz => ?_)
    · refine lv_iconst (v := nI 0) hx hb dX5_same_25 (by decide) ?_
      exact W.zret (v := nI 0) (ty := .boolean) hx hb hr (by decide) (fun t9 ht9 hW9 => ⟨_, rfl, qo_same_rel (z := qZt nr w x sz0 st nc lo hi kn cur) hr40 (show k1 < kn from hk1) (show kn < 2 ^ 31 by omega) ho2 hg2 ho10 hrk.2 (e_15.elim (fun h => Or.inl ⟨h.1, h.2.1, absurd (h.2.2.symm.trans cz) (by decide)⟩) (fun h => Or.inr ⟨h.1, rfl⟩)), ht9⟩) (fun q h => absurd h List.not_mem_nil) dX5_same_26
    · refine lv_iconst (v := nI 1) hx hb dX5_same_21 (by decide) ?_
      refine lv_goto (tgt := 26) hx hb dX5_same_22 (by decide) ?_
      exact W.zret (v := nI 1) (ty := .boolean) hx hb hr (by decide) (fun t9 ht9 hW9 => ⟨_, rfl, qo_same_rel (z := qZt nr w x sz0 st nc lo hi kn cur) hr40 (show k1 < kn from hk1) (show kn < 2 ^ 31 by omega) ho2 hg2 ho10 hrk.2 (e_15.elim (fun h => Or.inl ⟨h.1, h.2.1, rfl⟩) (fun h => Or.inr ⟨h.1, absurd (h.2.trans nI_0) cz⟩)), ht9⟩) (fun q h => absurd h List.not_mem_nil) dX5_same_26
  · skip
    refine lv_aload_n hx hb dX5_same_0 rfl (lv_at hl 0 rfl) ?_
    refine lv_iload_n hx hb dX5_same_1 rfl (lv_at hl 1 rfl) ?_
    have hPc := hP.sub (ws' := [(h0, .inr (5, [.ref aR, .ref aS, .ref aC, .ref aK, .int (nI kn), .int (nI cur)])), (aK, .inl (G.2.2.2.2, 10, .inr (.inr (.inr (.inr fk)))))]) [0, 20] rfl
    refine va_csr (va_runV (As := [.int k]) (rest := []) ⟨hx, hb, hml, hown, htb⟩ (qc_X_at0 l G h0 aR aS aC aK kn cur fk k hq) (cwV 1 htb (qW_V qw_398 qw_400 qw_4 qw_13 qw_401) rfl rfl rfl (by decide +kernel) ⟨Nat.le_of_ble_eq_true rfl, Nat.le_of_ble_eq_true rfl⟩) (qk_pv (ci := 5) (q0 := 0) hK hPc hN rfl rfl) rfl rfl hl.1 rfl (lv_room (Nat.le_of_ble_eq_true rfl)) dX5_same_2 ⟨Nat.le_of_ble_eq_true rfl, Nat.le_of_ble_eq_true rfl⟩).run (fun r_2 e_2 => ?_)
    refine lv_astore_nN (lv' := [(2, .null), (0, .ref h0), (1, .int k)]) hx hb dX5_same_5 rfl hl (by decide) rfl (fun ls hl => ?_)
    refine lv_aload_nN hx hb dX5_same_6 rfl (lv_at hl 0 rfl) ?_
    refine lv_ifnullN (tgt := 25) hx hb dX5_same_7 (by decide) ?_
    refine lv_iconst (v := nI 0) hx hb dX5_same_25 (by decide) ?_
    exact W.zret (v := nI 0) (ty := .boolean) hx hb hr (by decide) (fun t9 ht9 hW9 => ⟨_, rfl, qo_same_no (fun h => hq h.1), ht9⟩) (fun q h => absurd h List.not_mem_nil) dX5_same_26
