theorem qk_fitI {cA : ClassId} {n : Nat} {f : Nat → Int32} (i : Nat) (v : Value) (hv : (vp_cell cA (n, .inl f)).slots[i]? = some v) : fits .int v = true := va_fit (cA := cA) (n := n) (F := fun j => .int (f j)) (fun _ _ => rfl) i v hv
set_option maxHeartbeats 4000000 in
set_option maxRecDepth 100000 in
/-- Arrays.copyOf -/
theorem qc_A_copy (l : Launch) (G : qG) (q0 : Nat) (n : Nat) (f : Nat → Int32) (sz : Nat) (hn : n ≤ 200) : Met l yJ0_copyOf wsJ0_copyOf ({ frames := 1, cells := 1, slots := 200, locals := 30 } : Room) (va_Pc [.ref q0, .int (nI n)] (qk_prw G vwCl [(q0, .inl (G.2.1, 200, .inl f))] sz)) (va_Qr (fun (u : Nat → Int32) => ∀ j, j < n → u j = f j) (fun (u : Nat → Int32) (ra : Nat) => qk_B G vwCl (va_A [(q0, .inl (G.2.1, 200, .inl f))] sz) (fun (_ : Unit) => [(q0, .inl (G.2.1, 200, .inl f)), (ra, .inl (G.2.1, n, .inl u))]) ()) (va_A [(q0, .inl (G.2.1, 200, .inl f))] sz)) 1 200 (va_A [(q0, .inl (G.2.1, 200, .inl f))] sz) := by
  refine Met.ofW (cc := cJ0_copyOf) (maxL := 3) (ret := (some (.array .int))) (by decide) rfl ?_
  intro p e s m args below meth c s₁ B hml hv
  obtain ⟨rfl, hsz, hP, hK, hD0, hN⟩ := hv
  have hx := B.exec
  have hb := B.bytes
  have hr := B.returns
  have hlocks := B.notSynchronized
  have hts := atoms_spec (ws := wsJ0_copyOf) B.pre
  have htb := fun (w : Cond) (h : w ∈ qTb) => hts w (List.mem_cons_of_mem _ h)
  have hown : s.vm.findClass "java/util/Arrays" = some m.cls := findClass_of_methodNamed B.named
  subst hsz
  have hD := hD0.self (sz := s.heap.size)
  generalize hAe : va_A [(q0, .inl (G.2.1, 200, .inl f))] s.heap.size = A at hD ⊢
  have hA : ∀ q : Nat, s.heap.size ≤ q → A q := fun q h => by rw [← hAe]; exact Or.inr h
  have hS : va_S A s.heap s.heap [] := va_S.rf
  have hP : va_P G.1 vwCl [(q0, .inl (G.2.1, 200, .inl f))] s.heap := hP
  have hl := lv_entry ([.ref q0, .int (nI n)]) (n := 3) (Nat.le_of_ble_eq_true rfl)
  rw [lg_entry_eq]
  generalize (lg_sl ([.ref q0, .int (nI n)]) ++ List.replicate (3 - (lg_sl ([.ref q0, .int (nI n)])).length) Slot.unset).toArray = ls at hl ⊢
  have hl : lv_has ls 3 [(0, .ref q0), (1, .int (nI n))] := hl
  by_cases hq : n = 200
  · subst hq
    refine lv_iload_n hx hb dJ0_copyOf_0 rfl (lv_at hl 1 rfl) ?_
    refine lv_aload_n hx hb dJ0_copyOf_1 rfl (lv_at hl 0 rfl) ?_
    refine va_alen (v := nI 200) hx hb hK hP 0 0 rfl rfl rfl dJ0_copyOf_2 ?_
    refine lv_icmp_ne (tgt := 14) hx hb dJ0_copyOf_3 (by decide) (fun c_1 => ?_) (fun c_1 => ?_)
    · have c_1 : ¬ (200 = 200) := fun q9 => c_1 ((nI_eq (by omega) (by omega)).mpr q9)
      exfalso; omega
    · have c_1 : 200 = 200 := (nI_eq (by omega) (by omega)).mp c_1
      refine lv_aload_n hx hb dJ0_copyOf_6 rfl (lv_at hl 0 rfl) ?_
      refine va_clone (ad := "[I") hx hb (hml.trans hl.1.symm) hown (htb _ qw_365) (htb _ qw_366) (htb _ qw_367) (htb _ qw_368) (htb _ qw_369) (hN.1 _ qw_370) hK hP hD hS hA 0 0 rfl rfl (va_nm_int (hK.2 0 _ rfl).2) qk_fitI (Nat.le_of_ble_eq_true rfl) (Nat.le_of_ble_eq_true rfl) (Nat.le_of_ble_eq_true rfl) (Nat.le_of_ble_eq_true rfl) dJ0_copyOf_7 (fun q_7 H hK2 hP hD hS => ?_)
      have hP : va_P G.1 vwCl [(q0, .inl (G.2.1, 200, .inl f)), (q_7, .inl (G.2.1, 200, .inl f))] H := hP
      have hD : va_D A [(q0, .inl (G.2.1, 200, .inl f)), (q_7, .inl (G.2.1, 200, .inl f))] := hD
      refine W.widen (k := 1) (n := 200) (Nat.le_of_ble_eq_true rfl) (Nat.le_of_ble_eq_true rfl) ?_
      refine va_castA (nm := "[I") hx hb hown (htb _ qw_371) hP 1 rfl (va_nm_int (hK.2 0 _ rfl).2) dJ0_copyOf_10 ?_
      have hP9 := hP.sub (ws' := [(q0, .inl (G.2.1, 200, .inl f)), (q_7, .inl (G.2.1, 200, .inl f))]) [0, 1] rfl
      have hD9 := hD.sub (ws' := [(q0, .inl (G.2.1, 200, .inl f)), (q_7, .inl (G.2.1, 200, .inl f))]) [0, 1] (by decide) rfl
      exact W.aret (v := .ref q_7) hx hb hr (Or.inr ⟨_, rfl⟩) (Or.inr ⟨_, rfl⟩) (fun t9 ht9 hW9 => ⟨⟨f, _, rfl, fun _ _ => rfl, by rw [ht9]; exact hP9, va_K.moved hW9.alike hK, hD9⟩, hS.F ht9⟩) hS.2.2 dJ0_copyOf_13
  · skip
    refine lv_iload_n hx hb dJ0_copyOf_0 rfl (lv_at hl 1 rfl) ?_
    refine lv_aload_n hx hb dJ0_copyOf_1 rfl (lv_at hl 0 rfl) ?_
    refine va_alen (v := nI 200) hx hb hK hP 0 0 rfl rfl rfl dJ0_copyOf_2 ?_
    refine lv_icmp_ne (tgt := 14) hx hb dJ0_copyOf_3 (by decide) (fun c_2 => ?_) (fun c_2 => ?_)
    · have c_2 : ¬ (n = 200) := fun q9 => c_2 ((nI_eq (by omega) (by omega)).mpr q9)
      refine lv_iload_n hx hb dJ0_copyOf_14 rfl (lv_at hl 1 rfl) ?_
      refine va_newa (atype := .int) (ty := .int) (a0 := (n, .inl (fun _ => 0))) hx hb (htb _ qw_53) rfl hK hP hD hS hA (fun _ => rfl) (nI_pos (by omega)) (nI_clamp (by omega)) (by show n * 4 ≤ 536870912; omega) (Nat.le_of_ble_eq_true rfl) (by show 0 + n ≤ 200; omega) dJ0_copyOf_15 (fun q_15 cA_15 H hK2 hP hD hS => ?_)
      have e_15 := qk_one hK2 (i := 4) (j := 0) rfl rfl
      subst e_15
      have hP : va_P G.1 vwCl [(q0, .inl (G.2.1, 200, .inl f)), (q_15, .inl (G.2.1, n, .inl (fun _ => 0)))] H := hP
      have hD : va_D A [(q0, .inl (G.2.1, 200, .inl f)), (q_15, .inl (G.2.1, n, .inl (fun _ => 0)))] := hD
      refine W.widen (k := 1) (n := 200) (Nat.le_of_ble_eq_true rfl) (by omega) ?_
      refine lv_astore_n (lv' := [(2, .ref q_15), (0, .ref q0), (1, .int (nI n))]) hx hb dJ0_copyOf_17 rfl hl (by decide) rfl (fun ls hl => ?_)
      refine lv_aload_n hx hb dJ0_copyOf_18 rfl (lv_at hl 1 rfl) ?_
      refine lv_iconst (v := nI 0) hx hb dJ0_copyOf_19 (by decide) ?_
      refine lv_aload_n hx hb dJ0_copyOf_20 rfl (lv_at hl 0 rfl) ?_
      refine lv_iconst (v := nI 0) hx hb dJ0_copyOf_21 (by decide) ?_
      refine lv_aload_n hx hb dJ0_copyOf_22 rfl (lv_at hl 1 rfl) ?_
      refine va_alen (v := nI 200) hx hb hK hP 0 0 rfl rfl rfl dJ0_copyOf_23 ?_
      refine lv_iload_n hx hb dJ0_copyOf_24 rfl (lv_at hl 2 rfl) ?_
      refine va_mmin hx hb (hml.trans hl.1.symm) hown (htb _ qw_372) (htb _ qw_236) (htb _ qw_19) (htb _ qw_237) (Nat.le_of_ble_eq_true rfl) (Nat.le_of_ble_eq_true rfl) (Nat.le_of_ble_eq_true rfl) (Nat.le_of_ble_eq_true rfl) dJ0_copyOf_25 ?_
      refine qk_topi (t := nI n) (by rw [nI_min (by omega) (by omega), if_pos (by omega)]) ?_
      refine va_copyi (n := nI n) (dp := nI 0) (sp := nI 0) hx hb (hml.trans hl.1.symm) hown (htb _ qw_373) (htb _ qw_375) (htb _ qw_374) (htb _ qw_22) hK hP hD hS 0 1 0 0 rfl rfl rfl rfl rfl (nI_pos (by omega)) (nI_pos (by omega)) (nI_pos (by omega)) (by rw [nI_clamp (by omega), nI_clamp (by omega)]; omega) (by rw [nI_clamp (by omega), nI_clamp (by omega)]; omega) (fun _ _ => rfl) (Nat.le_of_ble_eq_true rfl) (Nat.le_of_ble_eq_true rfl) dJ0_copyOf_28 (fun H locs hP hD hS => ?_)
      have hP : va_P G.1 vwCl [(q0, .inl (G.2.1, 200, .inl f)), (q_15, .inl (G.2.1, n, .inl (va_cpy f (fun _ => 0) (nI 0).toNatClampNeg (nI 0).toNatClampNeg (nI n).toNatClampNeg)))] H := hP
      have hD : va_D A [(q0, .inl (G.2.1, 200, .inl f)), (q_15, .inl (G.2.1, n, .inl (va_cpy f (fun _ => 0) (nI 0).toNatClampNeg (nI 0).toNatClampNeg (nI n).toNatClampNeg)))] := hD
      refine lv_aload_n hx hb dJ0_copyOf_31 rfl (lv_at hl 0 rfl) ?_
      have hP9 := hP.sub (ws' := [(q0, .inl (G.2.1, 200, .inl f)), (q_15, .inl (G.2.1, n, .inl (va_cpy f (fun _ => 0) (nI 0).toNatClampNeg (nI 0).toNatClampNeg (nI n).toNatClampNeg)))]) [0, 1] rfl
      have hD9 := hD.sub (ws' := [(q0, .inl (G.2.1, 200, .inl f)), (q_15, .inl (G.2.1, n, .inl (va_cpy f (fun _ => 0) (nI 0).toNatClampNeg (nI 0).toNatClampNeg (nI n).toNatClampNeg)))]) [0, 1] (by decide) rfl
      exact W.aret (v := .ref q_15) hx hb hr (Or.inr ⟨_, rfl⟩) (Or.inr ⟨_, rfl⟩) (fun t9 ht9 hW9 => ⟨⟨(va_cpy f (fun _ => 0) (nI 0).toNatClampNeg (nI 0).toNatClampNeg (nI n).toNatClampNeg), _, rfl, fun j hj => qm_cpy (by omega) hj, by rw [ht9]; exact hP9, va_K.moved hW9.alike hK, hD9⟩, hS.F ht9⟩) hS.2.2 dJ0_copyOf_32
    · have c_2 : n = 200 := (nI_eq (by omega) (by omega)).mp c_2
      exfalso; omega

set_option maxHeartbeats 4000000 in
set_option maxRecDepth 100000 in
/-- Sorted.copy -/
theorem qc_S_copy (l : Launch) (G : qG) (h0 : Nat) (q0 : Nat) (n : Nat) (f : Nat → Int32) (sz : Nat) (hn : n ≤ 200) : Met l yX3_copy wsX3_copy ({ frames := 2, cells := 2, slots := 202, locals := 52 } : Room) (va_Pc [.ref h0] (qk_prw G vwCl [(h0, .inr (3, [.ref q0, .int (nI n)])), (q0, .inl (G.2.1, 200, .inl f))] sz)) (va_Qr (fun (u : Nat × (Nat → Int32)) => ∀ j, j < n → u.2 j = f j) (fun (u : Nat × (Nat → Int32)) (ra : Nat) => qk_B G vwCl (va_A [(h0, .inr (3, [.ref q0, .int (nI n)])), (q0, .inl (G.2.1, 200, .inl f))] sz) (fun (_ : Unit) => [(h0, .inr (3, [.ref q0, .int (nI n)])), (q0, .inl (G.2.1, 200, .inl f)), (ra, .inr (3, [.ref u.1, .int (nI n)])), (u.1, .inl (G.2.1, n, .inl u.2))]) ()) (va_A [(h0, .inr (3, [.ref q0, .int (nI n)])), (q0, .inl (G.2.1, 200, .inl f))] sz)) 2 202 (va_A [(h0, .inr (3, [.ref q0, .int (nI n)])), (q0, .inl (G.2.1, 200, .inl f))] sz) := by
  refine Met.ofW (cc := cX3_copy) (maxL := 1) (ret := (some (.object "GradeRows$Sorted"))) (by decide) rfl ?_
  intro p e s m args below meth c s₁ B hml hv
  obtain ⟨rfl, hsz, hP, hK, hD0, hN⟩ := hv
  have hx := B.exec
  have hb := B.bytes
  have hr := B.returns
  have hlocks := B.notSynchronized
  have hts := atoms_spec (ws := wsX3_copy) B.pre
  have htb := fun (w : Cond) (h : w ∈ qTb) => hts w (List.mem_cons_of_mem _ h)
  have hown : s.vm.findClass "GradeRows$Sorted" = some m.cls := findClass_of_methodNamed B.named
  subst hsz
  have hD := hD0.self (sz := s.heap.size)
  generalize hAe : va_A [(h0, .inr (3, [.ref q0, .int (nI n)])), (q0, .inl (G.2.1, 200, .inl f))] s.heap.size = A at hD ⊢
  have hA : ∀ q : Nat, s.heap.size ≤ q → A q := fun q h => by rw [← hAe]; exact Or.inr h
  have hS : va_S A s.heap s.heap [] := va_S.rf
  have hP : va_P G.1 vwCl [(h0, .inr (3, [.ref q0, .int (nI n)])), (q0, .inl (G.2.1, 200, .inl f))] s.heap := hP
  have hl := lv_entry ([.ref h0]) (n := 1) (Nat.le_of_ble_eq_true rfl)
  rw [lg_entry_eq]
  generalize (lg_sl ([.ref h0]) ++ List.replicate (1 - (lg_sl ([.ref h0])).length) Slot.unset).toArray = ls at hl ⊢
  have hl : lv_has ls 1 [(0, .ref h0)] := hl
  refine va_new (ci := 3) (fs := [.null, .int 0]) (C := "GradeRows$Sorted") (T := TX3) (N := 2) hx hb htb inX3 tyX3 tyX3_ok hown (htb _ qw_361) (htb _ qw_62) (htb _ qw_16) hK hP hD hS hA rfl (fun j hj => by rcases (show j = 0 ∨ j = 1 by omega) with rfl | rfl <;> rfl) (Nat.le_of_ble_eq_true rfl) (Nat.le_of_ble_eq_true rfl) dX3_copy_0 (fun q_0 H hP hD hS => ?_)
  have hP : va_P G.1 vwCl [(h0, .inr (3, [.ref q0, .int (nI n)])), (q0, .inl (G.2.1, 200, .inl f)), (q_0, .inr (3, [.null, .int 0]))] H := hP
  have hD : va_D A [(h0, .inr (3, [.ref q0, .int (nI n)])), (q0, .inl (G.2.1, 200, .inl f)), (q_0, .inr (3, [.null, .int 0]))] := hD
  refine W.widen (k := 1) (n := 2) (Nat.le_of_ble_eq_true rfl) (Nat.le_of_ble_eq_true rfl) ?_
  refine lv_dup hx hb dX3_copy_3 rfl ?_
  refine lv_aload_n hx hb dX3_copy_4 rfl (lv_at hl 0 rfl) ?_
  refine va_get (D := G.1) (ci := 3) (v := .ref q0) (C := "GradeRows$Sorted") (T := TX3) (N := 2) hx hb htb inX3 hown hK hP 0 rfl rfl 0 (by decide) (htb _ qw_67) (fun _ h9 => h9) rfl dX3_copy_5 ?_
  refine lv_aload_n hx hb dX3_copy_8 rfl (lv_at hl 0 rfl) ?_
  refine va_get (D := G.1) (ci := 3) (v := .int (nI n)) (C := "GradeRows$Sorted") (T := TX3) (N := 2) hx hb htb inX3 hown hK hP 0 rfl rfl 1 (by decide) (htb _ qw_68) (fun _ h9 => h9) rfl dX3_copy_9 ?_
  have hPc := hP.sub (ws' := [(q0, .inl (G.2.1, 200, .inl f))]) [1] rfl
  have hDc := hD.sub (ws' := [(q0, .inl (G.2.1, 200, .inl f))]) [1] (by decide) rfl
  have hFc := va_free (wc := [(q0, .inl (G.2.1, 200, .inl f))]) hD hS hA [1] rfl
  refine va_callr (va_runS (As := [.ref q0, .int (nI n)]) (rest := [.ref q_0, .ref q_0]) ⟨hx, hb, hml, hown, htb⟩ (qc_A_copy l G q0 n f H.size hn) (va_cwS 2 htb (qW_S qw_362 qw_363 qw_21 qw_364) rfl rfl rfl (by decide +kernel) ⟨Nat.le_of_ble_eq_true rfl, Nat.le_of_ble_eq_true rfl⟩) (qk_psw hK hPc hN hDc) rfl rfl hl.1 rfl (lv_room (Nat.le_of_ble_eq_true rfl)) dX3_copy_12 ⟨Nat.le_of_ble_eq_true rfl, Nat.le_of_ble_eq_true rfl⟩) hS (fun q _ h => hFc q h) hFc (fun u_12 ra_12 t9 H1 locs ht9 hvm w_12 hB hz1 hk1 hS => ?_)
  obtain ⟨v_12, rfl⟩ : ∃ z, z = u_12 := ⟨_, rfl⟩
  obtain ⟨hP1, hK1, hD1⟩ := hB
  rw [ht9] at hP1
  obtain ⟨hP, hD⟩ := va_join (wr := [(h0, .inr (3, [.ref q0, .int (nI n)])), (q_0, .inr (3, [.null, .int 0]))]) (w1 := [(q0, .inl (G.2.1, 200, .inl f)), (ra_12, .inl (G.2.1, n, .inl v_12))]) hP hD [1] [0, 2] rfl rfl (by decide) (by decide) hk1 hFc hP1 hD1
  generalize H1 = H at hP hS ⊢
  have hP : va_P G.1 vwCl [(h0, .inr (3, [.ref q0, .int (nI n)])), (q_0, .inr (3, [.null, .int 0])), (q0, .inl (G.2.1, 200, .inl f)), (ra_12, .inl (G.2.1, n, .inl v_12))] H := hP
  have hD : va_D A [(h0, .inr (3, [.ref q0, .int (nI n)])), (q_0, .inr (3, [.null, .int 0])), (q0, .inl (G.2.1, 200, .inl f)), (ra_12, .inl (G.2.1, n, .inl v_12))] := hD
  refine W.widen (k := 2) (n := 202) (Nat.le_of_ble_eq_true rfl) (Nat.le_of_ble_eq_true rfl) ?_
  refine lv_aload_n hx hb dX3_copy_15 rfl (lv_at hl 0 rfl) ?_
  refine va_get (D := G.1) (ci := 3) (v := .int (nI n)) (C := "GradeRows$Sorted") (T := TX3) (N := 2) hx hb htb inX3 hown hK hP 0 rfl rfl 1 (by decide) (htb _ qw_68) (fun _ h9 => h9) rfl dX3_copy_16 ?_
  have hPc := hP.sub (ws' := [(q_0, .inr (3, [.null, .int 0]))]) [1] rfl
  have hDc := hD.sub (ws' := [(q_0, .inr (3, [.null, .int 0]))]) [1] (by decide) rfl
  have hFc := va_free (wc := [(q_0, .inr (3, [.null, .int 0]))]) hD hS hA [1] rfl
  refine va_callv (va_runI (As := [.ref ra_12, .int (nI n)]) (rest := [.ref q_0]) ⟨hx, hb, hml, hown, htb⟩ (qc_S_init l G q_0 ra_12 n H.size) (cwI 2 htb (qW_good qw_65) rfl rfl rfl (htb _ qw_16) (htb _ qw_376) (htb _ qw_64) rfl (by decide +kernel) ⟨Nat.le_of_ble_eq_true rfl, Nat.le_of_ble_eq_true rfl⟩) (qk_psw hK hPc hN hDc) rfl rfl hl.1 rfl (lv_room (Nat.le_of_ble_eq_true rfl)) dX3_copy_19 ⟨Nat.le_of_ble_eq_true rfl, Nat.le_of_ble_eq_true rfl⟩) hS (fun q _ h => hFc q h) hFc (fun u_19 t9 H1 locs ht9 hvm w_19 hB hz1 hk1 hS => ?_)
  obtain ⟨v_19, rfl⟩ : ∃ z, z = u_19 := ⟨_, rfl⟩
  obtain ⟨hP1, hK1, hD1⟩ := hB
  rw [ht9] at hP1
  obtain ⟨hP, hD⟩ := va_join (wr := [(h0, .inr (3, [.ref q0, .int (nI n)])), (q0, .inl (G.2.1, 200, .inl f)), (ra_12, .inl (G.2.1, n, .inl v_12))]) (w1 := [(q_0, .inr (3, [.ref ra_12, .int (nI n)]))]) hP hD [1] [0, 2, 3] rfl rfl (by decide) (by decide) hk1 hFc hP1 hD1
  generalize H1 = H at hP hS ⊢
  have hP : va_P G.1 vwCl [(h0, .inr (3, [.ref q0, .int (nI n)])), (q0, .inl (G.2.1, 200, .inl f)), (ra_12, .inl (G.2.1, n, .inl v_12)), (q_0, .inr (3, [.ref ra_12, .int (nI n)]))] H := hP
  have hD : va_D A [(h0, .inr (3, [.ref q0, .int (nI n)])), (q0, .inl (G.2.1, 200, .inl f)), (ra_12, .inl (G.2.1, n, .inl v_12)), (q_0, .inr (3, [.ref ra_12, .int (nI n)]))] := hD
  have hP9 := hP.sub (ws' := [(h0, .inr (3, [.ref q0, .int (nI n)])), (q0, .inl (G.2.1, 200, .inl f)), (q_0, .inr (3, [.ref ra_12, .int (nI n)])), (ra_12, .inl (G.2.1, n, .inl v_12))]) [0, 1, 3, 2] rfl
  have hD9 := hD.sub (ws' := [(h0, .inr (3, [.ref q0, .int (nI n)])), (q0, .inl (G.2.1, 200, .inl f)), (q_0, .inr (3, [.ref ra_12, .int (nI n)])), (ra_12, .inl (G.2.1, n, .inl v_12))]) [0, 1, 3, 2] (by decide) rfl
  exact W.aret (v := .ref q_0) hx hb hr (Or.inl ⟨_, rfl⟩) (Or.inr ⟨_, rfl⟩) (fun t9 ht9 hW9 => ⟨⟨(ra_12, v_12), _, rfl, w_12, by rw [ht9]; exact hP9, va_K.moved hW9.alike hK, hD9⟩, hS.F ht9⟩) hS.2.2 dX3_copy_22

set_option maxHeartbeats 4000000 in
set_option maxRecDepth 100000 in
/-- Row() -/
theorem qc_W_init (l : Launch) (G : qG) (h0 : Nat) (ta : Int64) (s1 : Nat) (s2 : Nat) (sz : Nat)  : Met l yX1_init wsX1_init ({ frames := 1, cells := 0, slots := 0, locals := 20 } : Room) (va_Pc [.ref h0, .long ta, .ref s1, .ref s2] (qk_prw G vwCl [(h0, .inr (1, [.long 0, .null, .null]))] sz)) (va_Qv (fun (_ : Unit) => True) (qk_B G vwCl (va_A [(h0, .inr (1, [.long 0, .null, .null]))] sz) (fun (_ : Unit) => [(h0, .inr (1, [.long ta, .ref s1, .ref s2]))])) (va_A [(h0, .inr (1, [.long 0, .null, .null]))] sz)) 0 0 (va_A [(h0, .inr (1, [.long 0, .null, .null]))] sz) := by
  refine Met.ofW (cc := cX1_init) (maxL := 5) (ret := none) (by decide) rfl ?_
  intro p e s m args below meth c s₁ B hml hv
  obtain ⟨rfl, hsz, hP, hK, hD0, hN⟩ := hv
  have hx := B.exec
  have hb := B.bytes
  have hr := B.returns
  have hlocks := B.notSynchronized
  have hts := atoms_spec (ws := wsX1_init) B.pre
  have htb := fun (w : Cond) (h : w ∈ qTb) => hts w (List.mem_cons_of_mem _ h)
  have hown : s.vm.findClass "GradeRows$Row" = some m.cls := findClass_of_methodNamed B.named
  have hin : meth.name = "<init>" := (name_of_methodNamed B.named B.method).1
  subst hsz
  have hD := hD0.self (sz := s.heap.size)
  generalize hAe : va_A [(h0, .inr (1, [.long 0, .null, .null]))] s.heap.size = A at hD ⊢
  have hA : ∀ q : Nat, s.heap.size ≤ q → A q := fun q h => by rw [← hAe]; exact Or.inr h
  have hS : va_S A s.heap s.heap [] := va_S.rf
  have hP : va_P G.1 vwCl [(h0, .inr (1, [.long 0, .null, .null]))] s.heap := hP
  have hl := lv_entry ([.ref h0, .long ta, .ref s1, .ref s2]) (n := 5) (Nat.le_of_ble_eq_true rfl)
  rw [lg_entry_eq]
  generalize (lg_sl ([.ref h0, .long ta, .ref s1, .ref s2]) ++ List.replicate (5 - (lg_sl ([.ref h0, .long ta, .ref s1, .ref s2])).length) Slot.unset).toArray = ls at hl ⊢
  have hl : lv_has ls 5 [(0, .ref h0), (1, .long ta), (3, .ref s1), (4, .ref s2)] := hl
  refine lv_aload_n hx hb dX1_init_0 rfl (lv_at hl 0 rfl) ?_
  refine W.objInit hx hb hown (htb _ qw_380) (htb _ qw_29) (htb _ qw_30) rfl (by rw [hml]; exact hl.1) rfl dX1_init_1 (Nat.le_of_ble_eq_true rfl) (Nat.le_of_ble_eq_true rfl) ?_
  refine W.eq (g2 := F0 m 4 ls []) rfl ?_
  refine lv_aload_n hx hb dX1_init_4 rfl (lv_at hl 0 rfl) ?_
  refine lv_lload_n hx hb dX1_init_5 rfl (lv_at hl 1 rfl) ?_
  refine va_putF (D := G.1) (ci := 1) (v := .long ta) (ty := .long) (C := "GradeRows$Row") (T := TX1) (N := 3) hx hb htb inX1 tyX1 tyX1_ok nmX1 hown hK hP hD hS 0 rfl rfl 0 (by decide) (htb _ qw_381) (fun _ h9 => h9) rfl hin rfl (by decide +kernel) rfl rfl (Nat.le_of_ble_eq_true rfl) dX1_init_6 (fun H locs hP hD hS => ?_)
  have hP : va_P G.1 vwCl [(h0, .inr (1, [.long ta, .null, .null]))] H := hP
  have hD : va_D A [(h0, .inr (1, [.long ta, .null, .null]))] := hD
  refine lv_aload_n hx hb dX1_init_9 rfl (lv_at hl 0 rfl) ?_
  refine lv_aload_n hx hb dX1_init_10 rfl (lv_at hl 2 rfl) ?_
  refine va_putF (D := G.1) (ci := 1) (v := .ref s1) (ty := .object "GradeRows$Sorted") (C := "GradeRows$Row") (T := TX1) (N := 3) hx hb htb inX1 tyX1 tyX1_ok nmX1 hown hK hP hD hS 0 rfl rfl 1 (by decide) (htb _ qw_383) (fun _ h9 => h9) rfl hin rfl (by decide +kernel) rfl rfl (Nat.le_of_ble_eq_true rfl) dX1_init_11 (fun H locs hP hD hS => ?_)
  have hP : va_P G.1 vwCl [(h0, .inr (1, [.long ta, .ref s1, .null]))] H := hP
  have hD : va_D A [(h0, .inr (1, [.long ta, .ref s1, .null]))] := hD
  refine lv_aload_n hx hb dX1_init_14 rfl (lv_at hl 0 rfl) ?_
  refine lv_aload hx hb dX1_init_15 (lv_at hl 3 rfl) ?_
  refine va_putF (D := G.1) (ci := 1) (v := .ref s2) (ty := .object "GradeRows$Sorted") (C := "GradeRows$Row") (T := TX1) (N := 3) hx hb htb inX1 tyX1 tyX1_ok nmX1 hown hK hP hD hS 0 rfl rfl 2 (by decide) (htb _ qw_385) (fun _ h9 => h9) rfl hin rfl (by decide +kernel) rfl rfl (Nat.le_of_ble_eq_true rfl) dX1_init_17 (fun H locs hP hD hS => ?_)
  have hP : va_P G.1 vwCl [(h0, .inr (1, [.long ta, .ref s1, .ref s2]))] H := hP
  have hD : va_D A [(h0, .inr (1, [.long ta, .ref s1, .ref s2]))] := hD
  have hP9 := hP.sub (ws' := [(h0, .inr (1, [.long ta, .ref s1, .ref s2]))]) [0] rfl
  have hD9 := hD.sub (ws' := [(h0, .inr (1, [.long ta, .ref s1, .ref s2]))]) [0] (by decide) rfl
  exact W.vret hx hb hr (fun t9 ht9 hW9 => ⟨⟨(), rfl, trivial, by rw [ht9]; exact hP9, va_K.moved hW9.alike hK, hD9⟩, hS.F ht9⟩) hS.2.2 dX1_init_20

set_option maxHeartbeats 4000000 in
set_option maxRecDepth 100000 in
/-- Steps.toRow -/
theorem qc_T_row (l : Launch) (G : qG) (h0 : Nat) (qr : Nat) (qp : Nat) (qd : Nat) (qc : Nat) (qf : Nat) (qt : Nat) (sp : Nat) (sc : Nat) (n : Nat) (ft : Nat → Int64) (ta : Int64) (q1 : Nat) (f1 : Nat → Int32) (q2 : Nat) (f2 : Nat → Int32) (sz : Nat) (hn : n ≤ 200) (hta : ft n = ta) : Met l yX4_toRow wsX4_toRow ({ frames := 3, cells := 5, slots := 407, locals := 72 } : Room) (va_Pc [.ref h0] (qk_prw G vwCl [(h0, .inr (4, [.ref qr, .ref qp, .ref qd, .ref qc, .ref qf, .ref qt, .ref sp, .ref sc, .int (nI n)])), (qt, .inl (G.2.2.1, 201, .inr (.inl ft))), (sp, .inr (3, [.ref q1, .int (nI n)])), (q1, .inl (G.2.1, 200, .inl f1)), (sc, .inr (3, [.ref q2, .int (nI n)])), (q2, .inl (G.2.1, 200, .inl f2))] sz)) (va_Qr (fun (u : Nat × Nat × Nat × Nat × (Nat → Int32) × (Nat → Int32)) => (∀ j, j < n → u.2.2.2.2.1 j = f1 j) ∧ ∀ j, j < n → u.2.2.2.2.2 j = f2 j) (fun (u : Nat × Nat × Nat × Nat × (Nat → Int32) × (Nat → Int32)) (ra : Nat) => qk_B G vwCl (va_A [(h0, .inr (4, [.ref qr, .ref qp, .ref qd, .ref qc, .ref qf, .ref qt, .ref sp, .ref sc, .int (nI n)])), (qt, .inl (G.2.2.1, 201, .inr (.inl ft))), (sp, .inr (3, [.ref q1, .int (nI n)])), (q1, .inl (G.2.1, 200, .inl f1)), (sc, .inr (3, [.ref q2, .int (nI n)])), (q2, .inl (G.2.1, 200, .inl f2))] sz) (fun (_ : Unit) => [(h0, .inr (4, [.ref qr, .ref qp, .ref qd, .ref qc, .ref qf, .ref qt, .ref sp, .ref sc, .int (nI n)])), (qt, .inl (G.2.2.1, 201, .inr (.inl ft))), (sp, .inr (3, [.ref q1, .int (nI n)])), (q1, .inl (G.2.1, 200, .inl f1)), (sc, .inr (3, [.ref q2, .int (nI n)])), (q2, .inl (G.2.1, 200, .inl f2)), (ra, .inr (1, [.long ta, .ref u.1, .ref u.2.2.1])), (u.1, .inr (3, [.ref u.2.1, .int (nI n)])), (u.2.1, .inl (G.2.1, n, .inl u.2.2.2.2.1)), (u.2.2.1, .inr (3, [.ref u.2.2.2.1, .int (nI n)])), (u.2.2.2.1, .inl (G.2.1, n, .inl u.2.2.2.2.2))]) ()) (va_A [(h0, .inr (4, [.ref qr, .ref qp, .ref qd, .ref qc, .ref qf, .ref qt, .ref sp, .ref sc, .int (nI n)])), (qt, .inl (G.2.2.1, 201, .inr (.inl ft))), (sp, .inr (3, [.ref q1, .int (nI n)])), (q1, .inl (G.2.1, 200, .inl f1)), (sc, .inr (3, [.ref q2, .int (nI n)])), (q2, .inl (G.2.1, 200, .inl f2))] sz)) 5 407 (va_A [(h0, .inr (4, [.ref qr, .ref qp, .ref qd, .ref qc, .ref qf, .ref qt, .ref sp, .ref sc, .int (nI n)])), (qt, .inl (G.2.2.1, 201, .inr (.inl ft))), (sp, .inr (3, [.ref q1, .int (nI n)])), (q1, .inl (G.2.1, 200, .inl f1)), (sc, .inr (3, [.ref q2, .int (nI n)])), (q2, .inl (G.2.1, 200, .inl f2))] sz) := by
  refine Met.ofW (cc := cX4_toRow) (maxL := 1) (ret := (some (.object "GradeRows$Row"))) (by decide) rfl ?_
  intro p e s m args below meth c s₁ B hml hv
  obtain ⟨rfl, hsz, hP, hK, hD0, hN⟩ := hv
  have hx := B.exec
  have hb := B.bytes
  have hr := B.returns
  have hlocks := B.notSynchronized
  have hts := atoms_spec (ws := wsX4_toRow) B.pre
  have htb := fun (w : Cond) (h : w ∈ qTb) => hts w (List.mem_cons_of_mem _ h)
  have hown : s.vm.findClass "GradeRows$Steps" = some m.cls := findClass_of_methodNamed B.named
  subst hsz
  have hD := hD0.self (sz := s.heap.size)
  generalize hAe : va_A [(h0, .inr (4, [.ref qr, .ref qp, .ref qd, .ref qc, .ref qf, .ref qt, .ref sp, .ref sc, .int (nI n)])), (qt, .inl (G.2.2.1, 201, .inr (.inl ft))), (sp, .inr (3, [.ref q1, .int (nI n)])), (q1, .inl (G.2.1, 200, .inl f1)), (sc, .inr (3, [.ref q2, .int (nI n)])), (q2, .inl (G.2.1, 200, .inl f2))] s.heap.size = A at hD ⊢
  have hA : ∀ q : Nat, s.heap.size ≤ q → A q := fun q h => by rw [← hAe]; exact Or.inr h
  have hS : va_S A s.heap s.heap [] := va_S.rf
  have hP : va_P G.1 vwCl [(h0, .inr (4, [.ref qr, .ref qp, .ref qd, .ref qc, .ref qf, .ref qt, .ref sp, .ref sc, .int (nI n)])), (qt, .inl (G.2.2.1, 201, .inr (.inl ft))), (sp, .inr (3, [.ref q1, .int (nI n)])), (q1, .inl (G.2.1, 200, .inl f1)), (sc, .inr (3, [.ref q2, .int (nI n)])), (q2, .inl (G.2.1, 200, .inl f2))] s.heap := hP
  have hl := lv_entry ([.ref h0]) (n := 1) (Nat.le_of_ble_eq_true rfl)
  rw [lg_entry_eq]
  generalize (lg_sl ([.ref h0]) ++ List.replicate (1 - (lg_sl ([.ref h0])).length) Slot.unset).toArray = ls at hl ⊢
  have hl : lv_has ls 1 [(0, .ref h0)] := hl
  refine va_new (ci := 1) (fs := [.long 0, .null, .null]) (C := "GradeRows$Row") (T := TX1) (N := 3) hx hb htb inX1 tyX1 tyX1_ok hown (htb _ qw_355) (htb _ qw_356) (htb _ qw_20) hK hP hD hS hA rfl (fun j hj => by rcases (show j = 0 ∨ j = 1 ∨ j = 2 by omega) with rfl | rfl | rfl <;> rfl) (Nat.le_of_ble_eq_true rfl) (Nat.le_of_ble_eq_true rfl) dX4_toRow_0 (fun q_0 H hP hD hS => ?_)
  have hP : va_P G.1 vwCl [(h0, .inr (4, [.ref qr, .ref qp, .ref qd, .ref qc, .ref qf, .ref qt, .ref sp, .ref sc, .int (nI n)])), (qt, .inl (G.2.2.1, 201, .inr (.inl ft))), (sp, .inr (3, [.ref q1, .int (nI n)])), (q1, .inl (G.2.1, 200, .inl f1)), (sc, .inr (3, [.ref q2, .int (nI n)])), (q2, .inl (G.2.1, 200, .inl f2)), (q_0, .inr (1, [.long 0, .null, .null]))] H := hP
  have hD : va_D A [(h0, .inr (4, [.ref qr, .ref qp, .ref qd, .ref qc, .ref qf, .ref qt, .ref sp, .ref sc, .int (nI n)])), (qt, .inl (G.2.2.1, 201, .inr (.inl ft))), (sp, .inr (3, [.ref q1, .int (nI n)])), (q1, .inl (G.2.1, 200, .inl f1)), (sc, .inr (3, [.ref q2, .int (nI n)])), (q2, .inl (G.2.1, 200, .inl f2)), (q_0, .inr (1, [.long 0, .null, .null]))] := hD
  refine W.widen (k := 1) (n := 3) (Nat.le_of_ble_eq_true rfl) (Nat.le_of_ble_eq_true rfl) ?_
  refine lv_dup hx hb dX4_toRow_3 rfl ?_
  refine lv_aload_n hx hb dX4_toRow_4 rfl (lv_at hl 0 rfl) ?_
  have hPc := hP.sub (ws' := [(h0, .inr (4, [.ref qr, .ref qp, .ref qd, .ref qc, .ref qf, .ref qt, .ref sp, .ref sc, .int (nI n)])), (qt, .inl (G.2.2.1, 201, .inr (.inl ft)))]) [0, 1] rfl
  refine vp_callSl (va_runV (As := []) (rest := [.ref q_0, .ref q_0]) ⟨hx, hb, hml, hown, htb⟩ (qc_T_total l G h0 qr qp qd qc qf qt sp sc n ft ta hn hta) (cwV 0 htb (qW_V qw_251 qw_252 qw_253 qw_15 qw_254) rfl rfl rfl (by decide +kernel) ⟨Nat.le_of_ble_eq_true rfl, Nat.le_of_ble_eq_true rfl⟩) (qk_pv (ci := 4) (q0 := 0) hK hPc hN rfl rfl) rfl rfl hl.1 rfl (lv_room (Nat.le_of_ble_eq_true rfl)) dX4_toRow_5 ⟨Nat.le_of_ble_eq_true rfl, Nat.le_of_ble_eq_true rfl⟩).run (fun r_5 e_5 => ?_)
  have e_5 := e_5.symm
  subst e_5
  refine lv_aload_n hx hb dX4_toRow_8 rfl (lv_at hl 0 rfl) ?_
  refine va_get (D := G.1) (ci := 4) (v := .ref sp) (C := "GradeRows$Steps") (T := TX4) (N := 9) hx hb htb inX4 hown hK hP 0 rfl rfl 6 (by decide) (htb _ qw_81) (fun _ h9 => h9) rfl dX4_toRow_9 ?_
  have hPc := hP.sub (ws' := [(sp, .inr (3, [.ref q1, .int (nI n)])), (q1, .inl (G.2.1, 200, .inl f1))]) [2, 3] rfl
  have hDc := hD.sub (ws' := [(sp, .inr (3, [.ref q1, .int (nI n)])), (q1, .inl (G.2.1, 200, .inl f1))]) [2, 3] (by decide) rfl
  have hFc := va_free (wc := [(sp, .inr (3, [.ref q1, .int (nI n)])), (q1, .inl (G.2.1, 200, .inl f1))]) hD hS hA [2, 3] rfl
  refine va_callr (va_runV (As := []) (rest := [.long ta, .ref q_0, .ref q_0]) ⟨hx, hb, hml, hown, htb⟩ (qc_S_copy l G sp q1 n f1 H.size hn) (cwV 0 htb (qW_V qw_357 qw_358 qw_359 qw_16 qw_360) rfl rfl rfl (by decide +kernel) ⟨Nat.le_of_ble_eq_true rfl, Nat.le_of_ble_eq_true rfl⟩) (qk_pvw (ci := 3) (q0 := 0) hK hPc hN hDc rfl rfl) rfl rfl hl.1 rfl (lv_room (Nat.le_of_ble_eq_true rfl)) dX4_toRow_12 ⟨Nat.le_of_ble_eq_true rfl, Nat.le_of_ble_eq_true rfl⟩) hS (fun q _ h => hFc q h) hFc (fun u_12 ra_12 t9 H1 locs ht9 hvm w_12 hB hz1 hk1 hS => ?_)
  obtain ⟨v_12, rfl⟩ : ∃ z, z = u_12 := ⟨_, rfl⟩
  obtain ⟨hP1, hK1, hD1⟩ := hB
  rw [ht9] at hP1
  obtain ⟨hP, hD⟩ := va_join (wr := [(h0, .inr (4, [.ref qr, .ref qp, .ref qd, .ref qc, .ref qf, .ref qt, .ref sp, .ref sc, .int (nI n)])), (qt, .inl (G.2.2.1, 201, .inr (.inl ft))), (sc, .inr (3, [.ref q2, .int (nI n)])), (q2, .inl (G.2.1, 200, .inl f2)), (q_0, .inr (1, [.long 0, .null, .null]))]) (w1 := [(sp, .inr (3, [.ref q1, .int (nI n)])), (q1, .inl (G.2.1, 200, .inl f1)), (ra_12, .inr (3, [.ref v_12.1, .int (nI n)])), (v_12.1, .inl (G.2.1, n, .inl v_12.2))]) hP hD [2, 3] [0, 1, 4, 5, 6] rfl rfl (by decide) (by decide) hk1 hFc hP1 hD1
  generalize H1 = H at hP hS ⊢
  have hP : va_P G.1 vwCl [(h0, .inr (4, [.ref qr, .ref qp, .ref qd, .ref qc, .ref qf, .ref qt, .ref sp, .ref sc, .int (nI n)])), (qt, .inl (G.2.2.1, 201, .inr (.inl ft))), (sc, .inr (3, [.ref q2, .int (nI n)])), (q2, .inl (G.2.1, 200, .inl f2)), (q_0, .inr (1, [.long 0, .null, .null])), (sp, .inr (3, [.ref q1, .int (nI n)])), (q1, .inl (G.2.1, 200, .inl f1)), (ra_12, .inr (3, [.ref v_12.1, .int (nI n)])), (v_12.1, .inl (G.2.1, n, .inl v_12.2))] H := hP
  have hD : va_D A [(h0, .inr (4, [.ref qr, .ref qp, .ref qd, .ref qc, .ref qf, .ref qt, .ref sp, .ref sc, .int (nI n)])), (qt, .inl (G.2.2.1, 201, .inr (.inl ft))), (sc, .inr (3, [.ref q2, .int (nI n)])), (q2, .inl (G.2.1, 200, .inl f2)), (q_0, .inr (1, [.long 0, .null, .null])), (sp, .inr (3, [.ref q1, .int (nI n)])), (q1, .inl (G.2.1, 200, .inl f1)), (ra_12, .inr (3, [.ref v_12.1, .int (nI n)])), (v_12.1, .inl (G.2.1, n, .inl v_12.2))] := hD
  refine W.widen (k := 3) (n := 205) (Nat.le_of_ble_eq_true rfl) (Nat.le_of_ble_eq_true rfl) ?_
  refine lv_aload_n hx hb dX4_toRow_15 rfl (lv_at hl 0 rfl) ?_
  refine va_get (D := G.1) (ci := 4) (v := .ref sc) (C := "GradeRows$Steps") (T := TX4) (N := 9) hx hb htb inX4 hown hK hP 0 rfl rfl 7 (by decide) (htb _ qw_82) (fun _ h9 => h9) rfl dX4_toRow_16 ?_
  have hPc := hP.sub (ws' := [(sc, .inr (3, [.ref q2, .int (nI n)])), (q2, .inl (G.2.1, 200, .inl f2))]) [2, 3] rfl
  have hDc := hD.sub (ws' := [(sc, .inr (3, [.ref q2, .int (nI n)])), (q2, .inl (G.2.1, 200, .inl f2))]) [2, 3] (by decide) rfl
  have hFc := va_free (wc := [(sc, .inr (3, [.ref q2, .int (nI n)])), (q2, .inl (G.2.1, 200, .inl f2))]) hD hS hA [2, 3] rfl
  refine va_callr (va_runV (As := []) (rest := [.ref ra_12, .long ta, .ref q_0, .ref q_0]) ⟨hx, hb, hml, hown, htb⟩ (qc_S_copy l G sc q2 n f2 H.size hn) (cwV 0 htb (qW_V qw_357 qw_358 qw_359 qw_16 qw_360) rfl rfl rfl (by decide +kernel) ⟨Nat.le_of_ble_eq_true rfl, Nat.le_of_ble_eq_true rfl⟩) (qk_pvw (ci := 3) (q0 := 0) hK hPc hN hDc rfl rfl) rfl rfl hl.1 rfl (lv_room (Nat.le_of_ble_eq_true rfl)) dX4_toRow_19 ⟨Nat.le_of_ble_eq_true rfl, Nat.le_of_ble_eq_true rfl⟩) hS (fun q _ h => hFc q h) hFc (fun u_19 ra_19 t9 H1 locs ht9 hvm w_19 hB hz1 hk1 hS => ?_)
  obtain ⟨v_19, rfl⟩ : ∃ z, z = u_19 := ⟨_, rfl⟩
  obtain ⟨hP1, hK1, hD1⟩ := hB
  rw [ht9] at hP1
  obtain ⟨hP, hD⟩ := va_join (wr := [(h0, .inr (4, [.ref qr, .ref qp, .ref qd, .ref qc, .ref qf, .ref qt, .ref sp, .ref sc, .int (nI n)])), (qt, .inl (G.2.2.1, 201, .inr (.inl ft))), (q_0, .inr (1, [.long 0, .null, .null])), (sp, .inr (3, [.ref q1, .int (nI n)])), (q1, .inl (G.2.1, 200, .inl f1)), (ra_12, .inr (3, [.ref v_12.1, .int (nI n)])), (v_12.1, .inl (G.2.1, n, .inl v_12.2))]) (w1 := [(sc, .inr (3, [.ref q2, .int (nI n)])), (q2, .inl (G.2.1, 200, .inl f2)), (ra_19, .inr (3, [.ref v_19.1, .int (nI n)])), (v_19.1, .inl (G.2.1, n, .inl v_19.2))]) hP hD [2, 3] [0, 1, 4, 5, 6, 7, 8] rfl rfl (by decide) (by decide) hk1 hFc hP1 hD1
  generalize H1 = H at hP hS ⊢
  have hP : va_P G.1 vwCl [(h0, .inr (4, [.ref qr, .ref qp, .ref qd, .ref qc, .ref qf, .ref qt, .ref sp, .ref sc, .int (nI n)])), (qt, .inl (G.2.2.1, 201, .inr (.inl ft))), (q_0, .inr (1, [.long 0, .null, .null])), (sp, .inr (3, [.ref q1, .int (nI n)])), (q1, .inl (G.2.1, 200, .inl f1)), (ra_12, .inr (3, [.ref v_12.1, .int (nI n)])), (v_12.1, .inl (G.2.1, n, .inl v_12.2)), (sc, .inr (3, [.ref q2, .int (nI n)])), (q2, .inl (G.2.1, 200, .inl f2)), (ra_19, .inr (3, [.ref v_19.1, .int (nI n)])), (v_19.1, .inl (G.2.1, n, .inl v_19.2))] H := hP
  have hD : va_D A [(h0, .inr (4, [.ref qr, .ref qp, .ref qd, .ref qc, .ref qf, .ref qt, .ref sp, .ref sc, .int (nI n)])), (qt, .inl (G.2.2.1, 201, .inr (.inl ft))), (q_0, .inr (1, [.long 0, .null, .null])), (sp, .inr (3, [.ref q1, .int (nI n)])), (q1, .inl (G.2.1, 200, .inl f1)), (ra_12, .inr (3, [.ref v_12.1, .int (nI n)])), (v_12.1, .inl (G.2.1, n, .inl v_12.2)), (sc, .inr (3, [.ref q2, .int (nI n)])), (q2, .inl (G.2.1, 200, .inl f2)), (ra_19, .inr (3, [.ref v_19.1, .int (nI n)])), (v_19.1, .inl (G.2.1, n, .inl v_19.2))] := hD
  refine W.widen (k := 5) (n := 407) (Nat.le_of_ble_eq_true rfl) (Nat.le_of_ble_eq_true rfl) ?_
  have hPc := hP.sub (ws' := [(q_0, .inr (1, [.long 0, .null, .null]))]) [2] rfl
  have hDc := hD.sub (ws' := [(q_0, .inr (1, [.long 0, .null, .null]))]) [2] (by decide) rfl
  have hFc := va_free (wc := [(q_0, .inr (1, [.long 0, .null, .null]))]) hD hS hA [2] rfl
  refine va_callv (va_runI (As := [.long ta, .ref ra_12, .ref ra_19]) (rest := [.ref q_0]) ⟨hx, hb, hml, hown, htb⟩ (qc_W_init l G q_0 ta ra_12 ra_19 H.size) (cwI 3 htb (qW_good qw_379) rfl rfl rfl (htb _ qw_20) (htb _ qw_377) (htb _ qw_378) rfl (by decide +kernel) ⟨Nat.le_of_ble_eq_true rfl, Nat.le_of_ble_eq_true rfl⟩) (qk_psw hK hPc hN hDc) rfl rfl hl.1 rfl (lv_room (Nat.le_of_ble_eq_true rfl)) dX4_toRow_22 ⟨Nat.le_of_ble_eq_true rfl, Nat.le_of_ble_eq_true rfl⟩) hS (fun q _ h => hFc q h) hFc (fun u_22 t9 H1 locs ht9 hvm w_22 hB hz1 hk1 hS => ?_)
  obtain ⟨v_22, rfl⟩ : ∃ z, z = u_22 := ⟨_, rfl⟩
  obtain ⟨hP1, hK1, hD1⟩ := hB
  rw [ht9] at hP1
  obtain ⟨hP, hD⟩ := va_join (wr := [(h0, .inr (4, [.ref qr, .ref qp, .ref qd, .ref qc, .ref qf, .ref qt, .ref sp, .ref sc, .int (nI n)])), (qt, .inl (G.2.2.1, 201, .inr (.inl ft))), (sp, .inr (3, [.ref q1, .int (nI n)])), (q1, .inl (G.2.1, 200, .inl f1)), (ra_12, .inr (3, [.ref v_12.1, .int (nI n)])), (v_12.1, .inl (G.2.1, n, .inl v_12.2)), (sc, .inr (3, [.ref q2, .int (nI n)])), (q2, .inl (G.2.1, 200, .inl f2)), (ra_19, .inr (3, [.ref v_19.1, .int (nI n)])), (v_19.1, .inl (G.2.1, n, .inl v_19.2))]) (w1 := [(q_0, .inr (1, [.long ta, .ref ra_12, .ref ra_19]))]) hP hD [2] [0, 1, 3, 4, 5, 6, 7, 8, 9, 10] rfl rfl (by decide) (by decide) hk1 hFc hP1 hD1
  generalize H1 = H at hP hS ⊢
  have hP : va_P G.1 vwCl [(h0, .inr (4, [.ref qr, .ref qp, .ref qd, .ref qc, .ref qf, .ref qt, .ref sp, .ref sc, .int (nI n)])), (qt, .inl (G.2.2.1, 201, .inr (.inl ft))), (sp, .inr (3, [.ref q1, .int (nI n)])), (q1, .inl (G.2.1, 200, .inl f1)), (ra_12, .inr (3, [.ref v_12.1, .int (nI n)])), (v_12.1, .inl (G.2.1, n, .inl v_12.2)), (sc, .inr (3, [.ref q2, .int (nI n)])), (q2, .inl (G.2.1, 200, .inl f2)), (ra_19, .inr (3, [.ref v_19.1, .int (nI n)])), (v_19.1, .inl (G.2.1, n, .inl v_19.2)), (q_0, .inr (1, [.long ta, .ref ra_12, .ref ra_19]))] H := hP
  have hD : va_D A [(h0, .inr (4, [.ref qr, .ref qp, .ref qd, .ref qc, .ref qf, .ref qt, .ref sp, .ref sc, .int (nI n)])), (qt, .inl (G.2.2.1, 201, .inr (.inl ft))), (sp, .inr (3, [.ref q1, .int (nI n)])), (q1, .inl (G.2.1, 200, .inl f1)), (ra_12, .inr (3, [.ref v_12.1, .int (nI n)])), (v_12.1, .inl (G.2.1, n, .inl v_12.2)), (sc, .inr (3, [.ref q2, .int (nI n)])), (q2, .inl (G.2.1, 200, .inl f2)), (ra_19, .inr (3, [.ref v_19.1, .int (nI n)])), (v_19.1, .inl (G.2.1, n, .inl v_19.2)), (q_0, .inr (1, [.long ta, .ref ra_12, .ref ra_19]))] := hD
  have hP9 := hP.sub (ws' := [(h0, .inr (4, [.ref qr, .ref qp, .ref qd, .ref qc, .ref qf, .ref qt, .ref sp, .ref sc, .int (nI n)])), (qt, .inl (G.2.2.1, 201, .inr (.inl ft))), (sp, .inr (3, [.ref q1, .int (nI n)])), (q1, .inl (G.2.1, 200, .inl f1)), (sc, .inr (3, [.ref q2, .int (nI n)])), (q2, .inl (G.2.1, 200, .inl f2)), (q_0, .inr (1, [.long ta, .ref ra_12, .ref ra_19])), (ra_12, .inr (3, [.ref v_12.1, .int (nI n)])), (v_12.1, .inl (G.2.1, n, .inl v_12.2)), (ra_19, .inr (3, [.ref v_19.1, .int (nI n)])), (v_19.1, .inl (G.2.1, n, .inl v_19.2))]) [0, 1, 2, 3, 6, 7, 10, 4, 5, 8, 9] rfl
  have hD9 := hD.sub (ws' := [(h0, .inr (4, [.ref qr, .ref qp, .ref qd, .ref qc, .ref qf, .ref qt, .ref sp, .ref sc, .int (nI n)])), (qt, .inl (G.2.2.1, 201, .inr (.inl ft))), (sp, .inr (3, [.ref q1, .int (nI n)])), (q1, .inl (G.2.1, 200, .inl f1)), (sc, .inr (3, [.ref q2, .int (nI n)])), (q2, .inl (G.2.1, 200, .inl f2)), (q_0, .inr (1, [.long ta, .ref ra_12, .ref ra_19])), (ra_12, .inr (3, [.ref v_12.1, .int (nI n)])), (v_12.1, .inl (G.2.1, n, .inl v_12.2)), (ra_19, .inr (3, [.ref v_19.1, .int (nI n)])), (v_19.1, .inl (G.2.1, n, .inl v_19.2))]) [0, 1, 2, 3, 6, 7, 10, 4, 5, 8, 9] (by decide) rfl
  exact W.aret (v := .ref q_0) hx hb hr (Or.inl ⟨_, rfl⟩) (Or.inr ⟨_, rfl⟩) (fun t9 ht9 hW9 => ⟨⟨(ra_12, v_12.1, ra_19, v_19.1, v_12.2, v_19.2), _, rfl, ⟨w_12, w_19⟩, by rw [ht9]; exact hP9, va_K.moved hW9.alike hK, hD9⟩, hS.F ht9⟩) hS.2.2 dX4_toRow_25
