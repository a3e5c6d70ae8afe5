-- qc_ctors
set_option maxHeartbeats 4000000 in
set_option maxRecDepth 100000 in
/-- Rules() -/
theorem qc_R_init (l : Launch) (G : qG) (h0 : Nat) (sz : Nat)  : Met l yX2_init wsX2_init ({ frames := 1, cells := 4, slots := 160, locals := 20 } : Room) (va_Pc [.ref h0] (qk_prw G vwCl [(h0, .inr (2, [.null, .null, .null, .null, .int 0]))] sz)) (va_Qv (fun (u : Nat × Nat × Nat × Nat) => True) (qk_B G vwCl (va_A [(h0, .inr (2, [.null, .null, .null, .null, .int 0]))] sz) (fun (u : Nat × Nat × Nat × Nat) => [(h0, .inr (2, [.ref u.1, .ref u.2.1, .ref u.2.2.1, .ref u.2.2.2, .int (nI 0)])), (u.1, .inl (G.2.1, 40, .inl (fun _ => 0))), (u.2.1, .inl (G.2.1, 40, .inl (fun _ => 0))), (u.2.2.1, .inl (G.2.1, 40, .inl (fun _ => 0))), (u.2.2.2, .inl (G.2.2.1, 40, .inr (.inl (fun _ => 0))))])) (va_A [(h0, .inr (2, [.null, .null, .null, .null, .int 0]))] sz)) 4 160 (va_A [(h0, .inr (2, [.null, .null, .null, .null, .int 0]))] sz) := by
  refine Met.ofW (cc := cX2_init) (maxL := 1) (ret := none) (by decide) rfl ?_
  intro p e s m args below meth c s₁ B hml hv
  obtain ⟨rfl, hsz, hP, hK, hD0, hN⟩ := hv
  have hx := B.exec
  have hb := B.bytes
  have hr := B.returns
  have hlocks := B.notSynchronized
  have hts := atoms_spec (ws := wsX2_init) B.pre
  have htb := fun (w : Cond) (h : w ∈ qTb) => hts w (List.mem_cons_of_mem _ h)
  have hown : s.vm.findClass "GradeRows$Rules" = some m.cls := findClass_of_methodNamed B.named
  have hin : meth.name = "<init>" := (name_of_methodNamed B.named B.method).1
  subst hsz
  have hD := hD0.self (sz := s.heap.size)
  generalize hAe : va_A [(h0, .inr (2, [.null, .null, .null, .null, .int 0]))] s.heap.size = A at hD ⊢
  have hA : ∀ q : Nat, s.heap.size ≤ q → A q := fun q h => by rw [← hAe]; exact Or.inr h
  have hS : va_S A s.heap s.heap [] := va_S.rf
  have hP : va_P G.1 vwCl [(h0, .inr (2, [.null, .null, .null, .null, .int 0]))] s.heap := hP
  have hl := lv_entry ([.ref h0]) (n := 1) (Nat.le_of_ble_eq_true rfl)
  rw [lg_entry_eq]
  generalize (lg_sl ([.ref h0]) ++ List.replicate (1 - (lg_sl ([.ref h0])).length) Slot.unset).toArray = ls at hl ⊢
  have hl : lv_has ls 1 [(0, .ref h0)] := hl
  refine lv_aload_n hx hb dX2_init_0 rfl (lv_at hl 0 rfl) ?_
  refine W.objInit hx hb hown (htb _ qw_36) (htb _ qw_29) (htb _ qw_30) rfl (by rw [hml]; exact hl.1) rfl dX2_init_1 (Nat.le_of_ble_eq_true rfl) (Nat.le_of_ble_eq_true rfl) ?_
  refine W.eq (g2 := F0 m 4 ls []) rfl ?_
  refine lv_aload_n hx hb dX2_init_4 rfl (lv_at hl 0 rfl) ?_
  refine lv_bipush (v := nI 40) hx hb dX2_init_5 (by decide) ?_
  refine va_newa (atype := .int) (ty := .int) (a0 := (40, .inl (fun _ => 0))) hx hb (htb _ qw_53) rfl hK hP hD hS hA (fun _ => rfl) (by decide) (by decide) (by decide) (Nat.le_of_ble_eq_true rfl) (Nat.le_of_ble_eq_true rfl) dX2_init_7 (fun q_7 cA_7 H hK2 hP hD hS => ?_)
  have e_7 := qk_one hK2 (i := 4) (j := 0) rfl rfl
  subst e_7
  have hP : va_P G.1 vwCl [(h0, .inr (2, [.null, .null, .null, .null, .int 0])), (q_7, .inl (G.2.1, 40, .inl (fun _ => 0)))] H := hP
  have hD : va_D A [(h0, .inr (2, [.null, .null, .null, .null, .int 0])), (q_7, .inl (G.2.1, 40, .inl (fun _ => 0)))] := hD
  refine W.widen (k := 1) (n := 40) (Nat.le_of_ble_eq_true rfl) (Nat.le_of_ble_eq_true rfl) ?_
  refine va_putF (D := G.1) (ci := 2) (v := .ref q_7) (ty := .array .int) (C := "GradeRows$Rules") (T := TX2) (N := 5) hx hb htb inX2 tyX2 tyX2_ok nmX2 hown hK hP hD hS 0 rfl rfl 0 (by decide) (htb _ qw_37) (fun _ h9 => h9) rfl hin rfl (by decide +kernel) rfl rfl (Nat.le_of_ble_eq_true rfl) dX2_init_9 (fun H locs hP hD hS => ?_)
  have hP : va_P G.1 vwCl [(h0, .inr (2, [.ref q_7, .null, .null, .null, .int 0])), (q_7, .inl (G.2.1, 40, .inl (fun _ => 0)))] H := hP
  have hD : va_D A [(h0, .inr (2, [.ref q_7, .null, .null, .null, .int 0])), (q_7, .inl (G.2.1, 40, .inl (fun _ => 0)))] := hD
  refine lv_aload_n hx hb dX2_init_12 rfl (lv_at hl 0 rfl) ?_
  refine lv_bipush (v := nI 40) hx hb dX2_init_13 (by decide) ?_
  refine va_newa (atype := .int) (ty := .int) (a0 := (40, .inl (fun _ => 0))) hx hb (htb _ qw_53) rfl hK hP hD hS hA (fun _ => rfl) (by decide) (by decide) (by decide) (Nat.le_of_ble_eq_true rfl) (Nat.le_of_ble_eq_true rfl) dX2_init_15 (fun q_15 cA_15 H hK2 hP hD hS => ?_)
  have e_15 := qk_one hK2 (i := 4) (j := 0) rfl rfl
  subst e_15
  have hP : va_P G.1 vwCl [(h0, .inr (2, [.ref q_7, .null, .null, .null, .int 0])), (q_7, .inl (G.2.1, 40, .inl (fun _ => 0))), (q_15, .inl (G.2.1, 40, .inl (fun _ => 0)))] H := hP
  have hD : va_D A [(h0, .inr (2, [.ref q_7, .null, .null, .null, .int 0])), (q_7, .inl (G.2.1, 40, .inl (fun _ => 0))), (q_15, .inl (G.2.1, 40, .inl (fun _ => 0)))] := hD
  refine W.widen (k := 2) (n := 80) (Nat.le_of_ble_eq_true rfl) (Nat.le_of_ble_eq_true rfl) ?_
  refine va_putF (D := G.1) (ci := 2) (v := .ref q_15) (ty := .array .int) (C := "GradeRows$Rules") (T := TX2) (N := 5) hx hb htb inX2 tyX2 tyX2_ok nmX2 hown hK hP hD hS 0 rfl rfl 1 (by decide) (htb _ qw_38) (fun _ h9 => h9) rfl hin rfl (by decide +kernel) rfl rfl (Nat.le_of_ble_eq_true rfl) dX2_init_17 (fun H locs hP hD hS => ?_)
  have hP : va_P G.1 vwCl [(h0, .inr (2, [.ref q_7, .ref q_15, .null, .null, .int 0])), (q_7, .inl (G.2.1, 40, .inl (fun _ => 0))), (q_15, .inl (G.2.1, 40, .inl (fun _ => 0)))] H := hP
  have hD : va_D A [(h0, .inr (2, [.ref q_7, .ref q_15, .null, .null, .int 0])), (q_7, .inl (G.2.1, 40, .inl (fun _ => 0))), (q_15, .inl (G.2.1, 40, .inl (fun _ => 0)))] := hD
  refine lv_aload_n hx hb dX2_init_20 rfl (lv_at hl 0 rfl) ?_
  refine lv_bipush (v := nI 40) hx hb dX2_init_21 (by decide) ?_
  refine va_newa (atype := .int) (ty := .int) (a0 := (40, .inl (fun _ => 0))) hx hb (htb _ qw_53) rfl hK hP hD hS hA (fun _ => rfl) (by decide) (by decide) (by decide) (Nat.le_of_ble_eq_true rfl) (Nat.le_of_ble_eq_true rfl) dX2_init_23 (fun q_23 cA_23 H hK2 hP hD hS => ?_)
  have e_23 := qk_one hK2 (i := 4) (j := 0) rfl rfl
  subst e_23
  have hP : va_P G.1 vwCl [(h0, .inr (2, [.ref q_7, .ref q_15, .null, .null, .int 0])), (q_7, .inl (G.2.1, 40, .inl (fun _ => 0))), (q_15, .inl (G.2.1, 40, .inl (fun _ => 0))), (q_23, .inl (G.2.1, 40, .inl (fun _ => 0)))] H := hP
  have hD : va_D A [(h0, .inr (2, [.ref q_7, .ref q_15, .null, .null, .int 0])), (q_7, .inl (G.2.1, 40, .inl (fun _ => 0))), (q_15, .inl (G.2.1, 40, .inl (fun _ => 0))), (q_23, .inl (G.2.1, 40, .inl (fun _ => 0)))] := hD
  refine W.widen (k := 3) (n := 120) (Nat.le_of_ble_eq_true rfl) (Nat.le_of_ble_eq_true rfl) ?_
  refine va_putF (D := G.1) (ci := 2) (v := .ref q_23) (ty := .array .int) (C := "GradeRows$Rules") (T := TX2) (N := 5) hx hb htb inX2 tyX2 tyX2_ok nmX2 hown hK hP hD hS 0 rfl rfl 2 (by decide) (htb _ qw_39) (fun _ h9 => h9) rfl hin rfl (by decide +kernel) rfl rfl (Nat.le_of_ble_eq_true rfl) dX2_init_25 (fun H locs hP hD hS => ?_)
  have hP : va_P G.1 vwCl [(h0, .inr (2, [.ref q_7, .ref q_15, .ref q_23, .null, .int 0])), (q_7, .inl (G.2.1, 40, .inl (fun _ => 0))), (q_15, .inl (G.2.1, 40, .inl (fun _ => 0))), (q_23, .inl (G.2.1, 40, .inl (fun _ => 0)))] H := hP
  have hD : va_D A [(h0, .inr (2, [.ref q_7, .ref q_15, .ref q_23, .null, .int 0])), (q_7, .inl (G.2.1, 40, .inl (fun _ => 0))), (q_15, .inl (G.2.1, 40, .inl (fun _ => 0))), (q_23, .inl (G.2.1, 40, .inl (fun _ => 0)))] := hD
  refine lv_aload_n hx hb dX2_init_28 rfl (lv_at hl 0 rfl) ?_
  refine lv_bipush (v := nI 40) hx hb dX2_init_29 (by decide) ?_
  refine va_newa (atype := .long) (ty := .long) (a0 := (40, .inr (.inl (fun _ => 0)))) hx hb (htb _ qw_54) rfl hK hP hD hS hA (fun _ => rfl) (by decide) (by decide) (by decide) (Nat.le_of_ble_eq_true rfl) (Nat.le_of_ble_eq_true rfl) dX2_init_31 (fun q_31 cA_31 H hK2 hP hD hS => ?_)
  have e_31 := qk_one hK2 (i := 4) (j := 1) rfl rfl
  subst e_31
  have hP : va_P G.1 vwCl [(h0, .inr (2, [.ref q_7, .ref q_15, .ref q_23, .null, .int 0])), (q_7, .inl (G.2.1, 40, .inl (fun _ => 0))), (q_15, .inl (G.2.1, 40, .inl (fun _ => 0))), (q_23, .inl (G.2.1, 40, .inl (fun _ => 0))), (q_31, .inl (G.2.2.1, 40, .inr (.inl (fun _ => 0))))] H := hP
  have hD : va_D A [(h0, .inr (2, [.ref q_7, .ref q_15, .ref q_23, .null, .int 0])), (q_7, .inl (G.2.1, 40, .inl (fun _ => 0))), (q_15, .inl (G.2.1, 40, .inl (fun _ => 0))), (q_23, .inl (G.2.1, 40, .inl (fun _ => 0))), (q_31, .inl (G.2.2.1, 40, .inr (.inl (fun _ => 0))))] := hD
  refine W.widen (k := 4) (n := 160) (Nat.le_of_ble_eq_true rfl) (Nat.le_of_ble_eq_true rfl) ?_
  refine va_putF (D := G.1) (ci := 2) (v := .ref q_31) (ty := .array .long) (C := "GradeRows$Rules") (T := TX2) (N := 5) hx hb htb inX2 tyX2 tyX2_ok nmX2 hown hK hP hD hS 0 rfl rfl 3 (by decide) (htb _ qw_40) (fun _ h9 => h9) rfl hin rfl (by decide +kernel) rfl rfl (Nat.le_of_ble_eq_true rfl) dX2_init_33 (fun H locs hP hD hS => ?_)
  have hP : va_P G.1 vwCl [(h0, .inr (2, [.ref q_7, .ref q_15, .ref q_23, .ref q_31, .int 0])), (q_7, .inl (G.2.1, 40, .inl (fun _ => 0))), (q_15, .inl (G.2.1, 40, .inl (fun _ => 0))), (q_23, .inl (G.2.1, 40, .inl (fun _ => 0))), (q_31, .inl (G.2.2.1, 40, .inr (.inl (fun _ => 0))))] H := hP
  have hD : va_D A [(h0, .inr (2, [.ref q_7, .ref q_15, .ref q_23, .ref q_31, .int 0])), (q_7, .inl (G.2.1, 40, .inl (fun _ => 0))), (q_15, .inl (G.2.1, 40, .inl (fun _ => 0))), (q_23, .inl (G.2.1, 40, .inl (fun _ => 0))), (q_31, .inl (G.2.2.1, 40, .inr (.inl (fun _ => 0))))] := hD
  refine lv_aload_n hx hb dX2_init_36 rfl (lv_at hl 0 rfl) ?_
  refine lv_iconst (v := nI 0) hx hb dX2_init_37 (by decide) ?_
  refine va_put (D := G.1) (ci := 2) (v := .int (nI 0)) (ty := .int) (C := "GradeRows$Rules") (T := TX2) (N := 5) hx hb htb inX2 tyX2 tyX2_ok nmX2 hown hK hP hD hS 0 rfl rfl 4 (by decide) (htb _ qw_41) (fun _ h9 => h9) rfl (by decide +kernel) rfl rfl (Nat.le_of_ble_eq_true rfl) dX2_init_38 (fun H locs hP hD hS => ?_)
  have hP : va_P G.1 vwCl [(h0, .inr (2, [.ref q_7, .ref q_15, .ref q_23, .ref q_31, .int (nI 0)])), (q_7, .inl (G.2.1, 40, .inl (fun _ => 0))), (q_15, .inl (G.2.1, 40, .inl (fun _ => 0))), (q_23, .inl (G.2.1, 40, .inl (fun _ => 0))), (q_31, .inl (G.2.2.1, 40, .inr (.inl (fun _ => 0))))] H := hP
  have hD : va_D A [(h0, .inr (2, [.ref q_7, .ref q_15, .ref q_23, .ref q_31, .int (nI 0)])), (q_7, .inl (G.2.1, 40, .inl (fun _ => 0))), (q_15, .inl (G.2.1, 40, .inl (fun _ => 0))), (q_23, .inl (G.2.1, 40, .inl (fun _ => 0))), (q_31, .inl (G.2.2.1, 40, .inr (.inl (fun _ => 0))))] := hD
  have hP9 := hP.sub (ws' := [(h0, .inr (2, [.ref q_7, .ref q_15, .ref q_23, .ref q_31, .int (nI 0)])), (q_7, .inl (G.2.1, 40, .inl (fun _ => 0))), (q_15, .inl (G.2.1, 40, .inl (fun _ => 0))), (q_23, .inl (G.2.1, 40, .inl (fun _ => 0))), (q_31, .inl (G.2.2.1, 40, .inr (.inl (fun _ => 0))))]) [0, 1, 2, 3, 4] rfl
  have hD9 := hD.sub (ws' := [(h0, .inr (2, [.ref q_7, .ref q_15, .ref q_23, .ref q_31, .int (nI 0)])), (q_7, .inl (G.2.1, 40, .inl (fun _ => 0))), (q_15, .inl (G.2.1, 40, .inl (fun _ => 0))), (q_23, .inl (G.2.1, 40, .inl (fun _ => 0))), (q_31, .inl (G.2.2.1, 40, .inr (.inl (fun _ => 0))))]) [0, 1, 2, 3, 4] (by decide) rfl
  exact W.vret hx hb hr (fun t9 ht9 hW9 => ⟨⟨(q_7, q_15, q_23, q_31), rfl, trivial, by rw [ht9]; exact hP9, va_K.moved hW9.alike hK, hD9⟩, hS.F ht9⟩) hS.2.2 dX2_init_41

set_option maxHeartbeats 4000000 in
set_option maxRecDepth 100000 in
/-- Classes() -/
theorem qc_C_init (l : Launch) (G : qG) (h0 : Nat) (sz : Nat)  : Met l yX0_init wsX0_init ({ frames := 1, cells := 2, slots := 40, locals := 20 } : Room) (va_Pc [.ref h0] (qk_prw G vwCl [(h0, .inr (0, [.null, .null, .int 0]))] sz)) (va_Qv (fun (u : Nat × Nat) => True) (qk_B G vwCl (va_A [(h0, .inr (0, [.null, .null, .int 0]))] sz) (fun (u : Nat × Nat) => [(h0, .inr (0, [.ref u.1, .ref u.2, .int (nI 0)])), (u.1, .inl (G.2.2.1, 20, .inr (.inl (fun _ => 0)))), (u.2, .inl (G.2.2.1, 20, .inr (.inl (fun _ => 0))))])) (va_A [(h0, .inr (0, [.null, .null, .int 0]))] sz)) 2 40 (va_A [(h0, .inr (0, [.null, .null, .int 0]))] sz) := by
  refine Met.ofW (cc := cX0_init) (maxL := 1) (ret := none) (by decide) rfl ?_
  intro p e s m args below meth c s₁ B hml hv
  obtain ⟨rfl, hsz, hP, hK, hD0, hN⟩ := hv
  have hx := B.exec
  have hb := B.bytes
  have hr := B.returns
  have hlocks := B.notSynchronized
  have hts := atoms_spec (ws := wsX0_init) B.pre
  have htb := fun (w : Cond) (h : w ∈ qTb) => hts w (List.mem_cons_of_mem _ h)
  have hown : s.vm.findClass "GradeRows$Classes" = some m.cls := findClass_of_methodNamed B.named
  have hin : meth.name = "<init>" := (name_of_methodNamed B.named B.method).1
  subst hsz
  have hD := hD0.self (sz := s.heap.size)
  generalize hAe : va_A [(h0, .inr (0, [.null, .null, .int 0]))] s.heap.size = A at hD ⊢
  have hA : ∀ q : Nat, s.heap.size ≤ q → A q := fun q h => by rw [← hAe]; exact Or.inr h
  have hS : va_S A s.heap s.heap [] := va_S.rf
  have hP : va_P G.1 vwCl [(h0, .inr (0, [.null, .null, .int 0]))] s.heap := hP
  have hl := lv_entry ([.ref h0]) (n := 1) (Nat.le_of_ble_eq_true rfl)
  rw [lg_entry_eq]
  generalize (lg_sl ([.ref h0]) ++ List.replicate (1 - (lg_sl ([.ref h0])).length) Slot.unset).toArray = ls at hl ⊢
  have hl : lv_has ls 1 [(0, .ref h0)] := hl
  refine lv_aload_n hx hb dX0_init_0 rfl (lv_at hl 0 rfl) ?_
  refine W.objInit hx hb hown (htb _ qw_108) (htb _ qw_29) (htb _ qw_30) rfl (by rw [hml]; exact hl.1) rfl dX0_init_1 (Nat.le_of_ble_eq_true rfl) (Nat.le_of_ble_eq_true rfl) ?_
  refine W.eq (g2 := F0 m 4 ls []) rfl ?_
  refine lv_aload_n hx hb dX0_init_4 rfl (lv_at hl 0 rfl) ?_
  refine lv_bipush (v := nI 20) hx hb dX0_init_5 (by decide) ?_
  refine va_newa (atype := .long) (ty := .long) (a0 := (20, .inr (.inl (fun _ => 0)))) hx hb (htb _ qw_54) rfl hK hP hD hS hA (fun _ => rfl) (by decide) (by decide) (by decide) (Nat.le_of_ble_eq_true rfl) (Nat.le_of_ble_eq_true rfl) dX0_init_7 (fun q_7 cA_7 H hK2 hP hD hS => ?_)
  have e_7 := qk_one hK2 (i := 4) (j := 1) rfl rfl
  subst e_7
  have hP : va_P G.1 vwCl [(h0, .inr (0, [.null, .null, .int 0])), (q_7, .inl (G.2.2.1, 20, .inr (.inl (fun _ => 0))))] H := hP
  have hD : va_D A [(h0, .inr (0, [.null, .null, .int 0])), (q_7, .inl (G.2.2.1, 20, .inr (.inl (fun _ => 0))))] := hD
  refine W.widen (k := 1) (n := 20) (Nat.le_of_ble_eq_true rfl) (Nat.le_of_ble_eq_true rfl) ?_
  refine va_putF (D := G.1) (ci := 0) (v := .ref q_7) (ty := .array .long) (C := "GradeRows$Classes") (T := TX0) (N := 3) hx hb htb inX0 tyX0 tyX0_ok nmX0 hown hK hP hD hS 0 rfl rfl 0 (by decide) (htb _ qw_109) (fun _ h9 => h9) rfl hin rfl (by decide +kernel) rfl rfl (Nat.le_of_ble_eq_true rfl) dX0_init_9 (fun H locs hP hD hS => ?_)
  have hP : va_P G.1 vwCl [(h0, .inr (0, [.ref q_7, .null, .int 0])), (q_7, .inl (G.2.2.1, 20, .inr (.inl (fun _ => 0))))] H := hP
  have hD : va_D A [(h0, .inr (0, [.ref q_7, .null, .int 0])), (q_7, .inl (G.2.2.1, 20, .inr (.inl (fun _ => 0))))] := hD
  refine lv_aload_n hx hb dX0_init_12 rfl (lv_at hl 0 rfl) ?_
  refine lv_bipush (v := nI 20) hx hb dX0_init_13 (by decide) ?_
  refine va_newa (atype := .long) (ty := .long) (a0 := (20, .inr (.inl (fun _ => 0)))) hx hb (htb _ qw_54) rfl hK hP hD hS hA (fun _ => rfl) (by decide) (by decide) (by decide) (Nat.le_of_ble_eq_true rfl) (Nat.le_of_ble_eq_true rfl) dX0_init_15 (fun q_15 cA_15 H hK2 hP hD hS => ?_)
  have e_15 := qk_one hK2 (i := 4) (j := 1) rfl rfl
  subst e_15
  have hP : va_P G.1 vwCl [(h0, .inr (0, [.ref q_7, .null, .int 0])), (q_7, .inl (G.2.2.1, 20, .inr (.inl (fun _ => 0)))), (q_15, .inl (G.2.2.1, 20, .inr (.inl (fun _ => 0))))] H := hP
  have hD : va_D A [(h0, .inr (0, [.ref q_7, .null, .int 0])), (q_7, .inl (G.2.2.1, 20, .inr (.inl (fun _ => 0)))), (q_15, .inl (G.2.2.1, 20, .inr (.inl (fun _ => 0))))] := hD
  refine W.widen (k := 2) (n := 40) (Nat.le_of_ble_eq_true rfl) (Nat.le_of_ble_eq_true rfl) ?_
  refine va_putF (D := G.1) (ci := 0) (v := .ref q_15) (ty := .array .long) (C := "GradeRows$Classes") (T := TX0) (N := 3) hx hb htb inX0 tyX0 tyX0_ok nmX0 hown hK hP hD hS 0 rfl rfl 1 (by decide) (htb _ qw_110) (fun _ h9 => h9) rfl hin rfl (by decide +kernel) rfl rfl (Nat.le_of_ble_eq_true rfl) dX0_init_17 (fun H locs hP hD hS => ?_)
  have hP : va_P G.1 vwCl [(h0, .inr (0, [.ref q_7, .ref q_15, .int 0])), (q_7, .inl (G.2.2.1, 20, .inr (.inl (fun _ => 0)))), (q_15, .inl (G.2.2.1, 20, .inr (.inl (fun _ => 0))))] H := hP
  have hD : va_D A [(h0, .inr (0, [.ref q_7, .ref q_15, .int 0])), (q_7, .inl (G.2.2.1, 20, .inr (.inl (fun _ => 0)))), (q_15, .inl (G.2.2.1, 20, .inr (.inl (fun _ => 0))))] := hD
  refine lv_aload_n hx hb dX0_init_20 rfl (lv_at hl 0 rfl) ?_
  refine lv_iconst (v := nI 0) hx hb dX0_init_21 (by decide) ?_
  refine va_put (D := G.1) (ci := 0) (v := .int (nI 0)) (ty := .int) (C := "GradeRows$Classes") (T := TX0) (N := 3) hx hb htb inX0 tyX0 tyX0_ok nmX0 hown hK hP hD hS 0 rfl rfl 2 (by decide) (htb _ qw_111) (fun _ h9 => h9) rfl (by decide +kernel) rfl rfl (Nat.le_of_ble_eq_true rfl) dX0_init_22 (fun H locs hP hD hS => ?_)
  have hP : va_P G.1 vwCl [(h0, .inr (0, [.ref q_7, .ref q_15, .int (nI 0)])), (q_7, .inl (G.2.2.1, 20, .inr (.inl (fun _ => 0)))), (q_15, .inl (G.2.2.1, 20, .inr (.inl (fun _ => 0))))] H := hP
  have hD : va_D A [(h0, .inr (0, [.ref q_7, .ref q_15, .int (nI 0)])), (q_7, .inl (G.2.2.1, 20, .inr (.inl (fun _ => 0)))), (q_15, .inl (G.2.2.1, 20, .inr (.inl (fun _ => 0))))] := hD
  have hP9 := hP.sub (ws' := [(h0, .inr (0, [.ref q_7, .ref q_15, .int (nI 0)])), (q_7, .inl (G.2.2.1, 20, .inr (.inl (fun _ => 0)))), (q_15, .inl (G.2.2.1, 20, .inr (.inl (fun _ => 0))))]) [0, 1, 2] rfl
  have hD9 := hD.sub (ws' := [(h0, .inr (0, [.ref q_7, .ref q_15, .int (nI 0)])), (q_7, .inl (G.2.2.1, 20, .inr (.inl (fun _ => 0)))), (q_15, .inl (G.2.2.1, 20, .inr (.inl (fun _ => 0))))]) [0, 1, 2] (by decide) rfl
  exact W.vret hx hb hr (fun t9 ht9 hW9 => ⟨⟨(q_7, q_15), rfl, trivial, by rw [ht9]; exact hP9, va_K.moved hW9.alike hK, hD9⟩, hS.F ht9⟩) hS.2.2 dX0_init_25

set_option maxHeartbeats 4000000 in
set_option maxRecDepth 100000 in
/-- Steps() -/
theorem qc_T_init (l : Launch) (G : qG) (h0 : Nat) (sz : Nat)  : Met l yX4_init wsX4_init ({ frames := 2, cells := 10, slots := 1605, locals := 42 } : Room) (va_Pc [.ref h0] (qk_prw G vwCl [(h0, .inr (4, [.null, .null, .null, .null, .null, .null, .null, .null, .int 0]))] sz)) (va_Qv (fun (u : Nat × Nat × Nat × Nat × Nat × Nat × Nat × Nat × Nat × Nat) => True) (qk_B G vwCl (va_A [(h0, .inr (4, [.null, .null, .null, .null, .null, .null, .null, .null, .int 0]))] sz) (fun (u : Nat × Nat × Nat × Nat × Nat × Nat × Nat × Nat × Nat × Nat) => [(h0, .inr (4, [.ref u.1, .ref u.2.1, .ref u.2.2.1, .ref u.2.2.2.1, .ref u.2.2.2.2.1, .ref u.2.2.2.2.2.1, .ref u.2.2.2.2.2.2.1, .ref u.2.2.2.2.2.2.2.2.1, .int (nI 0)])), (u.1, .inl (G.2.1, 200, .inl (fun _ => 0))), (u.2.1, .inl (G.2.1, 200, .inl (fun _ => 0))), (u.2.2.1, .inl (G.2.1, 200, .inl (fun _ => 0))), (u.2.2.2.1, .inl (G.2.1, 200, .inl (fun _ => 0))), (u.2.2.2.2.1, .inl (G.2.2.2.1, 200, .inl (fun _ => 0))), (u.2.2.2.2.2.1, .inl (G.2.2.1, 201, .inr (.inl (fun _ => 0)))), (u.2.2.2.2.2.2.1, .inr (3, [.ref u.2.2.2.2.2.2.2.1, .int (nI 0)])), (u.2.2.2.2.2.2.2.1, .inl (G.2.1, 200, .inl (fun _ => 0))), (u.2.2.2.2.2.2.2.2.1, .inr (3, [.ref u.2.2.2.2.2.2.2.2.2, .int (nI 0)])), (u.2.2.2.2.2.2.2.2.2, .inl (G.2.1, 200, .inl (fun _ => 0)))])) (va_A [(h0, .inr (4, [.null, .null, .null, .null, .null, .null, .null, .null, .int 0]))] sz)) 10 1605 (va_A [(h0, .inr (4, [.null, .null, .null, .null, .null, .null, .null, .null, .int 0]))] sz) := by
  refine Met.ofW (cc := cX4_init) (maxL := 1) (ret := none) (by decide) rfl ?_
  intro p e s m args below meth c s₁ B hml hv
  obtain ⟨rfl, hsz, hP, hK, hD0, hN⟩ := hv
  have hx := B.exec
  have hb := B.bytes
  have hr := B.returns
  have hlocks := B.notSynchronized
  have hts := atoms_spec (ws := wsX4_init) B.pre
  have htb := fun (w : Cond) (h : w ∈ qTb) => hts w (List.mem_cons_of_mem _ h)
  have hown : s.vm.findClass "GradeRows$Steps" = some m.cls := findClass_of_methodNamed B.named
  have hin : meth.name = "<init>" := (name_of_methodNamed B.named B.method).1
  subst hsz
  have hD := hD0.self (sz := s.heap.size)
  generalize hAe : va_A [(h0, .inr (4, [.null, .null, .null, .null, .null, .null, .null, .null, .int 0]))] s.heap.size = A at hD ⊢
  have hA : ∀ q : Nat, s.heap.size ≤ q → A q := fun q h => by rw [← hAe]; exact Or.inr h
  have hS : va_S A s.heap s.heap [] := va_S.rf
  have hP : va_P G.1 vwCl [(h0, .inr (4, [.null, .null, .null, .null, .null, .null, .null, .null, .int 0]))] s.heap := hP
  have hl := lv_entry ([.ref h0]) (n := 1) (Nat.le_of_ble_eq_true rfl)
  rw [lg_entry_eq]
  generalize (lg_sl ([.ref h0]) ++ List.replicate (1 - (lg_sl ([.ref h0])).length) Slot.unset).toArray = ls at hl ⊢
  have hl : lv_has ls 1 [(0, .ref h0)] := hl
  refine lv_aload_n hx hb dX4_init_0 rfl (lv_at hl 0 rfl) ?_
  refine W.objInit hx hb hown (htb _ qw_60) (htb _ qw_29) (htb _ qw_30) rfl (by rw [hml]; exact hl.1) rfl dX4_init_1 (Nat.le_of_ble_eq_true rfl) (Nat.le_of_ble_eq_true rfl) ?_
  refine W.eq (g2 := F0 m 4 ls []) rfl ?_
  refine lv_aload_n hx hb dX4_init_4 rfl (lv_at hl 0 rfl) ?_
  refine lv_sipush (v := nI 200) hx hb dX4_init_5 (by decide) ?_
  refine va_newa (atype := .int) (ty := .int) (a0 := (200, .inl (fun _ => 0))) hx hb (htb _ qw_53) rfl hK hP hD hS hA (fun _ => rfl) (by decide) (by decide) (by decide) (Nat.le_of_ble_eq_true rfl) (Nat.le_of_ble_eq_true rfl) dX4_init_8 (fun q_8 cA_8 H hK2 hP hD hS => ?_)
  have e_8 := qk_one hK2 (i := 4) (j := 0) rfl rfl
  subst e_8
  have hP : va_P G.1 vwCl [(h0, .inr (4, [.null, .null, .null, .null, .null, .null, .null, .null, .int 0])), (q_8, .inl (G.2.1, 200, .inl (fun _ => 0)))] H := hP
  have hD : va_D A [(h0, .inr (4, [.null, .null, .null, .null, .null, .null, .null, .null, .int 0])), (q_8, .inl (G.2.1, 200, .inl (fun _ => 0)))] := hD
  refine W.widen (k := 1) (n := 200) (Nat.le_of_ble_eq_true rfl) (Nat.le_of_ble_eq_true rfl) ?_
  refine va_putF (D := G.1) (ci := 4) (v := .ref q_8) (ty := .array .int) (C := "GradeRows$Steps") (T := TX4) (N := 9) hx hb htb inX4 tyX4 tyX4_ok nmX4 hown hK hP hD hS 0 rfl rfl 0 (by decide) (htb _ qw_75) (fun _ h9 => h9) rfl hin rfl (by decide +kernel) rfl rfl (Nat.le_of_ble_eq_true rfl) dX4_init_10 (fun H locs hP hD hS => ?_)
  have hP : va_P G.1 vwCl [(h0, .inr (4, [.ref q_8, .null, .null, .null, .null, .null, .null, .null, .int 0])), (q_8, .inl (G.2.1, 200, .inl (fun _ => 0)))] H := hP
  have hD : va_D A [(h0, .inr (4, [.ref q_8, .null, .null, .null, .null, .null, .null, .null, .int 0])), (q_8, .inl (G.2.1, 200, .inl (fun _ => 0)))] := hD
  refine lv_aload_n hx hb dX4_init_13 rfl (lv_at hl 0 rfl) ?_
  refine lv_sipush (v := nI 200) hx hb dX4_init_14 (by decide) ?_
  refine va_newa (atype := .int) (ty := .int) (a0 := (200, .inl (fun _ => 0))) hx hb (htb _ qw_53) rfl hK hP hD hS hA (fun _ => rfl) (by decide) (by decide) (by decide) (Nat.le_of_ble_eq_true rfl) (Nat.le_of_ble_eq_true rfl) dX4_init_17 (fun q_17 cA_17 H hK2 hP hD hS => ?_)
  have e_17 := qk_one hK2 (i := 4) (j := 0) rfl rfl
  subst e_17
  have hP : va_P G.1 vwCl [(h0, .inr (4, [.ref q_8, .null, .null, .null, .null, .null, .null, .null, .int 0])), (q_8, .inl (G.2.1, 200, .inl (fun _ => 0))), (q_17, .inl (G.2.1, 200, .inl (fun _ => 0)))] H := hP
  have hD : va_D A [(h0, .inr (4, [.ref q_8, .null, .null, .null, .null, .null, .null, .null, .int 0])), (q_8, .inl (G.2.1, 200, .inl (fun _ => 0))), (q_17, .inl (G.2.1, 200, .inl (fun _ => 0)))] := hD
  refine W.widen (k := 2) (n := 400) (Nat.le_of_ble_eq_true rfl) (Nat.le_of_ble_eq_true rfl) ?_
  refine va_putF (D := G.1) (ci := 4) (v := .ref q_17) (ty := .array .int) (C := "GradeRows$Steps") (T := TX4) (N := 9) hx hb htb inX4 tyX4 tyX4_ok nmX4 hown hK hP hD hS 0 rfl rfl 1 (by decide) (htb _ qw_76) (fun _ h9 => h9) rfl hin rfl (by decide +kernel) rfl rfl (Nat.le_of_ble_eq_true rfl) dX4_init_19 (fun H locs hP hD hS => ?_)
  have hP : va_P G.1 vwCl [(h0, .inr (4, [.ref q_8, .ref q_17, .null, .null, .null, .null, .null, .null, .int 0])), (q_8, .inl (G.2.1, 200, .inl (fun _ => 0))), (q_17, .inl (G.2.1, 200, .inl (fun _ => 0)))] H := hP
  have hD : va_D A [(h0, .inr (4, [.ref q_8, .ref q_17, .null, .null, .null, .null, .null, .null, .int 0])), (q_8, .inl (G.2.1, 200, .inl (fun _ => 0))), (q_17, .inl (G.2.1, 200, .inl (fun _ => 0)))] := hD
  refine lv_aload_n hx hb dX4_init_22 rfl (lv_at hl 0 rfl) ?_
  refine lv_sipush (v := nI 200) hx hb dX4_init_23 (by decide) ?_
  refine va_newa (atype := .int) (ty := .int) (a0 := (200, .inl (fun _ => 0))) hx hb (htb _ qw_53) rfl hK hP hD hS hA (fun _ => rfl) (by decide) (by decide) (by decide) (Nat.le_of_ble_eq_true rfl) (Nat.le_of_ble_eq_true rfl) dX4_init_26 (fun q_26 cA_26 H hK2 hP hD hS => ?_)
  have e_26 := qk_one hK2 (i := 4) (j := 0) rfl rfl
  subst e_26
  have hP : va_P G.1 vwCl [(h0, .inr (4, [.ref q_8, .ref q_17, .null, .null, .null, .null, .null, .null, .int 0])), (q_8, .inl (G.2.1, 200, .inl (fun _ => 0))), (q_17, .inl (G.2.1, 200, .inl (fun _ => 0))), (q_26, .inl (G.2.1, 200, .inl (fun _ => 0)))] H := hP
  have hD : va_D A [(h0, .inr (4, [.ref q_8, .ref q_17, .null, .null, .null, .null, .null, .null, .int 0])), (q_8, .inl (G.2.1, 200, .inl (fun _ => 0))), (q_17, .inl (G.2.1, 200, .inl (fun _ => 0))), (q_26, .inl (G.2.1, 200, .inl (fun _ => 0)))] := hD
  refine W.widen (k := 3) (n := 600) (Nat.le_of_ble_eq_true rfl) (Nat.le_of_ble_eq_true rfl) ?_
  refine va_putF (D := G.1) (ci := 4) (v := .ref q_26) (ty := .array .int) (C := "GradeRows$Steps") (T := TX4) (N := 9) hx hb htb inX4 tyX4 tyX4_ok nmX4 hown hK hP hD hS 0 rfl rfl 2 (by decide) (htb _ qw_77) (fun _ h9 => h9) rfl hin rfl (by decide +kernel) rfl rfl (Nat.le_of_ble_eq_true rfl) dX4_init_28 (fun H locs hP hD hS => ?_)
  have hP : va_P G.1 vwCl [(h0, .inr (4, [.ref q_8, .ref q_17, .ref q_26, .null, .null, .null, .null, .null, .int 0])), (q_8, .inl (G.2.1, 200, .inl (fun _ => 0))), (q_17, .inl (G.2.1, 200, .inl (fun _ => 0))), (q_26, .inl (G.2.1, 200, .inl (fun _ => 0)))] H := hP
  have hD : va_D A [(h0, .inr (4, [.ref q_8, .ref q_17, .ref q_26, .null, .null, .null, .null, .null, .int 0])), (q_8, .inl (G.2.1, 200, .inl (fun _ => 0))), (q_17, .inl (G.2.1, 200, .inl (fun _ => 0))), (q_26, .inl (G.2.1, 200, .inl (fun _ => 0)))] := hD
  refine lv_aload_n hx hb dX4_init_31 rfl (lv_at hl 0 rfl) ?_
  refine lv_sipush (v := nI 200) hx hb dX4_init_32 (by decide) ?_
  refine va_newa (atype := .int) (ty := .int) (a0 := (200, .inl (fun _ => 0))) hx hb (htb _ qw_53) rfl hK hP hD hS hA (fun _ => rfl) (by decide) (by decide) (by decide) (Nat.le_of_ble_eq_true rfl) (Nat.le_of_ble_eq_true rfl) dX4_init_35 (fun q_35 cA_35 H hK2 hP hD hS => ?_)
  have e_35 := qk_one hK2 (i := 4) (j := 0) rfl rfl
  subst e_35
  have hP : va_P G.1 vwCl [(h0, .inr (4, [.ref q_8, .ref q_17, .ref q_26, .null, .null, .null, .null, .null, .int 0])), (q_8, .inl (G.2.1, 200, .inl (fun _ => 0))), (q_17, .inl (G.2.1, 200, .inl (fun _ => 0))), (q_26, .inl (G.2.1, 200, .inl (fun _ => 0))), (q_35, .inl (G.2.1, 200, .inl (fun _ => 0)))] H := hP
  have hD : va_D A [(h0, .inr (4, [.ref q_8, .ref q_17, .ref q_26, .null, .null, .null, .null, .null, .int 0])), (q_8, .inl (G.2.1, 200, .inl (fun _ => 0))), (q_17, .inl (G.2.1, 200, .inl (fun _ => 0))), (q_26, .inl (G.2.1, 200, .inl (fun _ => 0))), (q_35, .inl (G.2.1, 200, .inl (fun _ => 0)))] := hD
  refine W.widen (k := 4) (n := 800) (Nat.le_of_ble_eq_true rfl) (Nat.le_of_ble_eq_true rfl) ?_
  refine va_putF (D := G.1) (ci := 4) (v := .ref q_35) (ty := .array .int) (C := "GradeRows$Steps") (T := TX4) (N := 9) hx hb htb inX4 tyX4 tyX4_ok nmX4 hown hK hP hD hS 0 rfl rfl 3 (by decide) (htb _ qw_78) (fun _ h9 => h9) rfl hin rfl (by decide +kernel) rfl rfl (Nat.le_of_ble_eq_true rfl) dX4_init_37 (fun H locs hP hD hS => ?_)
  have hP : va_P G.1 vwCl [(h0, .inr (4, [.ref q_8, .ref q_17, .ref q_26, .ref q_35, .null, .null, .null, .null, .int 0])), (q_8, .inl (G.2.1, 200, .inl (fun _ => 0))), (q_17, .inl (G.2.1, 200, .inl (fun _ => 0))), (q_26, .inl (G.2.1, 200, .inl (fun _ => 0))), (q_35, .inl (G.2.1, 200, .inl (fun _ => 0)))] H := hP
  have hD : va_D A [(h0, .inr (4, [.ref q_8, .ref q_17, .ref q_26, .ref q_35, .null, .null, .null, .null, .int 0])), (q_8, .inl (G.2.1, 200, .inl (fun _ => 0))), (q_17, .inl (G.2.1, 200, .inl (fun _ => 0))), (q_26, .inl (G.2.1, 200, .inl (fun _ => 0))), (q_35, .inl (G.2.1, 200, .inl (fun _ => 0)))] := hD
  refine lv_aload_n hx hb dX4_init_40 rfl (lv_at hl 0 rfl) ?_
  refine lv_sipush (v := nI 200) hx hb dX4_init_41 (by decide) ?_
  refine va_newa (atype := .boolean) (ty := .boolean) (a0 := (200, .inl (fun _ => 0))) hx hb (htb _ qw_74) rfl hK hP hD hS hA (fun _ => rfl) (by decide) (by decide) (by decide) (Nat.le_of_ble_eq_true rfl) (Nat.le_of_ble_eq_true rfl) dX4_init_44 (fun q_44 cA_44 H hK2 hP hD hS => ?_)
  have e_44 := qk_one hK2 (i := 4) (j := 2) rfl rfl
  subst e_44
  have hP : va_P G.1 vwCl [(h0, .inr (4, [.ref q_8, .ref q_17, .ref q_26, .ref q_35, .null, .null, .null, .null, .int 0])), (q_8, .inl (G.2.1, 200, .inl (fun _ => 0))), (q_17, .inl (G.2.1, 200, .inl (fun _ => 0))), (q_26, .inl (G.2.1, 200, .inl (fun _ => 0))), (q_35, .inl (G.2.1, 200, .inl (fun _ => 0))), (q_44, .inl (G.2.2.2.1, 200, .inl (fun _ => 0)))] H := hP
  have hD : va_D A [(h0, .inr (4, [.ref q_8, .ref q_17, .ref q_26, .ref q_35, .null, .null, .null, .null, .int 0])), (q_8, .inl (G.2.1, 200, .inl (fun _ => 0))), (q_17, .inl (G.2.1, 200, .inl (fun _ => 0))), (q_26, .inl (G.2.1, 200, .inl (fun _ => 0))), (q_35, .inl (G.2.1, 200, .inl (fun _ => 0))), (q_44, .inl (G.2.2.2.1, 200, .inl (fun _ => 0)))] := hD
  refine W.widen (k := 5) (n := 1000) (Nat.le_of_ble_eq_true rfl) (Nat.le_of_ble_eq_true rfl) ?_
  refine va_putF (D := G.1) (ci := 4) (v := .ref q_44) (ty := .array .boolean) (C := "GradeRows$Steps") (T := TX4) (N := 9) hx hb htb inX4 tyX4 tyX4_ok nmX4 hown hK hP hD hS 0 rfl rfl 4 (by decide) (htb _ qw_79) (fun _ h9 => h9) rfl hin rfl (by decide +kernel) rfl rfl (Nat.le_of_ble_eq_true rfl) dX4_init_46 (fun H locs hP hD hS => ?_)
  have hP : va_P G.1 vwCl [(h0, .inr (4, [.ref q_8, .ref q_17, .ref q_26, .ref q_35, .ref q_44, .null, .null, .null, .int 0])), (q_8, .inl (G.2.1, 200, .inl (fun _ => 0))), (q_17, .inl (G.2.1, 200, .inl (fun _ => 0))), (q_26, .inl (G.2.1, 200, .inl (fun _ => 0))), (q_35, .inl (G.2.1, 200, .inl (fun _ => 0))), (q_44, .inl (G.2.2.2.1, 200, .inl (fun _ => 0)))] H := hP
  have hD : va_D A [(h0, .inr (4, [.ref q_8, .ref q_17, .ref q_26, .ref q_35, .ref q_44, .null, .null, .null, .int 0])), (q_8, .inl (G.2.1, 200, .inl (fun _ => 0))), (q_17, .inl (G.2.1, 200, .inl (fun _ => 0))), (q_26, .inl (G.2.1, 200, .inl (fun _ => 0))), (q_35, .inl (G.2.1, 200, .inl (fun _ => 0))), (q_44, .inl (G.2.2.2.1, 200, .inl (fun _ => 0)))] := hD
  refine lv_aload_n hx hb dX4_init_49 rfl (lv_at hl 0 rfl) ?_
  refine lv_sipush (v := nI 201) hx hb dX4_init_50 (by decide) ?_
  refine va_newa (atype := .long) (ty := .long) (a0 := (201, .inr (.inl (fun _ => 0)))) hx hb (htb _ qw_54) rfl hK hP hD hS hA (fun _ => rfl) (by decide) (by decide) (by decide) (Nat.le_of_ble_eq_true rfl) (Nat.le_of_ble_eq_true rfl) dX4_init_53 (fun q_53 cA_53 H hK2 hP hD hS => ?_)
  have e_53 := qk_one hK2 (i := 4) (j := 1) rfl rfl
  subst e_53
  have hP : va_P G.1 vwCl [(h0, .inr (4, [.ref q_8, .ref q_17, .ref q_26, .ref q_35, .ref q_44, .null, .null, .null, .int 0])), (q_8, .inl (G.2.1, 200, .inl (fun _ => 0))), (q_17, .inl (G.2.1, 200, .inl (fun _ => 0))), (q_26, .inl (G.2.1, 200, .inl (fun _ => 0))), (q_35, .inl (G.2.1, 200, .inl (fun _ => 0))), (q_44, .inl (G.2.2.2.1, 200, .inl (fun _ => 0))), (q_53, .inl (G.2.2.1, 201, .inr (.inl (fun _ => 0))))] H := hP
  have hD : va_D A [(h0, .inr (4, [.ref q_8, .ref q_17, .ref q_26, .ref q_35, .ref q_44, .null, .null, .null, .int 0])), (q_8, .inl (G.2.1, 200, .inl (fun _ => 0))), (q_17, .inl (G.2.1, 200, .inl (fun _ => 0))), (q_26, .inl (G.2.1, 200, .inl (fun _ => 0))), (q_35, .inl (G.2.1, 200, .inl (fun _ => 0))), (q_44, .inl (G.2.2.2.1, 200, .inl (fun _ => 0))), (q_53, .inl (G.2.2.1, 201, .inr (.inl (fun _ => 0))))] := hD
  refine W.widen (k := 6) (n := 1201) (Nat.le_of_ble_eq_true rfl) (Nat.le_of_ble_eq_true rfl) ?_
  refine va_putF (D := G.1) (ci := 4) (v := .ref q_53) (ty := .array .long) (C := "GradeRows$Steps") (T := TX4) (N := 9) hx hb htb inX4 tyX4 tyX4_ok nmX4 hown hK hP hD hS 0 rfl rfl 5 (by decide) (htb _ qw_80) (fun _ h9 => h9) rfl hin rfl (by decide +kernel) rfl rfl (Nat.le_of_ble_eq_true rfl) dX4_init_55 (fun H locs hP hD hS => ?_)
  have hP : va_P G.1 vwCl [(h0, .inr (4, [.ref q_8, .ref q_17, .ref q_26, .ref q_35, .ref q_44, .ref q_53, .null, .null, .int 0])), (q_8, .inl (G.2.1, 200, .inl (fun _ => 0))), (q_17, .inl (G.2.1, 200, .inl (fun _ => 0))), (q_26, .inl (G.2.1, 200, .inl (fun _ => 0))), (q_35, .inl (G.2.1, 200, .inl (fun _ => 0))), (q_44, .inl (G.2.2.2.1, 200, .inl (fun _ => 0))), (q_53, .inl (G.2.2.1, 201, .inr (.inl (fun _ => 0))))] H := hP
  have hD : va_D A [(h0, .inr (4, [.ref q_8, .ref q_17, .ref q_26, .ref q_35, .ref q_44, .ref q_53, .null, .null, .int 0])), (q_8, .inl (G.2.1, 200, .inl (fun _ => 0))), (q_17, .inl (G.2.1, 200, .inl (fun _ => 0))), (q_26, .inl (G.2.1, 200, .inl (fun _ => 0))), (q_35, .inl (G.2.1, 200, .inl (fun _ => 0))), (q_44, .inl (G.2.2.2.1, 200, .inl (fun _ => 0))), (q_53, .inl (G.2.2.1, 201, .inr (.inl (fun _ => 0))))] := hD
  refine lv_aload_n hx hb dX4_init_58 rfl (lv_at hl 0 rfl) ?_
  refine va_new (ci := 3) (fs := [.null, .int 0]) (C := "GradeRows$Sorted") (T := TX3) (N := 2) hx hb htb inX3 tyX3 tyX3_ok hown (htb _ qw_61) (htb _ qw_62) (htb _ qw_16) hK hP hD hS hA rfl (fun j hj => by rcases (show j = 0 ∨ j = 1 by omega) with rfl | rfl <;> rfl) (Nat.le_of_ble_eq_true rfl) (Nat.le_of_ble_eq_true rfl) dX4_init_59 (fun q_59 H hP hD hS => ?_)
  have hP : va_P G.1 vwCl [(h0, .inr (4, [.ref q_8, .ref q_17, .ref q_26, .ref q_35, .ref q_44, .ref q_53, .null, .null, .int 0])), (q_8, .inl (G.2.1, 200, .inl (fun _ => 0))), (q_17, .inl (G.2.1, 200, .inl (fun _ => 0))), (q_26, .inl (G.2.1, 200, .inl (fun _ => 0))), (q_35, .inl (G.2.1, 200, .inl (fun _ => 0))), (q_44, .inl (G.2.2.2.1, 200, .inl (fun _ => 0))), (q_53, .inl (G.2.2.1, 201, .inr (.inl (fun _ => 0)))), (q_59, .inr (3, [.null, .int 0]))] H := hP
  have hD : va_D A [(h0, .inr (4, [.ref q_8, .ref q_17, .ref q_26, .ref q_35, .ref q_44, .ref q_53, .null, .null, .int 0])), (q_8, .inl (G.2.1, 200, .inl (fun _ => 0))), (q_17, .inl (G.2.1, 200, .inl (fun _ => 0))), (q_26, .inl (G.2.1, 200, .inl (fun _ => 0))), (q_35, .inl (G.2.1, 200, .inl (fun _ => 0))), (q_44, .inl (G.2.2.2.1, 200, .inl (fun _ => 0))), (q_53, .inl (G.2.2.1, 201, .inr (.inl (fun _ => 0)))), (q_59, .inr (3, [.null, .int 0]))] := hD
  refine W.widen (k := 7) (n := 1203) (Nat.le_of_ble_eq_true rfl) (Nat.le_of_ble_eq_true rfl) ?_
  refine lv_dup hx hb dX4_init_62 rfl ?_
  refine lv_sipush (v := nI 200) hx hb dX4_init_63 (by decide) ?_
  refine va_newa (atype := .int) (ty := .int) (a0 := (200, .inl (fun _ => 0))) hx hb (htb _ qw_53) rfl hK hP hD hS hA (fun _ => rfl) (by decide) (by decide) (by decide) (Nat.le_of_ble_eq_true rfl) (Nat.le_of_ble_eq_true rfl) dX4_init_66 (fun q_66 cA_66 H hK2 hP hD hS => ?_)
  have e_66 := qk_one hK2 (i := 4) (j := 0) rfl rfl
  subst e_66
  have hP : va_P G.1 vwCl [(h0, .inr (4, [.ref q_8, .ref q_17, .ref q_26, .ref q_35, .ref q_44, .ref q_53, .null, .null, .int 0])), (q_8, .inl (G.2.1, 200, .inl (fun _ => 0))), (q_17, .inl (G.2.1, 200, .inl (fun _ => 0))), (q_26, .inl (G.2.1, 200, .inl (fun _ => 0))), (q_35, .inl (G.2.1, 200, .inl (fun _ => 0))), (q_44, .inl (G.2.2.2.1, 200, .inl (fun _ => 0))), (q_53, .inl (G.2.2.1, 201, .inr (.inl (fun _ => 0)))), (q_59, .inr (3, [.null, .int 0])), (q_66, .inl (G.2.1, 200, .inl (fun _ => 0)))] H := hP
  have hD : va_D A [(h0, .inr (4, [.ref q_8, .ref q_17, .ref q_26, .ref q_35, .ref q_44, .ref q_53, .null, .null, .int 0])), (q_8, .inl (G.2.1, 200, .inl (fun _ => 0))), (q_17, .inl (G.2.1, 200, .inl (fun _ => 0))), (q_26, .inl (G.2.1, 200, .inl (fun _ => 0))), (q_35, .inl (G.2.1, 200, .inl (fun _ => 0))), (q_44, .inl (G.2.2.2.1, 200, .inl (fun _ => 0))), (q_53, .inl (G.2.2.1, 201, .inr (.inl (fun _ => 0)))), (q_59, .inr (3, [.null, .int 0])), (q_66, .inl (G.2.1, 200, .inl (fun _ => 0)))] := hD
  refine W.widen (k := 8) (n := 1403) (Nat.le_of_ble_eq_true rfl) (Nat.le_of_ble_eq_true rfl) ?_
  refine lv_iconst (v := nI 0) hx hb dX4_init_68 (by decide) ?_
  have hPc := hP.sub (ws' := [(q_59, .inr (3, [.null, .int 0]))]) [7] rfl
  have hDc := hD.sub (ws' := [(q_59, .inr (3, [.null, .int 0]))]) [7] (by decide) rfl
  have hFc := va_free (wc := [(q_59, .inr (3, [.null, .int 0]))]) hD hS hA [7] rfl
  refine va_callv (va_runI (As := [.ref q_66, .int (nI 0)]) (rest := [.ref q_59, .ref h0]) ⟨hx, hb, hml, hown, htb⟩ (qc_S_init l G q_59 q_66 0 H.size) (cwI 2 htb (qW_good qw_65) rfl rfl rfl (htb _ qw_16) (htb _ qw_63) (htb _ qw_64) rfl (by decide +kernel) ⟨Nat.le_of_ble_eq_true rfl, Nat.le_of_ble_eq_true rfl⟩) (qk_psw hK hPc hN hDc) rfl rfl hl.1 rfl (lv_room (Nat.le_of_ble_eq_true rfl)) dX4_init_69 ⟨Nat.le_of_ble_eq_true rfl, Nat.le_of_ble_eq_true rfl⟩) hS (fun q _ h => hFc q h) hFc (fun u_69 t9 H1 locs ht9 hvm w_69 hB hz1 hk1 hS => ?_)
  obtain ⟨v_69, rfl⟩ : ∃ z, z = u_69 := ⟨_, rfl⟩
  obtain ⟨hP1, hK1, hD1⟩ := hB
  rw [ht9] at hP1
  obtain ⟨hP, hD⟩ := va_join (wr := [(h0, .inr (4, [.ref q_8, .ref q_17, .ref q_26, .ref q_35, .ref q_44, .ref q_53, .null, .null, .int 0])), (q_8, .inl (G.2.1, 200, .inl (fun _ => 0))), (q_17, .inl (G.2.1, 200, .inl (fun _ => 0))), (q_26, .inl (G.2.1, 200, .inl (fun _ => 0))), (q_35, .inl (G.2.1, 200, .inl (fun _ => 0))), (q_44, .inl (G.2.2.2.1, 200, .inl (fun _ => 0))), (q_53, .inl (G.2.2.1, 201, .inr (.inl (fun _ => 0)))), (q_66, .inl (G.2.1, 200, .inl (fun _ => 0)))]) (w1 := [(q_59, .inr (3, [.ref q_66, .int (nI 0)]))]) hP hD [7] [0, 1, 2, 3, 4, 5, 6, 8] rfl rfl (by decide) (by decide) hk1 hFc hP1 hD1
  generalize H1 = H at hP hS ⊢
  have hP : va_P G.1 vwCl [(h0, .inr (4, [.ref q_8, .ref q_17, .ref q_26, .ref q_35, .ref q_44, .ref q_53, .null, .null, .int 0])), (q_8, .inl (G.2.1, 200, .inl (fun _ => 0))), (q_17, .inl (G.2.1, 200, .inl (fun _ => 0))), (q_26, .inl (G.2.1, 200, .inl (fun _ => 0))), (q_35, .inl (G.2.1, 200, .inl (fun _ => 0))), (q_44, .inl (G.2.2.2.1, 200, .inl (fun _ => 0))), (q_53, .inl (G.2.2.1, 201, .inr (.inl (fun _ => 0)))), (q_66, .inl (G.2.1, 200, .inl (fun _ => 0))), (q_59, .inr (3, [.ref q_66, .int (nI 0)]))] H := hP
  have hD : va_D A [(h0, .inr (4, [.ref q_8, .ref q_17, .ref q_26, .ref q_35, .ref q_44, .ref q_53, .null, .null, .int 0])), (q_8, .inl (G.2.1, 200, .inl (fun _ => 0))), (q_17, .inl (G.2.1, 200, .inl (fun _ => 0))), (q_26, .inl (G.2.1, 200, .inl (fun _ => 0))), (q_35, .inl (G.2.1, 200, .inl (fun _ => 0))), (q_44, .inl (G.2.2.2.1, 200, .inl (fun _ => 0))), (q_53, .inl (G.2.2.1, 201, .inr (.inl (fun _ => 0)))), (q_66, .inl (G.2.1, 200, .inl (fun _ => 0))), (q_59, .inr (3, [.ref q_66, .int (nI 0)]))] := hD
  refine va_putF (D := G.1) (ci := 4) (v := .ref q_59) (ty := .object "GradeRows$Sorted") (C := "GradeRows$Steps") (T := TX4) (N := 9) hx hb htb inX4 tyX4 tyX4_ok nmX4 hown hK hP hD hS 0 rfl rfl 6 (by decide) (htb _ qw_81) (fun _ h9 => h9) rfl hin rfl (by decide +kernel) rfl rfl (Nat.le_of_ble_eq_true rfl) dX4_init_72 (fun H locs hP hD hS => ?_)
  have hP : va_P G.1 vwCl [(h0, .inr (4, [.ref q_8, .ref q_17, .ref q_26, .ref q_35, .ref q_44, .ref q_53, .ref q_59, .null, .int 0])), (q_8, .inl (G.2.1, 200, .inl (fun _ => 0))), (q_17, .inl (G.2.1, 200, .inl (fun _ => 0))), (q_26, .inl (G.2.1, 200, .inl (fun _ => 0))), (q_35, .inl (G.2.1, 200, .inl (fun _ => 0))), (q_44, .inl (G.2.2.2.1, 200, .inl (fun _ => 0))), (q_53, .inl (G.2.2.1, 201, .inr (.inl (fun _ => 0)))), (q_66, .inl (G.2.1, 200, .inl (fun _ => 0))), (q_59, .inr (3, [.ref q_66, .int (nI 0)]))] H := hP
  have hD : va_D A [(h0, .inr (4, [.ref q_8, .ref q_17, .ref q_26, .ref q_35, .ref q_44, .ref q_53, .ref q_59, .null, .int 0])), (q_8, .inl (G.2.1, 200, .inl (fun _ => 0))), (q_17, .inl (G.2.1, 200, .inl (fun _ => 0))), (q_26, .inl (G.2.1, 200, .inl (fun _ => 0))), (q_35, .inl (G.2.1, 200, .inl (fun _ => 0))), (q_44, .inl (G.2.2.2.1, 200, .inl (fun _ => 0))), (q_53, .inl (G.2.2.1, 201, .inr (.inl (fun _ => 0)))), (q_66, .inl (G.2.1, 200, .inl (fun _ => 0))), (q_59, .inr (3, [.ref q_66, .int (nI 0)]))] := hD
  refine lv_aload_n hx hb dX4_init_75 rfl (lv_at hl 0 rfl) ?_
  refine va_new (ci := 3) (fs := [.null, .int 0]) (C := "GradeRows$Sorted") (T := TX3) (N := 2) hx hb htb inX3 tyX3 tyX3_ok hown (htb _ qw_61) (htb _ qw_62) (htb _ qw_16) hK hP hD hS hA rfl (fun j hj => by rcases (show j = 0 ∨ j = 1 by omega) with rfl | rfl <;> rfl) (Nat.le_of_ble_eq_true rfl) (Nat.le_of_ble_eq_true rfl) dX4_init_76 (fun q_76 H hP hD hS => ?_)
  have hP : va_P G.1 vwCl [(h0, .inr (4, [.ref q_8, .ref q_17, .ref q_26, .ref q_35, .ref q_44, .ref q_53, .ref q_59, .null, .int 0])), (q_8, .inl (G.2.1, 200, .inl (fun _ => 0))), (q_17, .inl (G.2.1, 200, .inl (fun _ => 0))), (q_26, .inl (G.2.1, 200, .inl (fun _ => 0))), (q_35, .inl (G.2.1, 200, .inl (fun _ => 0))), (q_44, .inl (G.2.2.2.1, 200, .inl (fun _ => 0))), (q_53, .inl (G.2.2.1, 201, .inr (.inl (fun _ => 0)))), (q_66, .inl (G.2.1, 200, .inl (fun _ => 0))), (q_59, .inr (3, [.ref q_66, .int (nI 0)])), (q_76, .inr (3, [.null, .int 0]))] H := hP
  have hD : va_D A [(h0, .inr (4, [.ref q_8, .ref q_17, .ref q_26, .ref q_35, .ref q_44, .ref q_53, .ref q_59, .null, .int 0])), (q_8, .inl (G.2.1, 200, .inl (fun _ => 0))), (q_17, .inl (G.2.1, 200, .inl (fun _ => 0))), (q_26, .inl (G.2.1, 200, .inl (fun _ => 0))), (q_35, .inl (G.2.1, 200, .inl (fun _ => 0))), (q_44, .inl (G.2.2.2.1, 200, .inl (fun _ => 0))), (q_53, .inl (G.2.2.1, 201, .inr (.inl (fun _ => 0)))), (q_66, .inl (G.2.1, 200, .inl (fun _ => 0))), (q_59, .inr (3, [.ref q_66, .int (nI 0)])), (q_76, .inr (3, [.null, .int 0]))] := hD
  refine W.widen (k := 9) (n := 1405) (Nat.le_of_ble_eq_true rfl) (Nat.le_of_ble_eq_true rfl) ?_
  refine lv_dup hx hb dX4_init_79 rfl ?_
  refine lv_sipush (v := nI 200) hx hb dX4_init_80 (by decide) ?_
  refine va_newa (atype := .int) (ty := .int) (a0 := (200, .inl (fun _ => 0))) hx hb (htb _ qw_53) rfl hK hP hD hS hA (fun _ => rfl) (by decide) (by decide) (by decide) (Nat.le_of_ble_eq_true rfl) (Nat.le_of_ble_eq_true rfl) dX4_init_83 (fun q_83 cA_83 H hK2 hP hD hS => ?_)
  have e_83 := qk_one hK2 (i := 4) (j := 0) rfl rfl
  subst e_83
  have hP : va_P G.1 vwCl [(h0, .inr (4, [.ref q_8, .ref q_17, .ref q_26, .ref q_35, .ref q_44, .ref q_53, .ref q_59, .null, .int 0])), (q_8, .inl (G.2.1, 200, .inl (fun _ => 0))), (q_17, .inl (G.2.1, 200, .inl (fun _ => 0))), (q_26, .inl (G.2.1, 200, .inl (fun _ => 0))), (q_35, .inl (G.2.1, 200, .inl (fun _ => 0))), (q_44, .inl (G.2.2.2.1, 200, .inl (fun _ => 0))), (q_53, .inl (G.2.2.1, 201, .inr (.inl (fun _ => 0)))), (q_66, .inl (G.2.1, 200, .inl (fun _ => 0))), (q_59, .inr (3, [.ref q_66, .int (nI 0)])), (q_76, .inr (3, [.null, .int 0])), (q_83, .inl (G.2.1, 200, .inl (fun _ => 0)))] H := hP
  have hD : va_D A [(h0, .inr (4, [.ref q_8, .ref q_17, .ref q_26, .ref q_35, .ref q_44, .ref q_53, .ref q_59, .null, .int 0])), (q_8, .inl (G.2.1, 200, .inl (fun _ => 0))), (q_17, .inl (G.2.1, 200, .inl (fun _ => 0))), (q_26, .inl (G.2.1, 200, .inl (fun _ => 0))), (q_35, .inl (G.2.1, 200, .inl (fun _ => 0))), (q_44, .inl (G.2.2.2.1, 200, .inl (fun _ => 0))), (q_53, .inl (G.2.2.1, 201, .inr (.inl (fun _ => 0)))), (q_66, .inl (G.2.1, 200, .inl (fun _ => 0))), (q_59, .inr (3, [.ref q_66, .int (nI 0)])), (q_76, .inr (3, [.null, .int 0])), (q_83, .inl (G.2.1, 200, .inl (fun _ => 0)))] := hD
  refine W.widen (k := 10) (n := 1605) (Nat.le_of_ble_eq_true rfl) (Nat.le_of_ble_eq_true rfl) ?_
  refine lv_iconst (v := nI 0) hx hb dX4_init_85 (by decide) ?_
  have hPc := hP.sub (ws' := [(q_76, .inr (3, [.null, .int 0]))]) [9] rfl
  have hDc := hD.sub (ws' := [(q_76, .inr (3, [.null, .int 0]))]) [9] (by decide) rfl
  have hFc := va_free (wc := [(q_76, .inr (3, [.null, .int 0]))]) hD hS hA [9] rfl
  refine va_callv (va_runI (As := [.ref q_83, .int (nI 0)]) (rest := [.ref q_76, .ref h0]) ⟨hx, hb, hml, hown, htb⟩ (qc_S_init l G q_76 q_83 0 H.size) (cwI 2 htb (qW_good qw_65) rfl rfl rfl (htb _ qw_16) (htb _ qw_63) (htb _ qw_64) rfl (by decide +kernel) ⟨Nat.le_of_ble_eq_true rfl, Nat.le_of_ble_eq_true rfl⟩) (qk_psw hK hPc hN hDc) rfl rfl hl.1 rfl (lv_room (Nat.le_of_ble_eq_true rfl)) dX4_init_86 ⟨Nat.le_of_ble_eq_true rfl, Nat.le_of_ble_eq_true rfl⟩) hS (fun q _ h => hFc q h) hFc (fun u_86 t9 H1 locs ht9 hvm w_86 hB hz1 hk1 hS => ?_)
  obtain ⟨v_86, rfl⟩ : ∃ z, z = u_86 := ⟨_, rfl⟩
  obtain ⟨hP1, hK1, hD1⟩ := hB
  rw [ht9] at hP1
  obtain ⟨hP, hD⟩ := va_join (wr := [(h0, .inr (4, [.ref q_8, .ref q_17, .ref q_26, .ref q_35, .ref q_44, .ref q_53, .ref q_59, .null, .int 0])), (q_8, .inl (G.2.1, 200, .inl (fun _ => 0))), (q_17, .inl (G.2.1, 200, .inl (fun _ => 0))), (q_26, .inl (G.2.1, 200, .inl (fun _ => 0))), (q_35, .inl (G.2.1, 200, .inl (fun _ => 0))), (q_44, .inl (G.2.2.2.1, 200, .inl (fun _ => 0))), (q_53, .inl (G.2.2.1, 201, .inr (.inl (fun _ => 0)))), (q_66, .inl (G.2.1, 200, .inl (fun _ => 0))), (q_59, .inr (3, [.ref q_66, .int (nI 0)])), (q_83, .inl (G.2.1, 200, .inl (fun _ => 0)))]) (w1 := [(q_76, .inr (3, [.ref q_83, .int (nI 0)]))]) hP hD [9] [0, 1, 2, 3, 4, 5, 6, 7, 8, 10] rfl rfl (by decide) (by decide) hk1 hFc hP1 hD1
  generalize H1 = H at hP hS ⊢
  have hP : va_P G.1 vwCl [(h0, .inr (4, [.ref q_8, .ref q_17, .ref q_26, .ref q_35, .ref q_44, .ref q_53, .ref q_59, .null, .int 0])), (q_8, .inl (G.2.1, 200, .inl (fun _ => 0))), (q_17, .inl (G.2.1, 200, .inl (fun _ => 0))), (q_26, .inl (G.2.1, 200, .inl (fun _ => 0))), (q_35, .inl (G.2.1, 200, .inl (fun _ => 0))), (q_44, .inl (G.2.2.2.1, 200, .inl (fun _ => 0))), (q_53, .inl (G.2.2.1, 201, .inr (.inl (fun _ => 0)))), (q_66, .inl (G.2.1, 200, .inl (fun _ => 0))), (q_59, .inr (3, [.ref q_66, .int (nI 0)])), (q_83, .inl (G.2.1, 200, .inl (fun _ => 0))), (q_76, .inr (3, [.ref q_83, .int (nI 0)]))] H := hP
  have hD : va_D A [(h0, .inr (4, [.ref q_8, .ref q_17, .ref q_26, .ref q_35, .ref q_44, .ref q_53, .ref q_59, .null, .int 0])), (q_8, .inl (G.2.1, 200, .inl (fun _ => 0))), (q_17, .inl (G.2.1, 200, .inl (fun _ => 0))), (q_26, .inl (G.2.1, 200, .inl (fun _ => 0))), (q_35, .inl (G.2.1, 200, .inl (fun _ => 0))), (q_44, .inl (G.2.2.2.1, 200, .inl (fun _ => 0))), (q_53, .inl (G.2.2.1, 201, .inr (.inl (fun _ => 0)))), (q_66, .inl (G.2.1, 200, .inl (fun _ => 0))), (q_59, .inr (3, [.ref q_66, .int (nI 0)])), (q_83, .inl (G.2.1, 200, .inl (fun _ => 0))), (q_76, .inr (3, [.ref q_83, .int (nI 0)]))] := hD
  refine va_putF (D := G.1) (ci := 4) (v := .ref q_76) (ty := .object "GradeRows$Sorted") (C := "GradeRows$Steps") (T := TX4) (N := 9) hx hb htb inX4 tyX4 tyX4_ok nmX4 hown hK hP hD hS 0 rfl rfl 7 (by decide) (htb _ qw_82) (fun _ h9 => h9) rfl hin rfl (by decide +kernel) rfl rfl (Nat.le_of_ble_eq_true rfl) dX4_init_89 (fun H locs hP hD hS => ?_)
  have hP : va_P G.1 vwCl [(h0, .inr (4, [.ref q_8, .ref q_17, .ref q_26, .ref q_35, .ref q_44, .ref q_53, .ref q_59, .ref q_76, .int 0])), (q_8, .inl (G.2.1, 200, .inl (fun _ => 0))), (q_17, .inl (G.2.1, 200, .inl (fun _ => 0))), (q_26, .inl (G.2.1, 200, .inl (fun _ => 0))), (q_35, .inl (G.2.1, 200, .inl (fun _ => 0))), (q_44, .inl (G.2.2.2.1, 200, .inl (fun _ => 0))), (q_53, .inl (G.2.2.1, 201, .inr (.inl (fun _ => 0)))), (q_66, .inl (G.2.1, 200, .inl (fun _ => 0))), (q_59, .inr (3, [.ref q_66, .int (nI 0)])), (q_83, .inl (G.2.1, 200, .inl (fun _ => 0))), (q_76, .inr (3, [.ref q_83, .int (nI 0)]))] H := hP
  have hD : va_D A [(h0, .inr (4, [.ref q_8, .ref q_17, .ref q_26, .ref q_35, .ref q_44, .ref q_53, .ref q_59, .ref q_76, .int 0])), (q_8, .inl (G.2.1, 200, .inl (fun _ => 0))), (q_17, .inl (G.2.1, 200, .inl (fun _ => 0))), (q_26, .inl (G.2.1, 200, .inl (fun _ => 0))), (q_35, .inl (G.2.1, 200, .inl (fun _ => 0))), (q_44, .inl (G.2.2.2.1, 200, .inl (fun _ => 0))), (q_53, .inl (G.2.2.1, 201, .inr (.inl (fun _ => 0)))), (q_66, .inl (G.2.1, 200, .inl (fun _ => 0))), (q_59, .inr (3, [.ref q_66, .int (nI 0)])), (q_83, .inl (G.2.1, 200, .inl (fun _ => 0))), (q_76, .inr (3, [.ref q_83, .int (nI 0)]))] := hD
  refine lv_aload_n hx hb dX4_init_92 rfl (lv_at hl 0 rfl) ?_
  refine lv_iconst (v := nI 0) hx hb dX4_init_93 (by decide) ?_
  refine va_put (D := G.1) (ci := 4) (v := .int (nI 0)) (ty := .int) (C := "GradeRows$Steps") (T := TX4) (N := 9) hx hb htb inX4 tyX4 tyX4_ok nmX4 hown hK hP hD hS 0 rfl rfl 8 (by decide) (htb _ qw_83) (fun _ h9 => h9) rfl (by decide +kernel) rfl rfl (Nat.le_of_ble_eq_true rfl) dX4_init_94 (fun H locs hP hD hS => ?_)
  have hP : va_P G.1 vwCl [(h0, .inr (4, [.ref q_8, .ref q_17, .ref q_26, .ref q_35, .ref q_44, .ref q_53, .ref q_59, .ref q_76, .int (nI 0)])), (q_8, .inl (G.2.1, 200, .inl (fun _ => 0))), (q_17, .inl (G.2.1, 200, .inl (fun _ => 0))), (q_26, .inl (G.2.1, 200, .inl (fun _ => 0))), (q_35, .inl (G.2.1, 200, .inl (fun _ => 0))), (q_44, .inl (G.2.2.2.1, 200, .inl (fun _ => 0))), (q_53, .inl (G.2.2.1, 201, .inr (.inl (fun _ => 0)))), (q_66, .inl (G.2.1, 200, .inl (fun _ => 0))), (q_59, .inr (3, [.ref q_66, .int (nI 0)])), (q_83, .inl (G.2.1, 200, .inl (fun _ => 0))), (q_76, .inr (3, [.ref q_83, .int (nI 0)]))] H := hP
  have hD : va_D A [(h0, .inr (4, [.ref q_8, .ref q_17, .ref q_26, .ref q_35, .ref q_44, .ref q_53, .ref q_59, .ref q_76, .int (nI 0)])), (q_8, .inl (G.2.1, 200, .inl (fun _ => 0))), (q_17, .inl (G.2.1, 200, .inl (fun _ => 0))), (q_26, .inl (G.2.1, 200, .inl (fun _ => 0))), (q_35, .inl (G.2.1, 200, .inl (fun _ => 0))), (q_44, .inl (G.2.2.2.1, 200, .inl (fun _ => 0))), (q_53, .inl (G.2.2.1, 201, .inr (.inl (fun _ => 0)))), (q_66, .inl (G.2.1, 200, .inl (fun _ => 0))), (q_59, .inr (3, [.ref q_66, .int (nI 0)])), (q_83, .inl (G.2.1, 200, .inl (fun _ => 0))), (q_76, .inr (3, [.ref q_83, .int (nI 0)]))] := hD
  have hP9 := hP.sub (ws' := [(h0, .inr (4, [.ref q_8, .ref q_17, .ref q_26, .ref q_35, .ref q_44, .ref q_53, .ref q_59, .ref q_76, .int (nI 0)])), (q_8, .inl (G.2.1, 200, .inl (fun _ => 0))), (q_17, .inl (G.2.1, 200, .inl (fun _ => 0))), (q_26, .inl (G.2.1, 200, .inl (fun _ => 0))), (q_35, .inl (G.2.1, 200, .inl (fun _ => 0))), (q_44, .inl (G.2.2.2.1, 200, .inl (fun _ => 0))), (q_53, .inl (G.2.2.1, 201, .inr (.inl (fun _ => 0)))), (q_59, .inr (3, [.ref q_66, .int (nI 0)])), (q_66, .inl (G.2.1, 200, .inl (fun _ => 0))), (q_76, .inr (3, [.ref q_83, .int (nI 0)])), (q_83, .inl (G.2.1, 200, .inl (fun _ => 0)))]) [0, 1, 2, 3, 4, 5, 6, 8, 7, 10, 9] rfl
  have hD9 := hD.sub (ws' := [(h0, .inr (4, [.ref q_8, .ref q_17, .ref q_26, .ref q_35, .ref q_44, .ref q_53, .ref q_59, .ref q_76, .int (nI 0)])), (q_8, .inl (G.2.1, 200, .inl (fun _ => 0))), (q_17, .inl (G.2.1, 200, .inl (fun _ => 0))), (q_26, .inl (G.2.1, 200, .inl (fun _ => 0))), (q_35, .inl (G.2.1, 200, .inl (fun _ => 0))), (q_44, .inl (G.2.2.2.1, 200, .inl (fun _ => 0))), (q_53, .inl (G.2.2.1, 201, .inr (.inl (fun _ => 0)))), (q_59, .inr (3, [.ref q_66, .int (nI 0)])), (q_66, .inl (G.2.1, 200, .inl (fun _ => 0))), (q_76, .inr (3, [.ref q_83, .int (nI 0)])), (q_83, .inl (G.2.1, 200, .inl (fun _ => 0)))]) [0, 1, 2, 3, 4, 5, 6, 8, 7, 10, 9] (by decide) rfl
  exact W.vret hx hb hr (fun t9 ht9 hW9 => ⟨⟨(q_8, q_17, q_26, q_35, q_44, q_53, q_59, q_66, q_76, q_83), rfl, trivial, by rw [ht9]; exact hP9, va_K.moved hW9.alike hK, hD9⟩, hS.F ht9⟩) hS.2.2 dX4_init_97

set_option maxHeartbeats 4000000 in
set_option maxRecDepth 100000 in
/-- GradeRows() -/
theorem qc_X_init (l : Launch) (G : qG) (h0 : Nat) (sz : Nat)  : Met l yX5_init wsX5_init ({ frames := 3, cells := 20, slots := 1832, locals := 62 } : Room) (va_Pc [.ref h0] (qk_prw G vwCl [(h0, .inr (5, [.null, .null, .null, .null, .int 0, .int 0]))] sz)) (va_Qv (fun (u : va_W) => qX_rep G h0 (fun _ => none) qz_0 u) (qk_B G vwCl (va_A [(h0, .inr (5, [.null, .null, .null, .null, .int 0, .int 0]))] sz) (fun (u : va_W) => u)) (va_A [(h0, .inr (5, [.null, .null, .null, .null, .int 0, .int 0]))] sz)) 20 1832 (va_A [(h0, .inr (5, [.null, .null, .null, .null, .int 0, .int 0]))] sz) := by
  refine Met.ofW (cc := cX5_init) (maxL := 1) (ret := none) (by decide) rfl ?_
  intro p e s m args below meth c s₁ B hml hv
  obtain ⟨rfl, hsz, hP, hK, hD0, hN⟩ := hv
  have hx := B.exec
  have hb := B.bytes
  have hr := B.returns
  have hlocks := B.notSynchronized
  have hts := atoms_spec (ws := wsX5_init) B.pre
  have htb := fun (w : Cond) (h : w ∈ qTb) => hts w (List.mem_cons_of_mem _ h)
  have hown : s.vm.findClass "GradeRows" = some m.cls := findClass_of_methodNamed B.named
  have hin : meth.name = "<init>" := (name_of_methodNamed B.named B.method).1
  subst hsz
  have hD := hD0.self (sz := s.heap.size)
  generalize hAe : va_A [(h0, .inr (5, [.null, .null, .null, .null, .int 0, .int 0]))] s.heap.size = A at hD ⊢
  have hA : ∀ q : Nat, s.heap.size ≤ q → A q := fun q h => by rw [← hAe]; exact Or.inr h
  have hS : va_S A s.heap s.heap [] := va_S.rf
  have hP : va_P G.1 vwCl [(h0, .inr (5, [.null, .null, .null, .null, .int 0, .int 0]))] s.heap := hP
  have hl := lv_entry ([.ref h0]) (n := 1) (Nat.le_of_ble_eq_true rfl)
  rw [lg_entry_eq]
  generalize (lg_sl ([.ref h0]) ++ List.replicate (1 - (lg_sl ([.ref h0])).length) Slot.unset).toArray = ls at hl ⊢
  have hl : lv_has ls 1 [(0, .ref h0)] := hl
  refine lv_aload_n hx hb dX5_init_0 rfl (lv_at hl 0 rfl) ?_
  refine W.objInit hx hb hown (htb _ qw_28) (htb _ qw_29) (htb _ qw_30) rfl (by rw [hml]; exact hl.1) rfl dX5_init_1 (Nat.le_of_ble_eq_true rfl) (Nat.le_of_ble_eq_true rfl) ?_
  refine W.eq (g2 := F0 m 4 ls []) rfl ?_
  refine lv_aload_n hx hb dX5_init_4 rfl (lv_at hl 0 rfl) ?_
  refine va_new (ci := 2) (fs := [.null, .null, .null, .null, .int 0]) (C := "GradeRows$Rules") (T := TX2) (N := 5) hx hb htb inX2 tyX2 tyX2_ok hown (htb _ qw_31) (htb _ qw_32) (htb _ qw_14) hK hP hD hS hA rfl (fun j hj => by rcases (show j = 0 ∨ j = 1 ∨ j = 2 ∨ j = 3 ∨ j = 4 by omega) with rfl | rfl | rfl | rfl | rfl <;> rfl) (Nat.le_of_ble_eq_true rfl) (Nat.le_of_ble_eq_true rfl) dX5_init_5 (fun q_5 H hP hD hS => ?_)
  have hP : va_P G.1 vwCl [(h0, .inr (5, [.null, .null, .null, .null, .int 0, .int 0])), (q_5, .inr (2, [.null, .null, .null, .null, .int 0]))] H := hP
  have hD : va_D A [(h0, .inr (5, [.null, .null, .null, .null, .int 0, .int 0])), (q_5, .inr (2, [.null, .null, .null, .null, .int 0]))] := hD
  refine W.widen (k := 1) (n := 5) (Nat.le_of_ble_eq_true rfl) (Nat.le_of_ble_eq_true rfl) ?_
  refine lv_dup hx hb dX5_init_8 rfl ?_
  have hPc := hP.sub (ws' := [(q_5, .inr (2, [.null, .null, .null, .null, .int 0]))]) [1] rfl
  have hDc := hD.sub (ws' := [(q_5, .inr (2, [.null, .null, .null, .null, .int 0]))]) [1] (by decide) rfl
  have hFc := va_free (wc := [(q_5, .inr (2, [.null, .null, .null, .null, .int 0]))]) hD hS hA [1] rfl
  refine va_callv (va_runIN (As := []) (rest := [.ref q_5, .ref h0]) ⟨hx, hb, hml, hown, htb⟩ (qc_R_init l G q_5 H.size) ⟨va_cnB 0 htb (qW_good qw_35) rfl rfl rfl (hN.1 _ qw_33) (htb _ qw_14) (by decide +kernel) ⟨Nat.le_of_ble_eq_true rfl, Nat.le_of_ble_eq_true rfl⟩, rfl, htb _ qw_34⟩ (qk_psw hK hPc hN hDc) rfl rfl hl.1 rfl (lv_room (Nat.le_of_ble_eq_true rfl)) dX5_init_9 ⟨Nat.le_of_ble_eq_true rfl, Nat.le_of_ble_eq_true rfl⟩) hS (fun q _ h => hFc q h) hFc (fun u_9 t9 H1 locs ht9 hvm w_9 hB hz1 hk1 hS => ?_)
  obtain ⟨v_9, rfl⟩ : ∃ z, z = u_9 := ⟨_, rfl⟩
  obtain ⟨hP1, hK1, hD1⟩ := hB
  rw [ht9] at hP1
  obtain ⟨hP, hD⟩ := va_join (wr := [(h0, .inr (5, [.null, .null, .null, .null, .int 0, .int 0]))]) (w1 := [(q_5, .inr (2, [.ref v_9.1, .ref v_9.2.1, .ref v_9.2.2.1, .ref v_9.2.2.2, .int (nI 0)])), (v_9.1, .inl (G.2.1, 40, .inl (fun _ => 0))), (v_9.2.1, .inl (G.2.1, 40, .inl (fun _ => 0))), (v_9.2.2.1, .inl (G.2.1, 40, .inl (fun _ => 0))), (v_9.2.2.2, .inl (G.2.2.1, 40, .inr (.inl (fun _ => 0))))]) hP hD [1] [0] rfl rfl (by decide) (by decide) hk1 hFc hP1 hD1
  generalize H1 = H at hP hS ⊢
  have hP : va_P G.1 vwCl [(h0, .inr (5, [.null, .null, .null, .null, .int 0, .int 0])), (q_5, .inr (2, [.ref v_9.1, .ref v_9.2.1, .ref v_9.2.2.1, .ref v_9.2.2.2, .int (nI 0)])), (v_9.1, .inl (G.2.1, 40, .inl (fun _ => 0))), (v_9.2.1, .inl (G.2.1, 40, .inl (fun _ => 0))), (v_9.2.2.1, .inl (G.2.1, 40, .inl (fun _ => 0))), (v_9.2.2.2, .inl (G.2.2.1, 40, .inr (.inl (fun _ => 0))))] H := hP
  have hD : va_D A [(h0, .inr (5, [.null, .null, .null, .null, .int 0, .int 0])), (q_5, .inr (2, [.ref v_9.1, .ref v_9.2.1, .ref v_9.2.2.1, .ref v_9.2.2.2, .int (nI 0)])), (v_9.1, .inl (G.2.1, 40, .inl (fun _ => 0))), (v_9.2.1, .inl (G.2.1, 40, .inl (fun _ => 0))), (v_9.2.2.1, .inl (G.2.1, 40, .inl (fun _ => 0))), (v_9.2.2.2, .inl (G.2.2.1, 40, .inr (.inl (fun _ => 0))))] := hD
  refine W.widen (k := 5) (n := 165) (Nat.le_of_ble_eq_true rfl) (Nat.le_of_ble_eq_true rfl) ?_
  refine va_putF (D := G.1) (ci := 5) (v := .ref q_5) (ty := .object "GradeRows$Rules") (C := "GradeRows") (T := TX5) (N := 6) hx hb htb inX5 tyX5 tyX5_ok nmX5 hown hK hP hD hS 0 rfl rfl 0 (by decide) (htb _ qw_121) (fun _ h9 => h9) rfl hin rfl (by decide +kernel) rfl rfl (Nat.le_of_ble_eq_true rfl) dX5_init_12 (fun H locs hP hD hS => ?_)
  have hP : va_P G.1 vwCl [(h0, .inr (5, [.ref q_5, .null, .null, .null, .int 0, .int 0])), (q_5, .inr (2, [.ref v_9.1, .ref v_9.2.1, .ref v_9.2.2.1, .ref v_9.2.2.2, .int (nI 0)])), (v_9.1, .inl (G.2.1, 40, .inl (fun _ => 0))), (v_9.2.1, .inl (G.2.1, 40, .inl (fun _ => 0))), (v_9.2.2.1, .inl (G.2.1, 40, .inl (fun _ => 0))), (v_9.2.2.2, .inl (G.2.2.1, 40, .inr (.inl (fun _ => 0))))] H := hP
  have hD : va_D A [(h0, .inr (5, [.ref q_5, .null, .null, .null, .int 0, .int 0])), (q_5, .inr (2, [.ref v_9.1, .ref v_9.2.1, .ref v_9.2.2.1, .ref v_9.2.2.2, .int (nI 0)])), (v_9.1, .inl (G.2.1, 40, .inl (fun _ => 0))), (v_9.2.1, .inl (G.2.1, 40, .inl (fun _ => 0))), (v_9.2.2.1, .inl (G.2.1, 40, .inl (fun _ => 0))), (v_9.2.2.2, .inl (G.2.2.1, 40, .inr (.inl (fun _ => 0))))] := hD
  refine lv_aload_n hx hb dX5_init_15 rfl (lv_at hl 0 rfl) ?_
  refine va_new (ci := 4) (fs := [.null, .null, .null, .null, .null, .null, .null, .null, .int 0]) (C := "GradeRows$Steps") (T := TX4) (N := 9) hx hb htb inX4 tyX4 tyX4_ok hown (htb _ qw_55) (htb _ qw_56) (htb _ qw_15) hK hP hD hS hA rfl (fun j hj => by rcases (show j = 0 ∨ j = 1 ∨ j = 2 ∨ j = 3 ∨ j = 4 ∨ j = 5 ∨ j = 6 ∨ j = 7 ∨ j = 8 by omega) with rfl | rfl | rfl | rfl | rfl | rfl | rfl | rfl | rfl <;> rfl) (Nat.le_of_ble_eq_true rfl) (Nat.le_of_ble_eq_true rfl) dX5_init_16 (fun q_16 H hP hD hS => ?_)
  have hP : va_P G.1 vwCl [(h0, .inr (5, [.ref q_5, .null, .null, .null, .int 0, .int 0])), (q_5, .inr (2, [.ref v_9.1, .ref v_9.2.1, .ref v_9.2.2.1, .ref v_9.2.2.2, .int (nI 0)])), (v_9.1, .inl (G.2.1, 40, .inl (fun _ => 0))), (v_9.2.1, .inl (G.2.1, 40, .inl (fun _ => 0))), (v_9.2.2.1, .inl (G.2.1, 40, .inl (fun _ => 0))), (v_9.2.2.2, .inl (G.2.2.1, 40, .inr (.inl (fun _ => 0)))), (q_16, .inr (4, [.null, .null, .null, .null, .null, .null, .null, .null, .int 0]))] H := hP
  have hD : va_D A [(h0, .inr (5, [.ref q_5, .null, .null, .null, .int 0, .int 0])), (q_5, .inr (2, [.ref v_9.1, .ref v_9.2.1, .ref v_9.2.2.1, .ref v_9.2.2.2, .int (nI 0)])), (v_9.1, .inl (G.2.1, 40, .inl (fun _ => 0))), (v_9.2.1, .inl (G.2.1, 40, .inl (fun _ => 0))), (v_9.2.2.1, .inl (G.2.1, 40, .inl (fun _ => 0))), (v_9.2.2.2, .inl (G.2.2.1, 40, .inr (.inl (fun _ => 0)))), (q_16, .inr (4, [.null, .null, .null, .null, .null, .null, .null, .null, .int 0]))] := hD
  refine W.widen (k := 6) (n := 174) (Nat.le_of_ble_eq_true rfl) (Nat.le_of_ble_eq_true rfl) ?_
  refine lv_dup hx hb dX5_init_19 rfl ?_
  have hPc := hP.sub (ws' := [(q_16, .inr (4, [.null, .null, .null, .null, .null, .null, .null, .null, .int 0]))]) [6] rfl
  have hDc := hD.sub (ws' := [(q_16, .inr (4, [.null, .null, .null, .null, .null, .null, .null, .null, .int 0]))]) [6] (by decide) rfl
  have hFc := va_free (wc := [(q_16, .inr (4, [.null, .null, .null, .null, .null, .null, .null, .null, .int 0]))]) hD hS hA [6] rfl
  refine va_callv (va_runIN (As := []) (rest := [.ref q_16, .ref h0]) ⟨hx, hb, hml, hown, htb⟩ (qc_T_init l G q_16 H.size) ⟨va_cnB 0 htb (qW_good qw_59) rfl rfl rfl (hN.1 _ qw_57) (htb _ qw_15) (by decide +kernel) ⟨Nat.le_of_ble_eq_true rfl, Nat.le_of_ble_eq_true rfl⟩, rfl, htb _ qw_58⟩ (qk_psw hK hPc hN hDc) rfl rfl hl.1 rfl (lv_room (Nat.le_of_ble_eq_true rfl)) dX5_init_20 ⟨Nat.le_of_ble_eq_true rfl, Nat.le_of_ble_eq_true rfl⟩) hS (fun q _ h => hFc q h) hFc (fun u_20 t9 H1 locs ht9 hvm w_20 hB hz1 hk1 hS => ?_)
  obtain ⟨v_20, rfl⟩ : ∃ z, z = u_20 := ⟨_, rfl⟩
  obtain ⟨hP1, hK1, hD1⟩ := hB
  rw [ht9] at hP1
  obtain ⟨hP, hD⟩ := va_join (wr := [(h0, .inr (5, [.ref q_5, .null, .null, .null, .int 0, .int 0])), (q_5, .inr (2, [.ref v_9.1, .ref v_9.2.1, .ref v_9.2.2.1, .ref v_9.2.2.2, .int (nI 0)])), (v_9.1, .inl (G.2.1, 40, .inl (fun _ => 0))), (v_9.2.1, .inl (G.2.1, 40, .inl (fun _ => 0))), (v_9.2.2.1, .inl (G.2.1, 40, .inl (fun _ => 0))), (v_9.2.2.2, .inl (G.2.2.1, 40, .inr (.inl (fun _ => 0))))]) (w1 := [(q_16, .inr (4, [.ref v_20.1, .ref v_20.2.1, .ref v_20.2.2.1, .ref v_20.2.2.2.1, .ref v_20.2.2.2.2.1, .ref v_20.2.2.2.2.2.1, .ref v_20.2.2.2.2.2.2.1, .ref v_20.2.2.2.2.2.2.2.2.1, .int (nI 0)])), (v_20.1, .inl (G.2.1, 200, .inl (fun _ => 0))), (v_20.2.1, .inl (G.2.1, 200, .inl (fun _ => 0))), (v_20.2.2.1, .inl (G.2.1, 200, .inl (fun _ => 0))), (v_20.2.2.2.1, .inl (G.2.1, 200, .inl (fun _ => 0))), (v_20.2.2.2.2.1, .inl (G.2.2.2.1, 200, .inl (fun _ => 0))), (v_20.2.2.2.2.2.1, .inl (G.2.2.1, 201, .inr (.inl (fun _ => 0)))), (v_20.2.2.2.2.2.2.1, .inr (3, [.ref v_20.2.2.2.2.2.2.2.1, .int (nI 0)])), (v_20.2.2.2.2.2.2.2.1, .inl (G.2.1, 200, .inl (fun _ => 0))), (v_20.2.2.2.2.2.2.2.2.1, .inr (3, [.ref v_20.2.2.2.2.2.2.2.2.2, .int (nI 0)])), (v_20.2.2.2.2.2.2.2.2.2, .inl (G.2.1, 200, .inl (fun _ => 0)))]) hP hD [6] [0, 1, 2, 3, 4, 5] rfl rfl (by decide) (by decide) hk1 hFc hP1 hD1
  generalize H1 = H at hP hS ⊢
  have hP : va_P G.1 vwCl [(h0, .inr (5, [.ref q_5, .null, .null, .null, .int 0, .int 0])), (q_5, .inr (2, [.ref v_9.1, .ref v_9.2.1, .ref v_9.2.2.1, .ref v_9.2.2.2, .int (nI 0)])), (v_9.1, .inl (G.2.1, 40, .inl (fun _ => 0))), (v_9.2.1, .inl (G.2.1, 40, .inl (fun _ => 0))), (v_9.2.2.1, .inl (G.2.1, 40, .inl (fun _ => 0))), (v_9.2.2.2, .inl (G.2.2.1, 40, .inr (.inl (fun _ => 0)))), (q_16, .inr (4, [.ref v_20.1, .ref v_20.2.1, .ref v_20.2.2.1, .ref v_20.2.2.2.1, .ref v_20.2.2.2.2.1, .ref v_20.2.2.2.2.2.1, .ref v_20.2.2.2.2.2.2.1, .ref v_20.2.2.2.2.2.2.2.2.1, .int (nI 0)])), (v_20.1, .inl (G.2.1, 200, .inl (fun _ => 0))), (v_20.2.1, .inl (G.2.1, 200, .inl (fun _ => 0))), (v_20.2.2.1, .inl (G.2.1, 200, .inl (fun _ => 0))), (v_20.2.2.2.1, .inl (G.2.1, 200, .inl (fun _ => 0))), (v_20.2.2.2.2.1, .inl (G.2.2.2.1, 200, .inl (fun _ => 0))), (v_20.2.2.2.2.2.1, .inl (G.2.2.1, 201, .inr (.inl (fun _ => 0)))), (v_20.2.2.2.2.2.2.1, .inr (3, [.ref v_20.2.2.2.2.2.2.2.1, .int (nI 0)])), (v_20.2.2.2.2.2.2.2.1, .inl (G.2.1, 200, .inl (fun _ => 0))), (v_20.2.2.2.2.2.2.2.2.1, .inr (3, [.ref v_20.2.2.2.2.2.2.2.2.2, .int (nI 0)])), (v_20.2.2.2.2.2.2.2.2.2, .inl (G.2.1, 200, .inl (fun _ => 0)))] H := hP
  have hD : va_D A [(h0, .inr (5, [.ref q_5, .null, .null, .null, .int 0, .int 0])), (q_5, .inr (2, [.ref v_9.1, .ref v_9.2.1, .ref v_9.2.2.1, .ref v_9.2.2.2, .int (nI 0)])), (v_9.1, .inl (G.2.1, 40, .inl (fun _ => 0))), (v_9.2.1, .inl (G.2.1, 40, .inl (fun _ => 0))), (v_9.2.2.1, .inl (G.2.1, 40, .inl (fun _ => 0))), (v_9.2.2.2, .inl (G.2.2.1, 40, .inr (.inl (fun _ => 0)))), (q_16, .inr (4, [.ref v_20.1, .ref v_20.2.1, .ref v_20.2.2.1, .ref v_20.2.2.2.1, .ref v_20.2.2.2.2.1, .ref v_20.2.2.2.2.2.1, .ref v_20.2.2.2.2.2.2.1, .ref v_20.2.2.2.2.2.2.2.2.1, .int (nI 0)])), (v_20.1, .inl (G.2.1, 200, .inl (fun _ => 0))), (v_20.2.1, .inl (G.2.1, 200, .inl (fun _ => 0))), (v_20.2.2.1, .inl (G.2.1, 200, .inl (fun _ => 0))), (v_20.2.2.2.1, .inl (G.2.1, 200, .inl (fun _ => 0))), (v_20.2.2.2.2.1, .inl (G.2.2.2.1, 200, .inl (fun _ => 0))), (v_20.2.2.2.2.2.1, .inl (G.2.2.1, 201, .inr (.inl (fun _ => 0)))), (v_20.2.2.2.2.2.2.1, .inr (3, [.ref v_20.2.2.2.2.2.2.2.1, .int (nI 0)])), (v_20.2.2.2.2.2.2.2.1, .inl (G.2.1, 200, .inl (fun _ => 0))), (v_20.2.2.2.2.2.2.2.2.1, .inr (3, [.ref v_20.2.2.2.2.2.2.2.2.2, .int (nI 0)])), (v_20.2.2.2.2.2.2.2.2.2, .inl (G.2.1, 200, .inl (fun _ => 0)))] := hD
  refine W.widen (k := 16) (n := 1779) (Nat.le_of_ble_eq_true rfl) (Nat.le_of_ble_eq_true rfl) ?_
  refine va_putF (D := G.1) (ci := 5) (v := .ref q_16) (ty := .object "GradeRows$Steps") (C := "GradeRows") (T := TX5) (N := 6) hx hb htb inX5 tyX5 tyX5_ok nmX5 hown hK hP hD hS 0 rfl rfl 1 (by decide) (htb _ qw_122) (fun _ h9 => h9) rfl hin rfl (by decide +kernel) rfl rfl (Nat.le_of_ble_eq_true rfl) dX5_init_23 (fun H locs hP hD hS => ?_)
  have hP : va_P G.1 vwCl [(h0, .inr (5, [.ref q_5, .ref q_16, .null, .null, .int 0, .int 0])), (q_5, .inr (2, [.ref v_9.1, .ref v_9.2.1, .ref v_9.2.2.1, .ref v_9.2.2.2, .int (nI 0)])), (v_9.1, .inl (G.2.1, 40, .inl (fun _ => 0))), (v_9.2.1, .inl (G.2.1, 40, .inl (fun _ => 0))), (v_9.2.2.1, .inl (G.2.1, 40, .inl (fun _ => 0))), (v_9.2.2.2, .inl (G.2.2.1, 40, .inr (.inl (fun _ => 0)))), (q_16, .inr (4, [.ref v_20.1, .ref v_20.2.1, .ref v_20.2.2.1, .ref v_20.2.2.2.1, .ref v_20.2.2.2.2.1, .ref v_20.2.2.2.2.2.1, .ref v_20.2.2.2.2.2.2.1, .ref v_20.2.2.2.2.2.2.2.2.1, .int (nI 0)])), (v_20.1, .inl (G.2.1, 200, .inl (fun _ => 0))), (v_20.2.1, .inl (G.2.1, 200, .inl (fun _ => 0))), (v_20.2.2.1, .inl (G.2.1, 200, .inl (fun _ => 0))), (v_20.2.2.2.1, .inl (G.2.1, 200, .inl (fun _ => 0))), (v_20.2.2.2.2.1, .inl (G.2.2.2.1, 200, .inl (fun _ => 0))), (v_20.2.2.2.2.2.1, .inl (G.2.2.1, 201, .inr (.inl (fun _ => 0)))), (v_20.2.2.2.2.2.2.1, .inr (3, [.ref v_20.2.2.2.2.2.2.2.1, .int (nI 0)])), (v_20.2.2.2.2.2.2.2.1, .inl (G.2.1, 200, .inl (fun _ => 0))), (v_20.2.2.2.2.2.2.2.2.1, .inr (3, [.ref v_20.2.2.2.2.2.2.2.2.2, .int (nI 0)])), (v_20.2.2.2.2.2.2.2.2.2, .inl (G.2.1, 200, .inl (fun _ => 0)))] H := hP
  have hD : va_D A [(h0, .inr (5, [.ref q_5, .ref q_16, .null, .null, .int 0, .int 0])), (q_5, .inr (2, [.ref v_9.1, .ref v_9.2.1, .ref v_9.2.2.1, .ref v_9.2.2.2, .int (nI 0)])), (v_9.1, .inl (G.2.1, 40, .inl (fun _ => 0))), (v_9.2.1, .inl (G.2.1, 40, .inl (fun _ => 0))), (v_9.2.2.1, .inl (G.2.1, 40, .inl (fun _ => 0))), (v_9.2.2.2, .inl (G.2.2.1, 40, .inr (.inl (fun _ => 0)))), (q_16, .inr (4, [.ref v_20.1, .ref v_20.2.1, .ref v_20.2.2.1, .ref v_20.2.2.2.1, .ref v_20.2.2.2.2.1, .ref v_20.2.2.2.2.2.1, .ref v_20.2.2.2.2.2.2.1, .ref v_20.2.2.2.2.2.2.2.2.1, .int (nI 0)])), (v_20.1, .inl (G.2.1, 200, .inl (fun _ => 0))), (v_20.2.1, .inl (G.2.1, 200, .inl (fun _ => 0))), (v_20.2.2.1, .inl (G.2.1, 200, .inl (fun _ => 0))), (v_20.2.2.2.1, .inl (G.2.1, 200, .inl (fun _ => 0))), (v_20.2.2.2.2.1, .inl (G.2.2.2.1, 200, .inl (fun _ => 0))), (v_20.2.2.2.2.2.1, .inl (G.2.2.1, 201, .inr (.inl (fun _ => 0)))), (v_20.2.2.2.2.2.2.1, .inr (3, [.ref v_20.2.2.2.2.2.2.2.1, .int (nI 0)])), (v_20.2.2.2.2.2.2.2.1, .inl (G.2.1, 200, .inl (fun _ => 0))), (v_20.2.2.2.2.2.2.2.2.1, .inr (3, [.ref v_20.2.2.2.2.2.2.2.2.2, .int (nI 0)])), (v_20.2.2.2.2.2.2.2.2.2, .inl (G.2.1, 200, .inl (fun _ => 0)))] := hD
  refine lv_aload_n hx hb dX5_init_26 rfl (lv_at hl 0 rfl) ?_
  refine va_new (ci := 0) (fs := [.null, .null, .int 0]) (C := "GradeRows$Classes") (T := TX0) (N := 3) hx hb htb inX0 tyX0 tyX0_ok hown (htb _ qw_103) (htb _ qw_104) (htb _ qw_17) hK hP hD hS hA rfl (fun j hj => by rcases (show j = 0 ∨ j = 1 ∨ j = 2 by omega) with rfl | rfl | rfl <;> rfl) (Nat.le_of_ble_eq_true rfl) (Nat.le_of_ble_eq_true rfl) dX5_init_27 (fun q_27 H hP hD hS => ?_)
  have hP : va_P G.1 vwCl [(h0, .inr (5, [.ref q_5, .ref q_16, .null, .null, .int 0, .int 0])), (q_5, .inr (2, [.ref v_9.1, .ref v_9.2.1, .ref v_9.2.2.1, .ref v_9.2.2.2, .int (nI 0)])), (v_9.1, .inl (G.2.1, 40, .inl (fun _ => 0))), (v_9.2.1, .inl (G.2.1, 40, .inl (fun _ => 0))), (v_9.2.2.1, .inl (G.2.1, 40, .inl (fun _ => 0))), (v_9.2.2.2, .inl (G.2.2.1, 40, .inr (.inl (fun _ => 0)))), (q_16, .inr (4, [.ref v_20.1, .ref v_20.2.1, .ref v_20.2.2.1, .ref v_20.2.2.2.1, .ref v_20.2.2.2.2.1, .ref v_20.2.2.2.2.2.1, .ref v_20.2.2.2.2.2.2.1, .ref v_20.2.2.2.2.2.2.2.2.1, .int (nI 0)])), (v_20.1, .inl (G.2.1, 200, .inl (fun _ => 0))), (v_20.2.1, .inl (G.2.1, 200, .inl (fun _ => 0))), (v_20.2.2.1, .inl (G.2.1, 200, .inl (fun _ => 0))), (v_20.2.2.2.1, .inl (G.2.1, 200, .inl (fun _ => 0))), (v_20.2.2.2.2.1, .inl (G.2.2.2.1, 200, .inl (fun _ => 0))), (v_20.2.2.2.2.2.1, .inl (G.2.2.1, 201, .inr (.inl (fun _ => 0)))), (v_20.2.2.2.2.2.2.1, .inr (3, [.ref v_20.2.2.2.2.2.2.2.1, .int (nI 0)])), (v_20.2.2.2.2.2.2.2.1, .inl (G.2.1, 200, .inl (fun _ => 0))), (v_20.2.2.2.2.2.2.2.2.1, .inr (3, [.ref v_20.2.2.2.2.2.2.2.2.2, .int (nI 0)])), (v_20.2.2.2.2.2.2.2.2.2, .inl (G.2.1, 200, .inl (fun _ => 0))), (q_27, .inr (0, [.null, .null, .int 0]))] H := hP
  have hD : va_D A [(h0, .inr (5, [.ref q_5, .ref q_16, .null, .null, .int 0, .int 0])), (q_5, .inr (2, [.ref v_9.1, .ref v_9.2.1, .ref v_9.2.2.1, .ref v_9.2.2.2, .int (nI 0)])), (v_9.1, .inl (G.2.1, 40, .inl (fun _ => 0))), (v_9.2.1, .inl (G.2.1, 40, .inl (fun _ => 0))), (v_9.2.2.1, .inl (G.2.1, 40, .inl (fun _ => 0))), (v_9.2.2.2, .inl (G.2.2.1, 40, .inr (.inl (fun _ => 0)))), (q_16, .inr (4, [.ref v_20.1, .ref v_20.2.1, .ref v_20.2.2.1, .ref v_20.2.2.2.1, .ref v_20.2.2.2.2.1, .ref v_20.2.2.2.2.2.1, .ref v_20.2.2.2.2.2.2.1, .ref v_20.2.2.2.2.2.2.2.2.1, .int (nI 0)])), (v_20.1, .inl (G.2.1, 200, .inl (fun _ => 0))), (v_20.2.1, .inl (G.2.1, 200, .inl (fun _ => 0))), (v_20.2.2.1, .inl (G.2.1, 200, .inl (fun _ => 0))), (v_20.2.2.2.1, .inl (G.2.1, 200, .inl (fun _ => 0))), (v_20.2.2.2.2.1, .inl (G.2.2.2.1, 200, .inl (fun _ => 0))), (v_20.2.2.2.2.2.1, .inl (G.2.2.1, 201, .inr (.inl (fun _ => 0)))), (v_20.2.2.2.2.2.2.1, .inr (3, [.ref v_20.2.2.2.2.2.2.2.1, .int (nI 0)])), (v_20.2.2.2.2.2.2.2.1, .inl (G.2.1, 200, .inl (fun _ => 0))), (v_20.2.2.2.2.2.2.2.2.1, .inr (3, [.ref v_20.2.2.2.2.2.2.2.2.2, .int (nI 0)])), (v_20.2.2.2.2.2.2.2.2.2, .inl (G.2.1, 200, .inl (fun _ => 0))), (q_27, .inr (0, [.null, .null, .int 0]))] := hD
  refine W.widen (k := 17) (n := 1782) (Nat.le_of_ble_eq_true rfl) (Nat.le_of_ble_eq_true rfl) ?_
  refine lv_dup hx hb dX5_init_30 rfl ?_
  have hPc := hP.sub (ws' := [(q_27, .inr (0, [.null, .null, .int 0]))]) [17] rfl
  have hDc := hD.sub (ws' := [(q_27, .inr (0, [.null, .null, .int 0]))]) [17] (by decide) rfl
  have hFc := va_free (wc := [(q_27, .inr (0, [.null, .null, .int 0]))]) hD hS hA [17] rfl
  refine va_callv (va_runIN (As := []) (rest := [.ref q_27, .ref h0]) ⟨hx, hb, hml, hown, htb⟩ (qc_C_init l G q_27 H.size) ⟨va_cnB 0 htb (qW_good qw_107) rfl rfl rfl (hN.1 _ qw_105) (htb _ qw_17) (by decide +kernel) ⟨Nat.le_of_ble_eq_true rfl, Nat.le_of_ble_eq_true rfl⟩, rfl, htb _ qw_106⟩ (qk_psw hK hPc hN hDc) rfl rfl hl.1 rfl (lv_room (Nat.le_of_ble_eq_true rfl)) dX5_init_31 ⟨Nat.le_of_ble_eq_true rfl, Nat.le_of_ble_eq_true rfl⟩) hS (fun q _ h => hFc q h) hFc (fun u_31 t9 H1 locs ht9 hvm w_31 hB hz1 hk1 hS => ?_)
  obtain ⟨v_31, rfl⟩ : ∃ z, z = u_31 := ⟨_, rfl⟩
  obtain ⟨hP1, hK1, hD1⟩ := hB
  rw [ht9] at hP1
  obtain ⟨hP, hD⟩ := va_join (wr := [(h0, .inr (5, [.ref q_5, .ref q_16, .null, .null, .int 0, .int 0])), (q_5, .inr (2, [.ref v_9.1, .ref v_9.2.1, .ref v_9.2.2.1, .ref v_9.2.2.2, .int (nI 0)])), (v_9.1, .inl (G.2.1, 40, .inl (fun _ => 0))), (v_9.2.1, .inl (G.2.1, 40, .inl (fun _ => 0))), (v_9.2.2.1, .inl (G.2.1, 40, .inl (fun _ => 0))), (v_9.2.2.2, .inl (G.2.2.1, 40, .inr (.inl (fun _ => 0)))), (q_16, .inr (4, [.ref v_20.1, .ref v_20.2.1, .ref v_20.2.2.1, .ref v_20.2.2.2.1, .ref v_20.2.2.2.2.1, .ref v_20.2.2.2.2.2.1, .ref v_20.2.2.2.2.2.2.1, .ref v_20.2.2.2.2.2.2.2.2.1, .int (nI 0)])), (v_20.1, .inl (G.2.1, 200, .inl (fun _ => 0))), (v_20.2.1, .inl (G.2.1, 200, .inl (fun _ => 0))), (v_20.2.2.1, .inl (G.2.1, 200, .inl (fun _ => 0))), (v_20.2.2.2.1, .inl (G.2.1, 200, .inl (fun _ => 0))), (v_20.2.2.2.2.1, .inl (G.2.2.2.1, 200, .inl (fun _ => 0))), (v_20.2.2.2.2.2.1, .inl (G.2.2.1, 201, .inr (.inl (fun _ => 0)))), (v_20.2.2.2.2.2.2.1, .inr (3, [.ref v_20.2.2.2.2.2.2.2.1, .int (nI 0)])), (v_20.2.2.2.2.2.2.2.1, .inl (G.2.1, 200, .inl (fun _ => 0))), (v_20.2.2.2.2.2.2.2.2.1, .inr (3, [.ref v_20.2.2.2.2.2.2.2.2.2, .int (nI 0)])), (v_20.2.2.2.2.2.2.2.2.2, .inl (G.2.1, 200, .inl (fun _ => 0)))]) (w1 := [(q_27, .inr (0, [.ref v_31.1, .ref v_31.2, .int (nI 0)])), (v_31.1, .inl (G.2.2.1, 20, .inr (.inl (fun _ => 0)))), (v_31.2, .inl (G.2.2.1, 20, .inr (.inl (fun _ => 0))))]) hP hD [17] [0, 1, 2, 3, 4, 5, 6, 7, 8, 9, 10, 11, 12, 13, 14, 15, 16] rfl rfl (by decide) (by decide) hk1 hFc hP1 hD1
  generalize H1 = H at hP hS ⊢
  have hP : va_P G.1 vwCl [(h0, .inr (5, [.ref q_5, .ref q_16, .null, .null, .int 0, .int 0])), (q_5, .inr (2, [.ref v_9.1, .ref v_9.2.1, .ref v_9.2.2.1, .ref v_9.2.2.2, .int (nI 0)])), (v_9.1, .inl (G.2.1, 40, .inl (fun _ => 0))), (v_9.2.1, .inl (G.2.1, 40, .inl (fun _ => 0))), (v_9.2.2.1, .inl (G.2.1, 40, .inl (fun _ => 0))), (v_9.2.2.2, .inl (G.2.2.1, 40, .inr (.inl (fun _ => 0)))), (q_16, .inr (4, [.ref v_20.1, .ref v_20.2.1, .ref v_20.2.2.1, .ref v_20.2.2.2.1, .ref v_20.2.2.2.2.1, .ref v_20.2.2.2.2.2.1, .ref v_20.2.2.2.2.2.2.1, .ref v_20.2.2.2.2.2.2.2.2.1, .int (nI 0)])), (v_20.1, .inl (G.2.1, 200, .inl (fun _ => 0))), (v_20.2.1, .inl (G.2.1, 200, .inl (fun _ => 0))), (v_20.2.2.1, .inl (G.2.1, 200, .inl (fun _ => 0))), (v_20.2.2.2.1, .inl (G.2.1, 200, .inl (fun _ => 0))), (v_20.2.2.2.2.1, .inl (G.2.2.2.1, 200, .inl (fun _ => 0))), (v_20.2.2.2.2.2.1, .inl (G.2.2.1, 201, .inr (.inl (fun _ => 0)))), (v_20.2.2.2.2.2.2.1, .inr (3, [.ref v_20.2.2.2.2.2.2.2.1, .int (nI 0)])), (v_20.2.2.2.2.2.2.2.1, .inl (G.2.1, 200, .inl (fun _ => 0))), (v_20.2.2.2.2.2.2.2.2.1, .inr (3, [.ref v_20.2.2.2.2.2.2.2.2.2, .int (nI 0)])), (v_20.2.2.2.2.2.2.2.2.2, .inl (G.2.1, 200, .inl (fun _ => 0))), (q_27, .inr (0, [.ref v_31.1, .ref v_31.2, .int (nI 0)])), (v_31.1, .inl (G.2.2.1, 20, .inr (.inl (fun _ => 0)))), (v_31.2, .inl (G.2.2.1, 20, .inr (.inl (fun _ => 0))))] H := hP
  have hD : va_D A [(h0, .inr (5, [.ref q_5, .ref q_16, .null, .null, .int 0, .int 0])), (q_5, .inr (2, [.ref v_9.1, .ref v_9.2.1, .ref v_9.2.2.1, .ref v_9.2.2.2, .int (nI 0)])), (v_9.1, .inl (G.2.1, 40, .inl (fun _ => 0))), (v_9.2.1, .inl (G.2.1, 40, .inl (fun _ => 0))), (v_9.2.2.1, .inl (G.2.1, 40, .inl (fun _ => 0))), (v_9.2.2.2, .inl (G.2.2.1, 40, .inr (.inl (fun _ => 0)))), (q_16, .inr (4, [.ref v_20.1, .ref v_20.2.1, .ref v_20.2.2.1, .ref v_20.2.2.2.1, .ref v_20.2.2.2.2.1, .ref v_20.2.2.2.2.2.1, .ref v_20.2.2.2.2.2.2.1, .ref v_20.2.2.2.2.2.2.2.2.1, .int (nI 0)])), (v_20.1, .inl (G.2.1, 200, .inl (fun _ => 0))), (v_20.2.1, .inl (G.2.1, 200, .inl (fun _ => 0))), (v_20.2.2.1, .inl (G.2.1, 200, .inl (fun _ => 0))), (v_20.2.2.2.1, .inl (G.2.1, 200, .inl (fun _ => 0))), (v_20.2.2.2.2.1, .inl (G.2.2.2.1, 200, .inl (fun _ => 0))), (v_20.2.2.2.2.2.1, .inl (G.2.2.1, 201, .inr (.inl (fun _ => 0)))), (v_20.2.2.2.2.2.2.1, .inr (3, [.ref v_20.2.2.2.2.2.2.2.1, .int (nI 0)])), (v_20.2.2.2.2.2.2.2.1, .inl (G.2.1, 200, .inl (fun _ => 0))), (v_20.2.2.2.2.2.2.2.2.1, .inr (3, [.ref v_20.2.2.2.2.2.2.2.2.2, .int (nI 0)])), (v_20.2.2.2.2.2.2.2.2.2, .inl (G.2.1, 200, .inl (fun _ => 0))), (q_27, .inr (0, [.ref v_31.1, .ref v_31.2, .int (nI 0)])), (v_31.1, .inl (G.2.2.1, 20, .inr (.inl (fun _ => 0)))), (v_31.2, .inl (G.2.2.1, 20, .inr (.inl (fun _ => 0))))] := hD
  refine W.widen (k := 19) (n := 1822) (Nat.le_of_ble_eq_true rfl) (Nat.le_of_ble_eq_true rfl) ?_
  refine va_putF (D := G.1) (ci := 5) (v := .ref q_27) (ty := .object "GradeRows$Classes") (C := "GradeRows") (T := TX5) (N := 6) hx hb htb inX5 tyX5 tyX5_ok nmX5 hown hK hP hD hS 0 rfl rfl 2 (by decide) (htb _ qw_123) (fun _ h9 => h9) rfl hin rfl (by decide +kernel) rfl rfl (Nat.le_of_ble_eq_true rfl) dX5_init_34 (fun H locs hP hD hS => ?_)
  have hP : va_P G.1 vwCl [(h0, .inr (5, [.ref q_5, .ref q_16, .ref q_27, .null, .int 0, .int 0])), (q_5, .inr (2, [.ref v_9.1, .ref v_9.2.1, .ref v_9.2.2.1, .ref v_9.2.2.2, .int (nI 0)])), (v_9.1, .inl (G.2.1, 40, .inl (fun _ => 0))), (v_9.2.1, .inl (G.2.1, 40, .inl (fun _ => 0))), (v_9.2.2.1, .inl (G.2.1, 40, .inl (fun _ => 0))), (v_9.2.2.2, .inl (G.2.2.1, 40, .inr (.inl (fun _ => 0)))), (q_16, .inr (4, [.ref v_20.1, .ref v_20.2.1, .ref v_20.2.2.1, .ref v_20.2.2.2.1, .ref v_20.2.2.2.2.1, .ref v_20.2.2.2.2.2.1, .ref v_20.2.2.2.2.2.2.1, .ref v_20.2.2.2.2.2.2.2.2.1, .int (nI 0)])), (v_20.1, .inl (G.2.1, 200, .inl (fun _ => 0))), (v_20.2.1, .inl (G.2.1, 200, .inl (fun _ => 0))), (v_20.2.2.1, .inl (G.2.1, 200, .inl (fun _ => 0))), (v_20.2.2.2.1, .inl (G.2.1, 200, .inl (fun _ => 0))), (v_20.2.2.2.2.1, .inl (G.2.2.2.1, 200, .inl (fun _ => 0))), (v_20.2.2.2.2.2.1, .inl (G.2.2.1, 201, .inr (.inl (fun _ => 0)))), (v_20.2.2.2.2.2.2.1, .inr (3, [.ref v_20.2.2.2.2.2.2.2.1, .int (nI 0)])), (v_20.2.2.2.2.2.2.2.1, .inl (G.2.1, 200, .inl (fun _ => 0))), (v_20.2.2.2.2.2.2.2.2.1, .inr (3, [.ref v_20.2.2.2.2.2.2.2.2.2, .int (nI 0)])), (v_20.2.2.2.2.2.2.2.2.2, .inl (G.2.1, 200, .inl (fun _ => 0))), (q_27, .inr (0, [.ref v_31.1, .ref v_31.2, .int (nI 0)])), (v_31.1, .inl (G.2.2.1, 20, .inr (.inl (fun _ => 0)))), (v_31.2, .inl (G.2.2.1, 20, .inr (.inl (fun _ => 0))))] H := hP
  have hD : va_D A [(h0, .inr (5, [.ref q_5, .ref q_16, .ref q_27, .null, .int 0, .int 0])), (q_5, .inr (2, [.ref v_9.1, .ref v_9.2.1, .ref v_9.2.2.1, .ref v_9.2.2.2, .int (nI 0)])), (v_9.1, .inl (G.2.1, 40, .inl (fun _ => 0))), (v_9.2.1, .inl (G.2.1, 40, .inl (fun _ => 0))), (v_9.2.2.1, .inl (G.2.1, 40, .inl (fun _ => 0))), (v_9.2.2.2, .inl (G.2.2.1, 40, .inr (.inl (fun _ => 0)))), (q_16, .inr (4, [.ref v_20.1, .ref v_20.2.1, .ref v_20.2.2.1, .ref v_20.2.2.2.1, .ref v_20.2.2.2.2.1, .ref v_20.2.2.2.2.2.1, .ref v_20.2.2.2.2.2.2.1, .ref v_20.2.2.2.2.2.2.2.2.1, .int (nI 0)])), (v_20.1, .inl (G.2.1, 200, .inl (fun _ => 0))), (v_20.2.1, .inl (G.2.1, 200, .inl (fun _ => 0))), (v_20.2.2.1, .inl (G.2.1, 200, .inl (fun _ => 0))), (v_20.2.2.2.1, .inl (G.2.1, 200, .inl (fun _ => 0))), (v_20.2.2.2.2.1, .inl (G.2.2.2.1, 200, .inl (fun _ => 0))), (v_20.2.2.2.2.2.1, .inl (G.2.2.1, 201, .inr (.inl (fun _ => 0)))), (v_20.2.2.2.2.2.2.1, .inr (3, [.ref v_20.2.2.2.2.2.2.2.1, .int (nI 0)])), (v_20.2.2.2.2.2.2.2.1, .inl (G.2.1, 200, .inl (fun _ => 0))), (v_20.2.2.2.2.2.2.2.2.1, .inr (3, [.ref v_20.2.2.2.2.2.2.2.2.2, .int (nI 0)])), (v_20.2.2.2.2.2.2.2.2.2, .inl (G.2.1, 200, .inl (fun _ => 0))), (q_27, .inr (0, [.ref v_31.1, .ref v_31.2, .int (nI 0)])), (v_31.1, .inl (G.2.2.1, 20, .inr (.inl (fun _ => 0)))), (v_31.2, .inl (G.2.2.1, 20, .inr (.inl (fun _ => 0))))] := hD
  refine lv_aload_n hx hb dX5_init_37 rfl (lv_at hl 0 rfl) ?_
  refine lv_bipush (v := nI 10) hx hb dX5_init_38 (by decide) ?_
  refine va_newq (C := "GradeRows$Row") hx hb hown (htb _ qw_119) hN.2 hK hP hD hS hA (by decide) (by decide) (by decide) (Nat.le_of_ble_eq_true rfl) (Nat.le_of_ble_eq_true rfl) dX5_init_40 (fun q_40 cA_40 H hK2 hP hD hS => ?_)
  have e_40 := qk_one hK2 (i := 4) (j := 3) rfl rfl
  subst e_40
  have hP : va_P G.1 vwCl [(h0, .inr (5, [.ref q_5, .ref q_16, .ref q_27, .null, .int 0, .int 0])), (q_5, .inr (2, [.ref v_9.1, .ref v_9.2.1, .ref v_9.2.2.1, .ref v_9.2.2.2, .int (nI 0)])), (v_9.1, .inl (G.2.1, 40, .inl (fun _ => 0))), (v_9.2.1, .inl (G.2.1, 40, .inl (fun _ => 0))), (v_9.2.2.1, .inl (G.2.1, 40, .inl (fun _ => 0))), (v_9.2.2.2, .inl (G.2.2.1, 40, .inr (.inl (fun _ => 0)))), (q_16, .inr (4, [.ref v_20.1, .ref v_20.2.1, .ref v_20.2.2.1, .ref v_20.2.2.2.1, .ref v_20.2.2.2.2.1, .ref v_20.2.2.2.2.2.1, .ref v_20.2.2.2.2.2.2.1, .ref v_20.2.2.2.2.2.2.2.2.1, .int (nI 0)])), (v_20.1, .inl (G.2.1, 200, .inl (fun _ => 0))), (v_20.2.1, .inl (G.2.1, 200, .inl (fun _ => 0))), (v_20.2.2.1, .inl (G.2.1, 200, .inl (fun _ => 0))), (v_20.2.2.2.1, .inl (G.2.1, 200, .inl (fun _ => 0))), (v_20.2.2.2.2.1, .inl (G.2.2.2.1, 200, .inl (fun _ => 0))), (v_20.2.2.2.2.2.1, .inl (G.2.2.1, 201, .inr (.inl (fun _ => 0)))), (v_20.2.2.2.2.2.2.1, .inr (3, [.ref v_20.2.2.2.2.2.2.2.1, .int (nI 0)])), (v_20.2.2.2.2.2.2.2.1, .inl (G.2.1, 200, .inl (fun _ => 0))), (v_20.2.2.2.2.2.2.2.2.1, .inr (3, [.ref v_20.2.2.2.2.2.2.2.2.2, .int (nI 0)])), (v_20.2.2.2.2.2.2.2.2.2, .inl (G.2.1, 200, .inl (fun _ => 0))), (q_27, .inr (0, [.ref v_31.1, .ref v_31.2, .int (nI 0)])), (v_31.1, .inl (G.2.2.1, 20, .inr (.inl (fun _ => 0)))), (v_31.2, .inl (G.2.2.1, 20, .inr (.inl (fun _ => 0)))), (q_40, .inl (G.2.2.2.2, 10, .inr (.inr (.inr (.inr (fun _ => none))))))] H := hP
  have hD : va_D A [(h0, .inr (5, [.ref q_5, .ref q_16, .ref q_27, .null, .int 0, .int 0])), (q_5, .inr (2, [.ref v_9.1, .ref v_9.2.1, .ref v_9.2.2.1, .ref v_9.2.2.2, .int (nI 0)])), (v_9.1, .inl (G.2.1, 40, .inl (fun _ => 0))), (v_9.2.1, .inl (G.2.1, 40, .inl (fun _ => 0))), (v_9.2.2.1, .inl (G.2.1, 40, .inl (fun _ => 0))), (v_9.2.2.2, .inl (G.2.2.1, 40, .inr (.inl (fun _ => 0)))), (q_16, .inr (4, [.ref v_20.1, .ref v_20.2.1, .ref v_20.2.2.1, .ref v_20.2.2.2.1, .ref v_20.2.2.2.2.1, .ref v_20.2.2.2.2.2.1, .ref v_20.2.2.2.2.2.2.1, .ref v_20.2.2.2.2.2.2.2.2.1, .int (nI 0)])), (v_20.1, .inl (G.2.1, 200, .inl (fun _ => 0))), (v_20.2.1, .inl (G.2.1, 200, .inl (fun _ => 0))), (v_20.2.2.1, .inl (G.2.1, 200, .inl (fun _ => 0))), (v_20.2.2.2.1, .inl (G.2.1, 200, .inl (fun _ => 0))), (v_20.2.2.2.2.1, .inl (G.2.2.2.1, 200, .inl (fun _ => 0))), (v_20.2.2.2.2.2.1, .inl (G.2.2.1, 201, .inr (.inl (fun _ => 0)))), (v_20.2.2.2.2.2.2.1, .inr (3, [.ref v_20.2.2.2.2.2.2.2.1, .int (nI 0)])), (v_20.2.2.2.2.2.2.2.1, .inl (G.2.1, 200, .inl (fun _ => 0))), (v_20.2.2.2.2.2.2.2.2.1, .inr (3, [.ref v_20.2.2.2.2.2.2.2.2.2, .int (nI 0)])), (v_20.2.2.2.2.2.2.2.2.2, .inl (G.2.1, 200, .inl (fun _ => 0))), (q_27, .inr (0, [.ref v_31.1, .ref v_31.2, .int (nI 0)])), (v_31.1, .inl (G.2.2.1, 20, .inr (.inl (fun _ => 0)))), (v_31.2, .inl (G.2.2.1, 20, .inr (.inl (fun _ => 0)))), (q_40, .inl (G.2.2.2.2, 10, .inr (.inr (.inr (.inr (fun _ => none))))))] := hD
  refine W.widen (k := 20) (n := 1832) (Nat.le_of_ble_eq_true rfl) (Nat.le_of_ble_eq_true rfl) ?_
  refine va_putF (D := G.1) (ci := 5) (v := .ref q_40) (ty := .array (.object "GradeRows$Row")) (C := "GradeRows") (T := TX5) (N := 6) hx hb htb inX5 tyX5 tyX5_ok nmX5 hown hK hP hD hS 0 rfl rfl 3 (by decide) (htb _ qw_124) (fun _ h9 => h9) rfl hin rfl (by decide +kernel) rfl rfl (Nat.le_of_ble_eq_true rfl) dX5_init_43 (fun H locs hP hD hS => ?_)
  have hP : va_P G.1 vwCl [(h0, .inr (5, [.ref q_5, .ref q_16, .ref q_27, .ref q_40, .int 0, .int 0])), (q_5, .inr (2, [.ref v_9.1, .ref v_9.2.1, .ref v_9.2.2.1, .ref v_9.2.2.2, .int (nI 0)])), (v_9.1, .inl (G.2.1, 40, .inl (fun _ => 0))), (v_9.2.1, .inl (G.2.1, 40, .inl (fun _ => 0))), (v_9.2.2.1, .inl (G.2.1, 40, .inl (fun _ => 0))), (v_9.2.2.2, .inl (G.2.2.1, 40, .inr (.inl (fun _ => 0)))), (q_16, .inr (4, [.ref v_20.1, .ref v_20.2.1, .ref v_20.2.2.1, .ref v_20.2.2.2.1, .ref v_20.2.2.2.2.1, .ref v_20.2.2.2.2.2.1, .ref v_20.2.2.2.2.2.2.1, .ref v_20.2.2.2.2.2.2.2.2.1, .int (nI 0)])), (v_20.1, .inl (G.2.1, 200, .inl (fun _ => 0))), (v_20.2.1, .inl (G.2.1, 200, .inl (fun _ => 0))), (v_20.2.2.1, .inl (G.2.1, 200, .inl (fun _ => 0))), (v_20.2.2.2.1, .inl (G.2.1, 200, .inl (fun _ => 0))), (v_20.2.2.2.2.1, .inl (G.2.2.2.1, 200, .inl (fun _ => 0))), (v_20.2.2.2.2.2.1, .inl (G.2.2.1, 201, .inr (.inl (fun _ => 0)))), (v_20.2.2.2.2.2.2.1, .inr (3, [.ref v_20.2.2.2.2.2.2.2.1, .int (nI 0)])), (v_20.2.2.2.2.2.2.2.1, .inl (G.2.1, 200, .inl (fun _ => 0))), (v_20.2.2.2.2.2.2.2.2.1, .inr (3, [.ref v_20.2.2.2.2.2.2.2.2.2, .int (nI 0)])), (v_20.2.2.2.2.2.2.2.2.2, .inl (G.2.1, 200, .inl (fun _ => 0))), (q_27, .inr (0, [.ref v_31.1, .ref v_31.2, .int (nI 0)])), (v_31.1, .inl (G.2.2.1, 20, .inr (.inl (fun _ => 0)))), (v_31.2, .inl (G.2.2.1, 20, .inr (.inl (fun _ => 0)))), (q_40, .inl (G.2.2.2.2, 10, .inr (.inr (.inr (.inr (fun _ => none))))))] H := hP
  have hD : va_D A [(h0, .inr (5, [.ref q_5, .ref q_16, .ref q_27, .ref q_40, .int 0, .int 0])), (q_5, .inr (2, [.ref v_9.1, .ref v_9.2.1, .ref v_9.2.2.1, .ref v_9.2.2.2, .int (nI 0)])), (v_9.1, .inl (G.2.1, 40, .inl (fun _ => 0))), (v_9.2.1, .inl (G.2.1, 40, .inl (fun _ => 0))), (v_9.2.2.1, .inl (G.2.1, 40, .inl (fun _ => 0))), (v_9.2.2.2, .inl (G.2.2.1, 40, .inr (.inl (fun _ => 0)))), (q_16, .inr (4, [.ref v_20.1, .ref v_20.2.1, .ref v_20.2.2.1, .ref v_20.2.2.2.1, .ref v_20.2.2.2.2.1, .ref v_20.2.2.2.2.2.1, .ref v_20.2.2.2.2.2.2.1, .ref v_20.2.2.2.2.2.2.2.2.1, .int (nI 0)])), (v_20.1, .inl (G.2.1, 200, .inl (fun _ => 0))), (v_20.2.1, .inl (G.2.1, 200, .inl (fun _ => 0))), (v_20.2.2.1, .inl (G.2.1, 200, .inl (fun _ => 0))), (v_20.2.2.2.1, .inl (G.2.1, 200, .inl (fun _ => 0))), (v_20.2.2.2.2.1, .inl (G.2.2.2.1, 200, .inl (fun _ => 0))), (v_20.2.2.2.2.2.1, .inl (G.2.2.1, 201, .inr (.inl (fun _ => 0)))), (v_20.2.2.2.2.2.2.1, .inr (3, [.ref v_20.2.2.2.2.2.2.2.1, .int (nI 0)])), (v_20.2.2.2.2.2.2.2.1, .inl (G.2.1, 200, .inl (fun _ => 0))), (v_20.2.2.2.2.2.2.2.2.1, .inr (3, [.ref v_20.2.2.2.2.2.2.2.2.2, .int (nI 0)])), (v_20.2.2.2.2.2.2.2.2.2, .inl (G.2.1, 200, .inl (fun _ => 0))), (q_27, .inr (0, [.ref v_31.1, .ref v_31.2, .int (nI 0)])), (v_31.1, .inl (G.2.2.1, 20, .inr (.inl (fun _ => 0)))), (v_31.2, .inl (G.2.2.1, 20, .inr (.inl (fun _ => 0)))), (q_40, .inl (G.2.2.2.2, 10, .inr (.inr (.inr (.inr (fun _ => none))))))] := hD
  refine lv_aload_n hx hb dX5_init_46 rfl (lv_at hl 0 rfl) ?_
  refine lv_iconst (v := nI 0) hx hb dX5_init_47 (by decide) ?_
  refine va_put (D := G.1) (ci := 5) (v := .int (nI 0)) (ty := .int) (C := "GradeRows") (T := TX5) (N := 6) hx hb htb inX5 tyX5 tyX5_ok nmX5 hown hK hP hD hS 0 rfl rfl 4 (by decide) (htb _ qw_125) (fun _ h9 => h9) rfl (by decide +kernel) rfl rfl (Nat.le_of_ble_eq_true rfl) dX5_init_48 (fun H locs hP hD hS => ?_)
  have hP : va_P G.1 vwCl [(h0, .inr (5, [.ref q_5, .ref q_16, .ref q_27, .ref q_40, .int (nI 0), .int 0])), (q_5, .inr (2, [.ref v_9.1, .ref v_9.2.1, .ref v_9.2.2.1, .ref v_9.2.2.2, .int (nI 0)])), (v_9.1, .inl (G.2.1, 40, .inl (fun _ => 0))), (v_9.2.1, .inl (G.2.1, 40, .inl (fun _ => 0))), (v_9.2.2.1, .inl (G.2.1, 40, .inl (fun _ => 0))), (v_9.2.2.2, .inl (G.2.2.1, 40, .inr (.inl (fun _ => 0)))), (q_16, .inr (4, [.ref v_20.1, .ref v_20.2.1, .ref v_20.2.2.1, .ref v_20.2.2.2.1, .ref v_20.2.2.2.2.1, .ref v_20.2.2.2.2.2.1, .ref v_20.2.2.2.2.2.2.1, .ref v_20.2.2.2.2.2.2.2.2.1, .int (nI 0)])), (v_20.1, .inl (G.2.1, 200, .inl (fun _ => 0))), (v_20.2.1, .inl (G.2.1, 200, .inl (fun _ => 0))), (v_20.2.2.1, .inl (G.2.1, 200, .inl (fun _ => 0))), (v_20.2.2.2.1, .inl (G.2.1, 200, .inl (fun _ => 0))), (v_20.2.2.2.2.1, .inl (G.2.2.2.1, 200, .inl (fun _ => 0))), (v_20.2.2.2.2.2.1, .inl (G.2.2.1, 201, .inr (.inl (fun _ => 0)))), (v_20.2.2.2.2.2.2.1, .inr (3, [.ref v_20.2.2.2.2.2.2.2.1, .int (nI 0)])), (v_20.2.2.2.2.2.2.2.1, .inl (G.2.1, 200, .inl (fun _ => 0))), (v_20.2.2.2.2.2.2.2.2.1, .inr (3, [.ref v_20.2.2.2.2.2.2.2.2.2, .int (nI 0)])), (v_20.2.2.2.2.2.2.2.2.2, .inl (G.2.1, 200, .inl (fun _ => 0))), (q_27, .inr (0, [.ref v_31.1, .ref v_31.2, .int (nI 0)])), (v_31.1, .inl (G.2.2.1, 20, .inr (.inl (fun _ => 0)))), (v_31.2, .inl (G.2.2.1, 20, .inr (.inl (fun _ => 0)))), (q_40, .inl (G.2.2.2.2, 10, .inr (.inr (.inr (.inr (fun _ => none))))))] H := hP
  have hD : va_D A [(h0, .inr (5, [.ref q_5, .ref q_16, .ref q_27, .ref q_40, .int (nI 0), .int 0])), (q_5, .inr (2, [.ref v_9.1, .ref v_9.2.1, .ref v_9.2.2.1, .ref v_9.2.2.2, .int (nI 0)])), (v_9.1, .inl (G.2.1, 40, .inl (fun _ => 0))), (v_9.2.1, .inl (G.2.1, 40, .inl (fun _ => 0))), (v_9.2.2.1, .inl (G.2.1, 40, .inl (fun _ => 0))), (v_9.2.2.2, .inl (G.2.2.1, 40, .inr (.inl (fun _ => 0)))), (q_16, .inr (4, [.ref v_20.1, .ref v_20.2.1, .ref v_20.2.2.1, .ref v_20.2.2.2.1, .ref v_20.2.2.2.2.1, .ref v_20.2.2.2.2.2.1, .ref v_20.2.2.2.2.2.2.1, .ref v_20.2.2.2.2.2.2.2.2.1, .int (nI 0)])), (v_20.1, .inl (G.2.1, 200, .inl (fun _ => 0))), (v_20.2.1, .inl (G.2.1, 200, .inl (fun _ => 0))), (v_20.2.2.1, .inl (G.2.1, 200, .inl (fun _ => 0))), (v_20.2.2.2.1, .inl (G.2.1, 200, .inl (fun _ => 0))), (v_20.2.2.2.2.1, .inl (G.2.2.2.1, 200, .inl (fun _ => 0))), (v_20.2.2.2.2.2.1, .inl (G.2.2.1, 201, .inr (.inl (fun _ => 0)))), (v_20.2.2.2.2.2.2.1, .inr (3, [.ref v_20.2.2.2.2.2.2.2.1, .int (nI 0)])), (v_20.2.2.2.2.2.2.2.1, .inl (G.2.1, 200, .inl (fun _ => 0))), (v_20.2.2.2.2.2.2.2.2.1, .inr (3, [.ref v_20.2.2.2.2.2.2.2.2.2, .int (nI 0)])), (v_20.2.2.2.2.2.2.2.2.2, .inl (G.2.1, 200, .inl (fun _ => 0))), (q_27, .inr (0, [.ref v_31.1, .ref v_31.2, .int (nI 0)])), (v_31.1, .inl (G.2.2.1, 20, .inr (.inl (fun _ => 0)))), (v_31.2, .inl (G.2.2.1, 20, .inr (.inl (fun _ => 0)))), (q_40, .inl (G.2.2.2.2, 10, .inr (.inr (.inr (.inr (fun _ => none))))))] := hD
  refine lv_aload_n hx hb dX5_init_51 rfl (lv_at hl 0 rfl) ?_
  refine lv_iconst (v := nI 0) hx hb dX5_init_52 (by decide) ?_
  refine va_put (D := G.1) (ci := 5) (v := .int (nI 0)) (ty := .int) (C := "GradeRows") (T := TX5) (N := 6) hx hb htb inX5 tyX5 tyX5_ok nmX5 hown hK hP hD hS 0 rfl rfl 5 (by decide) (htb _ qw_126) (fun _ h9 => h9) rfl (by decide +kernel) rfl rfl (Nat.le_of_ble_eq_true rfl) dX5_init_53 (fun H locs hP hD hS => ?_)
  have hP : va_P G.1 vwCl [(h0, .inr (5, [.ref q_5, .ref q_16, .ref q_27, .ref q_40, .int (nI 0), .int (nI 0)])), (q_5, .inr (2, [.ref v_9.1, .ref v_9.2.1, .ref v_9.2.2.1, .ref v_9.2.2.2, .int (nI 0)])), (v_9.1, .inl (G.2.1, 40, .inl (fun _ => 0))), (v_9.2.1, .inl (G.2.1, 40, .inl (fun _ => 0))), (v_9.2.2.1, .inl (G.2.1, 40, .inl (fun _ => 0))), (v_9.2.2.2, .inl (G.2.2.1, 40, .inr (.inl (fun _ => 0)))), (q_16, .inr (4, [.ref v_20.1, .ref v_20.2.1, .ref v_20.2.2.1, .ref v_20.2.2.2.1, .ref v_20.2.2.2.2.1, .ref v_20.2.2.2.2.2.1, .ref v_20.2.2.2.2.2.2.1, .ref v_20.2.2.2.2.2.2.2.2.1, .int (nI 0)])), (v_20.1, .inl (G.2.1, 200, .inl (fun _ => 0))), (v_20.2.1, .inl (G.2.1, 200, .inl (fun _ => 0))), (v_20.2.2.1, .inl (G.2.1, 200, .inl (fun _ => 0))), (v_20.2.2.2.1, .inl (G.2.1, 200, .inl (fun _ => 0))), (v_20.2.2.2.2.1, .inl (G.2.2.2.1, 200, .inl (fun _ => 0))), (v_20.2.2.2.2.2.1, .inl (G.2.2.1, 201, .inr (.inl (fun _ => 0)))), (v_20.2.2.2.2.2.2.1, .inr (3, [.ref v_20.2.2.2.2.2.2.2.1, .int (nI 0)])), (v_20.2.2.2.2.2.2.2.1, .inl (G.2.1, 200, .inl (fun _ => 0))), (v_20.2.2.2.2.2.2.2.2.1, .inr (3, [.ref v_20.2.2.2.2.2.2.2.2.2, .int (nI 0)])), (v_20.2.2.2.2.2.2.2.2.2, .inl (G.2.1, 200, .inl (fun _ => 0))), (q_27, .inr (0, [.ref v_31.1, .ref v_31.2, .int (nI 0)])), (v_31.1, .inl (G.2.2.1, 20, .inr (.inl (fun _ => 0)))), (v_31.2, .inl (G.2.2.1, 20, .inr (.inl (fun _ => 0)))), (q_40, .inl (G.2.2.2.2, 10, .inr (.inr (.inr (.inr (fun _ => none))))))] H := hP
  have hD : va_D A [(h0, .inr (5, [.ref q_5, .ref q_16, .ref q_27, .ref q_40, .int (nI 0), .int (nI 0)])), (q_5, .inr (2, [.ref v_9.1, .ref v_9.2.1, .ref v_9.2.2.1, .ref v_9.2.2.2, .int (nI 0)])), (v_9.1, .inl (G.2.1, 40, .inl (fun _ => 0))), (v_9.2.1, .inl (G.2.1, 40, .inl (fun _ => 0))), (v_9.2.2.1, .inl (G.2.1, 40, .inl (fun _ => 0))), (v_9.2.2.2, .inl (G.2.2.1, 40, .inr (.inl (fun _ => 0)))), (q_16, .inr (4, [.ref v_20.1, .ref v_20.2.1, .ref v_20.2.2.1, .ref v_20.2.2.2.1, .ref v_20.2.2.2.2.1, .ref v_20.2.2.2.2.2.1, .ref v_20.2.2.2.2.2.2.1, .ref v_20.2.2.2.2.2.2.2.2.1, .int (nI 0)])), (v_20.1, .inl (G.2.1, 200, .inl (fun _ => 0))), (v_20.2.1, .inl (G.2.1, 200, .inl (fun _ => 0))), (v_20.2.2.1, .inl (G.2.1, 200, .inl (fun _ => 0))), (v_20.2.2.2.1, .inl (G.2.1, 200, .inl (fun _ => 0))), (v_20.2.2.2.2.1, .inl (G.2.2.2.1, 200, .inl (fun _ => 0))), (v_20.2.2.2.2.2.1, .inl (G.2.2.1, 201, .inr (.inl (fun _ => 0)))), (v_20.2.2.2.2.2.2.1, .inr (3, [.ref v_20.2.2.2.2.2.2.2.1, .int (nI 0)])), (v_20.2.2.2.2.2.2.2.1, .inl (G.2.1, 200, .inl (fun _ => 0))), (v_20.2.2.2.2.2.2.2.2.1, .inr (3, [.ref v_20.2.2.2.2.2.2.2.2.2, .int (nI 0)])), (v_20.2.2.2.2.2.2.2.2.2, .inl (G.2.1, 200, .inl (fun _ => 0))), (q_27, .inr (0, [.ref v_31.1, .ref v_31.2, .int (nI 0)])), (v_31.1, .inl (G.2.2.1, 20, .inr (.inl (fun _ => 0)))), (v_31.2, .inl (G.2.2.1, 20, .inr (.inl (fun _ => 0)))), (q_40, .inl (G.2.2.2.2, 10, .inr (.inr (.inr (.inr (fun _ => none))))))] := hD
  have hP9 := hP.sub (ws' := [(h0, .inr (5, [.ref q_5, .ref q_16, .ref q_27, .ref q_40, .int (nI 0), .int (nI 0)])), (q_5, .inr (2, [.ref v_9.1, .ref v_9.2.1, .ref v_9.2.2.1, .ref v_9.2.2.2, .int (nI 0)])), (v_9.1, .inl (G.2.1, 40, .inl (fun _ => 0))), (v_9.2.1, .inl (G.2.1, 40, .inl (fun _ => 0))), (v_9.2.2.1, .inl (G.2.1, 40, .inl (fun _ => 0))), (v_9.2.2.2, .inl (G.2.2.1, 40, .inr (.inl (fun _ => 0)))), (q_16, .inr (4, [.ref v_20.1, .ref v_20.2.1, .ref v_20.2.2.1, .ref v_20.2.2.2.1, .ref v_20.2.2.2.2.1, .ref v_20.2.2.2.2.2.1, .ref v_20.2.2.2.2.2.2.1, .ref v_20.2.2.2.2.2.2.2.2.1, .int (nI 0)])), (v_20.1, .inl (G.2.1, 200, .inl (fun _ => 0))), (v_20.2.1, .inl (G.2.1, 200, .inl (fun _ => 0))), (v_20.2.2.1, .inl (G.2.1, 200, .inl (fun _ => 0))), (v_20.2.2.2.1, .inl (G.2.1, 200, .inl (fun _ => 0))), (v_20.2.2.2.2.1, .inl (G.2.2.2.1, 200, .inl (fun _ => 0))), (v_20.2.2.2.2.2.1, .inl (G.2.2.1, 201, .inr (.inl (fun _ => 0)))), (v_20.2.2.2.2.2.2.1, .inr (3, [.ref v_20.2.2.2.2.2.2.2.1, .int (nI 0)])), (v_20.2.2.2.2.2.2.2.1, .inl (G.2.1, 200, .inl (fun _ => 0))), (v_20.2.2.2.2.2.2.2.2.1, .inr (3, [.ref v_20.2.2.2.2.2.2.2.2.2, .int (nI 0)])), (v_20.2.2.2.2.2.2.2.2.2, .inl (G.2.1, 200, .inl (fun _ => 0))), (q_27, .inr (0, [.ref v_31.1, .ref v_31.2, .int (nI 0)])), (v_31.1, .inl (G.2.2.1, 20, .inr (.inl (fun _ => 0)))), (v_31.2, .inl (G.2.2.1, 20, .inr (.inl (fun _ => 0)))), (q_40, .inl (G.2.2.2.2, 10, .inr (.inr (.inr (.inr (fun _ => none))))))]) [0, 1, 2, 3, 4, 5, 6, 7, 8, 9, 10, 11, 12, 13, 14, 15, 16, 17, 18, 19, 20] rfl
  have hD9 := hD.sub (ws' := [(h0, .inr (5, [.ref q_5, .ref q_16, .ref q_27, .ref q_40, .int (nI 0), .int (nI 0)])), (q_5, .inr (2, [.ref v_9.1, .ref v_9.2.1, .ref v_9.2.2.1, .ref v_9.2.2.2, .int (nI 0)])), (v_9.1, .inl (G.2.1, 40, .inl (fun _ => 0))), (v_9.2.1, .inl (G.2.1, 40, .inl (fun _ => 0))), (v_9.2.2.1, .inl (G.2.1, 40, .inl (fun _ => 0))), (v_9.2.2.2, .inl (G.2.2.1, 40, .inr (.inl (fun _ => 0)))), (q_16, .inr (4, [.ref v_20.1, .ref v_20.2.1, .ref v_20.2.2.1, .ref v_20.2.2.2.1, .ref v_20.2.2.2.2.1, .ref v_20.2.2.2.2.2.1, .ref v_20.2.2.2.2.2.2.1, .ref v_20.2.2.2.2.2.2.2.2.1, .int (nI 0)])), (v_20.1, .inl (G.2.1, 200, .inl (fun _ => 0))), (v_20.2.1, .inl (G.2.1, 200, .inl (fun _ => 0))), (v_20.2.2.1, .inl (G.2.1, 200, .inl (fun _ => 0))), (v_20.2.2.2.1, .inl (G.2.1, 200, .inl (fun _ => 0))), (v_20.2.2.2.2.1, .inl (G.2.2.2.1, 200, .inl (fun _ => 0))), (v_20.2.2.2.2.2.1, .inl (G.2.2.1, 201, .inr (.inl (fun _ => 0)))), (v_20.2.2.2.2.2.2.1, .inr (3, [.ref v_20.2.2.2.2.2.2.2.1, .int (nI 0)])), (v_20.2.2.2.2.2.2.2.1, .inl (G.2.1, 200, .inl (fun _ => 0))), (v_20.2.2.2.2.2.2.2.2.1, .inr (3, [.ref v_20.2.2.2.2.2.2.2.2.2, .int (nI 0)])), (v_20.2.2.2.2.2.2.2.2.2, .inl (G.2.1, 200, .inl (fun _ => 0))), (q_27, .inr (0, [.ref v_31.1, .ref v_31.2, .int (nI 0)])), (v_31.1, .inl (G.2.2.1, 20, .inr (.inl (fun _ => 0)))), (v_31.2, .inl (G.2.2.1, 20, .inr (.inl (fun _ => 0)))), (q_40, .inl (G.2.2.2.2, 10, .inr (.inr (.inr (.inr (fun _ => none))))))]) [0, 1, 2, 3, 4, 5, 6, 7, 8, 9, 10, 11, 12, 13, 14, 15, 16, 17, 18, 19, 20] (by decide) rfl
  exact W.vret hx hb hr (fun t9 ht9 hW9 => ⟨⟨[(h0, .inr (5, [.ref q_5, .ref q_16, .ref q_27, .ref q_40, .int (nI 0), .int (nI 0)])), (q_5, .inr (2, [.ref v_9.1, .ref v_9.2.1, .ref v_9.2.2.1, .ref v_9.2.2.2, .int (nI 0)])), (v_9.1, .inl (G.2.1, 40, .inl (fun _ => 0))), (v_9.2.1, .inl (G.2.1, 40, .inl (fun _ => 0))), (v_9.2.2.1, .inl (G.2.1, 40, .inl (fun _ => 0))), (v_9.2.2.2, .inl (G.2.2.1, 40, .inr (.inl (fun _ => 0)))), (q_16, .inr (4, [.ref v_20.1, .ref v_20.2.1, .ref v_20.2.2.1, .ref v_20.2.2.2.1, .ref v_20.2.2.2.2.1, .ref v_20.2.2.2.2.2.1, .ref v_20.2.2.2.2.2.2.1, .ref v_20.2.2.2.2.2.2.2.2.1, .int (nI 0)])), (v_20.1, .inl (G.2.1, 200, .inl (fun _ => 0))), (v_20.2.1, .inl (G.2.1, 200, .inl (fun _ => 0))), (v_20.2.2.1, .inl (G.2.1, 200, .inl (fun _ => 0))), (v_20.2.2.2.1, .inl (G.2.1, 200, .inl (fun _ => 0))), (v_20.2.2.2.2.1, .inl (G.2.2.2.1, 200, .inl (fun _ => 0))), (v_20.2.2.2.2.2.1, .inl (G.2.2.1, 201, .inr (.inl (fun _ => 0)))), (v_20.2.2.2.2.2.2.1, .inr (3, [.ref v_20.2.2.2.2.2.2.2.1, .int (nI 0)])), (v_20.2.2.2.2.2.2.2.1, .inl (G.2.1, 200, .inl (fun _ => 0))), (v_20.2.2.2.2.2.2.2.2.1, .inr (3, [.ref v_20.2.2.2.2.2.2.2.2.2, .int (nI 0)])), (v_20.2.2.2.2.2.2.2.2.2, .inl (G.2.1, 200, .inl (fun _ => 0))), (q_27, .inr (0, [.ref v_31.1, .ref v_31.2, .int (nI 0)])), (v_31.1, .inl (G.2.2.1, 20, .inr (.inl (fun _ => 0)))), (v_31.2, .inl (G.2.2.1, 20, .inr (.inl (fun _ => 0)))), (q_40, .inl (G.2.2.2.2, 10, .inr (.inr (.inr (.inr (fun _ => none))))))], rfl, ⟨q_5, q_16, q_27, q_40, v_9.1, v_9.2.1, v_9.2.2.1, v_9.2.2.2, v_20.1, v_20.2.1, v_20.2.2.1, v_20.2.2.2.1, v_20.2.2.2.2.1, v_20.2.2.2.2.2.1, v_20.2.2.2.2.2.2.1, v_20.2.2.2.2.2.2.2.2.1, v_20.2.2.2.2.2.2.2.1, v_20.2.2.2.2.2.2.2.2.2, v_31.1, v_31.2, fun _ => 0, fun _ => 0, fun _ => 0, fun _ => 0, fun _ => 0, fun _ => 0, fun _ => 0, fun _ => 0, fun _ => 0, fun _ => 0, fun _ => 0, fun _ => 0, rfl, qX_R0, qX_S0⟩, by rw [ht9]; exact hP9, va_K.moved hW9.alike hK, hD9⟩, hS.F ht9⟩) hS.2.2 dX5_init_56

-- qc_copy
set_option maxHeartbeats 4000000 in
set_option maxRecDepth 100000 in
/-- Arrays.copyOf -/
theorem qc_A_copy (l : Launch) (G : qG) (q0 : Nat) (n : Nat) (f : Nat → Int32) (sz : Nat) (hn : n ≤ 200) : Met l yJ0_copyOf wsJ0_copyOf ({ frames := 1, cells := 1, slots := 200, locals := 30 } : Room) (va_Pc [.ref q0, .int (nI n)] (qk_prw G vwCl [(q0, .inl (G.2.1, 200, .inl f))] sz)) (va_Qr (fun (u : Nat → Int32) => ∀ j, j < n → u j = f j) (fun (u : Nat → Int32) (ra : Nat) => qk_B G vwCl (va_A [(q0, .inl (G.2.1, 200, .inl f))] sz) (fun (_ : Unit) => [(q0, .inl (G.2.1, 200, .inl f)), (ra, .inl (G.2.1, n, .inl u))]) ()) (va_A [(q0, .inl (G.2.1, 200, .inl f))] sz)) 1 200 (va_A [(q0, .inl (G.2.1, 200, .inl f))] sz) := by
  refine Met.ofW (cc := cJ0_copyOf) (maxL := 3) (ret := (some (.array .int))) (by decide) rfl ?_
  intro p e s m args below meth c s₁ B hml hv
  obtain ⟨rfl, hsz, hP, hK, hD0, hN⟩ := hv
  have hx := B.exec
  have hb := B.bytes
  have hr := B.returns
  have hlocks := B.notSynchronized
  have hts := atoms_spec (ws := wsJ0_copyOf) B.pre
  have htb := fun (w : Cond) (h : w ∈ qTb) => hts w (List.mem_cons_of_mem _ h)
  have hown : s.vm.findClass "java/util/Arrays" = some m.cls := findClass_of_methodNamed B.named
  subst hsz
  have hD := hD0.self (sz := s.heap.size)
  generalize hAe : va_A [(q0, .inl (G.2.1, 200, .inl f))] s.heap.size = A at hD ⊢
  have hA : ∀ q : Nat, s.heap.size ≤ q → A q := fun q h => by rw [← hAe]; exact Or.inr h
  have hS : va_S A s.heap s.heap [] := va_S.rf
  have hP : va_P G.1 vwCl [(q0, .inl (G.2.1, 200, .inl f))] s.heap := hP
  have hl := lv_entry ([.ref q0, .int (nI n)]) (n := 3) (Nat.le_of_ble_eq_true rfl)
  rw [lg_entry_eq]
  generalize (lg_sl ([.ref q0, .int (nI n)]) ++ List.replicate (3 - (lg_sl ([.ref q0, .int (nI n)])).length) Slot.unset).toArray = ls at hl ⊢
  have hl : lv_has ls 3 [(0, .ref q0), (1, .int (nI n))] := hl
  by_cases hq : n = 200
  · subst hq
    refine lv_iload_n hx hb dJ0_copyOf_0 rfl (lv_at hl 1 rfl) ?_
    refine lv_aload_n hx hb dJ0_copyOf_1 rfl (lv_at hl 0 rfl) ?_
    refine va_alen (v := nI 200) hx hb hK hP 0 0 rfl rfl rfl dJ0_copyOf_2 ?_
    refine lv_icmp_ne (tgt := 14) hx hb dJ0_copyOf_3 (by decide) (fun c_1 => ?_) (fun c_1 => ?_)
    · have c_1 : ¬ (200 = 200) := fun q9 => c_1 ((nI_eq (by omega) (by omega)).mpr q9)
      exfalso; omega
    · have c_1 : 200 = 200 := (nI_eq (by omega) (by omega)).mp c_1
      refine lv_aload_n hx hb dJ0_copyOf_6 rfl (lv_at hl 0 rfl) ?_
      refine va_clone (ad := "[I") hx hb (hml.trans hl.1.symm) hown (htb _ qw_365) (htb _ qw_366) (htb _ qw_367) (htb _ qw_368) (htb _ qw_369) (hN.1 _ qw_370) hK hP hD hS hA 0 0 rfl rfl (va_nm_int (hK.2 0 _ rfl).2) (va_fit (fun _ _ => rfl)) (Nat.le_of_ble_eq_true rfl) (Nat.le_of_ble_eq_true rfl) (Nat.le_of_ble_eq_true rfl) (Nat.le_of_ble_eq_true rfl) dJ0_copyOf_7 (fun q_7 H hK2 hP hD hS => ?_)
      have hP : va_P G.1 vwCl [(q0, .inl (G.2.1, 200, .inl f)), (q_7, .inl (G.2.1, 200, .inl f))] H := hP
      have hD : va_D A [(q0, .inl (G.2.1, 200, .inl f)), (q_7, .inl (G.2.1, 200, .inl f))] := hD
      refine W.widen (k := 1) (n := 200) (Nat.le_of_ble_eq_true rfl) (Nat.le_of_ble_eq_true rfl) ?_
      refine va_castA (nm := "[I") hx hb hown (htb _ qw_371) hP 1 rfl (va_nm_int (hK.2 0 _ rfl).2) dJ0_copyOf_10 ?_
      have hP9 := hP.sub (ws' := [(q0, .inl (G.2.1, 200, .inl f)), (q_7, .inl (G.2.1, 200, .inl f))]) [0, 1] rfl
      have hD9 := hD.sub (ws' := [(q0, .inl (G.2.1, 200, .inl f)), (q_7, .inl (G.2.1, 200, .inl f))]) [0, 1] (by decide) rfl
      exact W.aret (v := .ref q_7) hx hb hr (Or.inr ⟨_, rfl⟩) (Or.inr ⟨_, rfl⟩) (fun t9 ht9 hW9 => ⟨⟨f, _, rfl, fun _ _ => rfl, by rw [ht9]; exact hP9, va_K.moved hW9.alike hK, hD9⟩, hS.F ht9⟩) hS.2.2 dJ0_copyOf_13
  · skip
    refine lv_iload_n hx hb dJ0_copyOf_0 rfl (lv_at hl 1 rfl) ?_
    refine lv_aload_n hx hb dJ0_copyOf_1 rfl (lv_at hl 0 rfl) ?_
    refine va_alen (v := nI 200) hx hb hK hP 0 0 rfl rfl rfl dJ0_copyOf_2 ?_
    refine lv_icmp_ne (tgt := 14) hx hb dJ0_copyOf_3 (by decide) (fun c_2 => ?_) (fun c_2 => ?_)
    · have c_2 : ¬ (n = 200) := fun q9 => c_2 ((nI_eq (by omega) (by omega)).mpr q9)
      refine lv_iload_n hx hb dJ0_copyOf_14 rfl (lv_at hl 1 rfl) ?_
      refine va_newa (atype := .int) (ty := .int) (a0 := (n, .inl (fun _ => 0))) hx hb (htb _ qw_53) rfl hK hP hD hS hA (fun _ => rfl) (nI_pos (by omega)) (nI_clamp (by omega)) (by show n * 4 ≤ 536870912; omega) (Nat.le_of_ble_eq_true rfl) (by show 0 + n ≤ 200; omega) dJ0_copyOf_15 (fun q_15 cA_15 H hK2 hP hD hS => ?_)
      have e_15 := qk_one hK2 (i := 4) (j := 0) rfl rfl
      subst e_15
      have hP : va_P G.1 vwCl [(q0, .inl (G.2.1, 200, .inl f)), (q_15, .inl (G.2.1, n, .inl (fun _ => 0)))] H := hP
      have hD : va_D A [(q0, .inl (G.2.1, 200, .inl f)), (q_15, .inl (G.2.1, n, .inl (fun _ => 0)))] := hD
      refine W.widen (k := 1) (n := 200) (Nat.le_of_ble_eq_true rfl) (by omega) ?_
      refine lv_astore_n (lv' := [(2, .ref q_15), (0, .ref q0), (1, .int (nI n))]) hx hb dJ0_copyOf_17 rfl hl (by decide) rfl (fun ls hl => ?_)
      refine lv_aload_n hx hb dJ0_copyOf_18 rfl (lv_at hl 1 rfl) ?_
      refine lv_iconst (v := nI 0) hx hb dJ0_copyOf_19 (by decide) ?_
      refine lv_aload_n hx hb dJ0_copyOf_20 rfl (lv_at hl 0 rfl) ?_
      refine lv_iconst (v := nI 0) hx hb dJ0_copyOf_21 (by decide) ?_
      refine lv_aload_n hx hb dJ0_copyOf_22 rfl (lv_at hl 1 rfl) ?_
      refine va_alen (v := nI 200) hx hb hK hP 0 0 rfl rfl rfl dJ0_copyOf_23 ?_
      refine lv_iload_n hx hb dJ0_copyOf_24 rfl (lv_at hl 2 rfl) ?_
      refine va_mmin hx hb (hml.trans hl.1.symm) hown (htb _ qw_372) (htb _ qw_236) (htb _ qw_19) (htb _ qw_237) (Nat.le_of_ble_eq_true rfl) (Nat.le_of_ble_eq_true rfl) (Nat.le_of_ble_eq_true rfl) (Nat.le_of_ble_eq_true rfl) dJ0_copyOf_25 ?_
      refine qk_topi (t := nI n) (by rw [nI_min (by omega) (by omega), if_pos (by omega)]) ?_
      refine va_copyi (n := nI n) (dp := nI 0) (sp := nI 0) hx hb (hml.trans hl.1.symm) hown (htb _ qw_373) (htb _ qw_375) (htb _ qw_374) (htb _ qw_22) hK hP hD hS 0 1 0 0 rfl rfl rfl rfl rfl (nI_pos (by omega)) (nI_pos (by omega)) (nI_pos (by omega)) (by rw [nI_clamp (by omega), nI_clamp (by omega)]; omega) (by rw [nI_clamp (by omega), nI_clamp (by omega)]; omega) (fun _ _ => rfl) (Nat.le_of_ble_eq_true rfl) (Nat.le_of_ble_eq_true rfl) dJ0_copyOf_28 (fun H locs hP hD hS => ?_)
      have hP : va_P G.1 vwCl [(q0, .inl (G.2.1, 200, .inl f)), (q_15, .inl (G.2.1, n, .inl (va_cpy f (fun _ => 0) (nI 0).toNatClampNeg (nI 0).toNatClampNeg (nI n).toNatClampNeg)))] H := hP
      have hD : va_D A [(q0, .inl (G.2.1, 200, .inl f)), (q_15, .inl (G.2.1, n, .inl (va_cpy f (fun _ => 0) (nI 0).toNatClampNeg (nI 0).toNatClampNeg (nI n).toNatClampNeg)))] := hD
      refine lv_aload_n hx hb dJ0_copyOf_31 rfl (lv_at hl 0 rfl) ?_
      have hP9 := hP.sub (ws' := [(q0, .inl (G.2.1, 200, .inl f)), (q_15, .inl (G.2.1, n, .inl (va_cpy f (fun _ => 0) (nI 0).toNatClampNeg (nI 0).toNatClampNeg (nI n).toNatClampNeg)))]) [0, 1] rfl
      have hD9 := hD.sub (ws' := [(q0, .inl (G.2.1, 200, .inl f)), (q_15, .inl (G.2.1, n, .inl (va_cpy f (fun _ => 0) (nI 0).toNatClampNeg (nI 0).toNatClampNeg (nI n).toNatClampNeg)))]) [0, 1] (by decide) rfl
      exact W.aret (v := .ref q_15) hx hb hr (Or.inr ⟨_, rfl⟩) (Or.inr ⟨_, rfl⟩) (fun t9 ht9 hW9 => ⟨⟨(va_cpy f (fun _ => 0) (nI 0).toNatClampNeg (nI 0).toNatClampNeg (nI n).toNatClampNeg), _, rfl, fun j hj => qm_cpy (by omega) hj, by rw [ht9]; exact hP9, va_K.moved hW9.alike hK, hD9⟩, hS.F ht9⟩) hS.2.2 dJ0_copyOf_32
    · have c_2 : n = 200 := (nI_eq (by omega) (by omega)).mp c_2
      exfalso; omega

set_option maxHeartbeats 4000000 in
set_option maxRecDepth 100000 in
/-- Sorted.copy -/
theorem qc_S_copy (l : Launch) (G : qG) (h0 : Nat) (q0 : Nat) (n : Nat) (f : Nat → Int32) (sz : Nat) (hn : n ≤ 200) : Met l yX3_copy wsX3_copy ({ frames := 2, cells := 2, slots := 202, locals := 52 } : Room) (va_Pc [.ref h0] (qk_prw G vwCl [(h0, .inr (3, [.ref q0, .int (nI n)])), (q0, .inl (G.2.1, 200, .inl f))] sz)) (va_Qr (fun (u : Nat × (Nat → Int32)) => ∀ j, j < n → u.2 j = f j) (fun (u : Nat × (Nat → Int32)) (ra : Nat) => qk_B G vwCl (va_A [(h0, .inr (3, [.ref q0, .int (nI n)])), (q0, .inl (G.2.1, 200, .inl f))] sz) (fun (_ : Unit) => [(h0, .inr (3, [.ref q0, .int (nI n)])), (q0, .inl (G.2.1, 200, .inl f)), (ra, .inr (3, [.ref u.1, .int (nI n)])), (u.1, .inl (G.2.1, n, .inl u.2))]) ()) (va_A [(h0, .inr (3, [.ref q0, .int (nI n)])), (q0, .inl (G.2.1, 200, .inl f))] sz)) 2 202 (va_A [(h0, .inr (3, [.ref q0, .int (nI n)])), (q0, .inl (G.2.1, 200, .inl f))] sz) := by
  refine Met.ofW (cc := cX3_copy) (maxL := 1) (ret := (some (.object "GradeRows$Sorted"))) (by decide) rfl ?_
  intro p e s m args below meth c s₁ B hml hv
  obtain ⟨rfl, hsz, hP, hK, hD0, hN⟩ := hv
  have hx := B.exec
  have hb := B.bytes
  have hr := B.returns
  have hlocks := B.notSynchronized
  have hts := atoms_spec (ws := wsX3_copy) B.pre
  have htb := fun (w : Cond) (h : w ∈ qTb) => hts w (List.mem_cons_of_mem _ h)
  have hown : s.vm.findClass "GradeRows$Sorted" = some m.cls := findClass_of_methodNamed B.named
  subst hsz
  have hD := hD0.self (sz := s.heap.size)
  generalize hAe : va_A [(h0, .inr (3, [.ref q0, .int (nI n)])), (q0, .inl (G.2.1, 200, .inl f))] s.heap.size = A at hD ⊢
  have hA : ∀ q : Nat, s.heap.size ≤ q → A q := fun q h => by rw [← hAe]; exact Or.inr h
  have hS : va_S A s.heap s.heap [] := va_S.rf
  have hP : va_P G.1 vwCl [(h0, .inr (3, [.ref q0, .int (nI n)])), (q0, .inl (G.2.1, 200, .inl f))] s.heap := hP
  have hl := lv_entry ([.ref h0]) (n := 1) (Nat.le_of_ble_eq_true rfl)
  rw [lg_entry_eq]
  generalize (lg_sl ([.ref h0]) ++ List.replicate (1 - (lg_sl ([.ref h0])).length) Slot.unset).toArray = ls at hl ⊢
  have hl : lv_has ls 1 [(0, .ref h0)] := hl
  refine va_new (ci := 3) (fs := [.null, .int 0]) (C := "GradeRows$Sorted") (T := TX3) (N := 2) hx hb htb inX3 tyX3 tyX3_ok hown (htb _ qw_361) (htb _ qw_62) (htb _ qw_16) hK hP hD hS hA rfl (fun j hj => by rcases (show j = 0 ∨ j = 1 by omega) with rfl | rfl <;> rfl) (Nat.le_of_ble_eq_true rfl) (Nat.le_of_ble_eq_true rfl) dX3_copy_0 (fun q_0 H hP hD hS => ?_)
  have hP : va_P G.1 vwCl [(h0, .inr (3, [.ref q0, .int (nI n)])), (q0, .inl (G.2.1, 200, .inl f)), (q_0, .inr (3, [.null, .int 0]))] H := hP
  have hD : va_D A [(h0, .inr (3, [.ref q0, .int (nI n)])), (q0, .inl (G.2.1, 200, .inl f)), (q_0, .inr (3, [.null, .int 0]))] := hD
  refine W.widen (k := 1) (n := 2) (Nat.le_of_ble_eq_true rfl) (Nat.le_of_ble_eq_true rfl) ?_
  refine lv_dup hx hb dX3_copy_3 rfl ?_
  refine lv_aload_n hx hb dX3_copy_4 rfl (lv_at hl 0 rfl) ?_
  refine va_get (D := G.1) (ci := 3) (v := .ref q0) (C := "GradeRows$Sorted") (T := TX3) (N := 2) hx hb htb inX3 hown hK hP 0 rfl rfl 0 (by decide) (htb _ qw_67) (fun _ h9 => h9) rfl dX3_copy_5 ?_
  refine lv_aload_n hx hb dX3_copy_8 rfl (lv_at hl 0 rfl) ?_
  refine va_get (D := G.1) (ci := 3) (v := .int (nI n)) (C := "GradeRows$Sorted") (T := TX3) (N := 2) hx hb htb inX3 hown hK hP 0 rfl rfl 1 (by decide) (htb _ qw_68) (fun _ h9 => h9) rfl dX3_copy_9 ?_
  have hPc := hP.sub (ws' := [(q0, .inl (G.2.1, 200, .inl f))]) [1] rfl
  have hDc := hD.sub (ws' := [(q0, .inl (G.2.1, 200, .inl f))]) [1] (by decide) rfl
  have hFc := va_free (wc := [(q0, .inl (G.2.1, 200, .inl f))]) hD hS hA [1] rfl
  refine va_callr (va_runS (As := [.ref q0, .int (nI n)]) (rest := [.ref q_0, .ref q_0]) ⟨hx, hb, hml, hown, htb⟩ (qc_A_copy l G q0 n f H.size hn) (va_cwS 2 htb (qW_S qw_362 qw_363 qw_21 qw_364) rfl rfl rfl (by decide +kernel) ⟨Nat.le_of_ble_eq_true rfl, Nat.le_of_ble_eq_true rfl⟩) (qk_psw hK hPc hN hDc) rfl rfl hl.1 rfl (lv_room (Nat.le_of_ble_eq_true rfl)) dX3_copy_12 ⟨Nat.le_of_ble_eq_true rfl, Nat.le_of_ble_eq_true rfl⟩) hS (fun q _ h => hFc q h) hFc (fun u_12 ra_12 t9 H1 locs ht9 hvm w_12 hB hz1 hk1 hS => ?_)
  obtain ⟨v_12, rfl⟩ : ∃ z, z = u_12 := ⟨_, rfl⟩
  obtain ⟨hP1, hK1, hD1⟩ := hB
  rw [ht9] at hP1
  obtain ⟨hP, hD⟩ := va_join (wr := [(h0, .inr (3, [.ref q0, .int (nI n)])), (q_0, .inr (3, [.null, .int 0]))]) (w1 := [(q0, .inl (G.2.1, 200, .inl f)), (ra_12, .inl (G.2.1, n, .inl v_12))]) hP hD [1] [0, 2] rfl rfl (by decide) (by decide) hk1 hFc hP1 hD1
  generalize H1 = H at hP hS ⊢
  have hP : va_P G.1 vwCl [(h0, .inr (3, [.ref q0, .int (nI n)])), (q_0, .inr (3, [.null, .int 0])), (q0, .inl (G.2.1, 200, .inl f)), (ra_12, .inl (G.2.1, n, .inl v_12))] H := hP
  have hD : va_D A [(h0, .inr (3, [.ref q0, .int (nI n)])), (q_0, .inr (3, [.null, .int 0])), (q0, .inl (G.2.1, 200, .inl f)), (ra_12, .inl (G.2.1, n, .inl v_12))] := hD
  refine W.widen (k := 2) (n := 202) (Nat.le_of_ble_eq_true rfl) (Nat.le_of_ble_eq_true rfl) ?_
  refine lv_aload_n hx hb dX3_copy_15 rfl (lv_at hl 0 rfl) ?_
  refine va_get (D := G.1) (ci := 3) (v := .int (nI n)) (C := "GradeRows$Sorted") (T := TX3) (N := 2) hx hb htb inX3 hown hK hP 0 rfl rfl 1 (by decide) (htb _ qw_68) (fun _ h9 => h9) rfl dX3_copy_16 ?_
  have hPc := hP.sub (ws' := [(q_0, .inr (3, [.null, .int 0]))]) [1] rfl
  have hDc := hD.sub (ws' := [(q_0, .inr (3, [.null, .int 0]))]) [1] (by decide) rfl
  have hFc := va_free (wc := [(q_0, .inr (3, [.null, .int 0]))]) hD hS hA [1] rfl
  refine va_callv (va_runI (As := [.ref ra_12, .int (nI n)]) (rest := [.ref q_0]) ⟨hx, hb, hml, hown, htb⟩ (qc_S_init l G q_0 ra_12 n H.size) (cwI 2 htb (qW_good qw_65) rfl rfl rfl (htb _ qw_16) (htb _ qw_376) (htb _ qw_64) rfl (by decide +kernel) ⟨Nat.le_of_ble_eq_true rfl, Nat.le_of_ble_eq_true rfl⟩) (qk_psw hK hPc hN hDc) rfl rfl hl.1 rfl (lv_room (Nat.le_of_ble_eq_true rfl)) dX3_copy_19 ⟨Nat.le_of_ble_eq_true rfl, Nat.le_of_ble_eq_true rfl⟩) hS (fun q _ h => hFc q h) hFc (fun u_19 t9 H1 locs ht9 hvm w_19 hB hz1 hk1 hS => ?_)
  obtain ⟨v_19, rfl⟩ : ∃ z, z = u_19 := ⟨_, rfl⟩
  obtain ⟨hP1, hK1, hD1⟩ := hB
  rw [ht9] at hP1
  obtain ⟨hP, hD⟩ := va_join (wr := [(h0, .inr (3, [.ref q0, .int (nI n)])), (q0, .inl (G.2.1, 200, .inl f)), (ra_12, .inl (G.2.1, n, .inl v_12))]) (w1 := [(q_0, .inr (3, [.ref ra_12, .int (nI n)]))]) hP hD [1] [0, 2, 3] rfl rfl (by decide) (by decide) hk1 hFc hP1 hD1
  generalize H1 = H at hP hS ⊢
  have hP : va_P G.1 vwCl [(h0, .inr (3, [.ref q0, .int (nI n)])), (q0, .inl (G.2.1, 200, .inl f)), (ra_12, .inl (G.2.1, n, .inl v_12)), (q_0, .inr (3, [.ref ra_12, .int (nI n)]))] H := hP
  have hD : va_D A [(h0, .inr (3, [.ref q0, .int (nI n)])), (q0, .inl (G.2.1, 200, .inl f)), (ra_12, .inl (G.2.1, n, .inl v_12)), (q_0, .inr (3, [.ref ra_12, .int (nI n)]))] := hD
  have hP9 := hP.sub (ws' := [(h0, .inr (3, [.ref q0, .int (nI n)])), (q0, .inl (G.2.1, 200, .inl f)), (q_0, .inr (3, [.ref ra_12, .int (nI n)])), (ra_12, .inl (G.2.1, n, .inl v_12))]) [0, 1, 3, 2] rfl
  have hD9 := hD.sub (ws' := [(h0, .inr (3, [.ref q0, .int (nI n)])), (q0, .inl (G.2.1, 200, .inl f)), (q_0, .inr (3, [.ref ra_12, .int (nI n)])), (ra_12, .inl (G.2.1, n, .inl v_12))]) [0, 1, 3, 2] (by decide) rfl
  exact W.aret (v := .ref q_0) hx hb hr (Or.inl ⟨_, rfl⟩) (Or.inr ⟨_, rfl⟩) (fun t9 ht9 hW9 => ⟨⟨(ra_12, v_12), _, rfl, w_12, by rw [ht9]; exact hP9, va_K.moved hW9.alike hK, hD9⟩, hS.F ht9⟩) hS.2.2 dX3_copy_22

set_option maxHeartbeats 4000000 in
set_option maxRecDepth 100000 in
/-- Row() -/
theorem qc_W_init (l : Launch) (G : qG) (h0 : Nat) (ta : Int64) (s1 : Nat) (s2 : Nat) (sz : Nat)  : Met l yX1_init wsX1_init ({ frames := 1, cells := 0, slots := 0, locals := 20 } : Room) (va_Pc [.ref h0, .long ta, .ref s1, .ref s2] (qk_prw G vwCl [(h0, .inr (1, [.long 0, .null, .null]))] sz)) (va_Qv (fun (_ : Unit) => True) (qk_B G vwCl (va_A [(h0, .inr (1, [.long 0, .null, .null]))] sz) (fun (_ : Unit) => [(h0, .inr (1, [.long ta, .ref s1, .ref s2]))])) (va_A [(h0, .inr (1, [.long 0, .null, .null]))] sz)) 0 0 (va_A [(h0, .inr (1, [.long 0, .null, .null]))] sz) := by
  refine Met.ofW (cc := cX1_init) (maxL := 5) (ret := none) (by decide) rfl ?_
  intro p e s m args below meth c s₁ B hml hv
  obtain ⟨rfl, hsz, hP, hK, hD0, hN⟩ := hv
  have hx := B.exec
  have hb := B.bytes
  have hr := B.returns
  have hlocks := B.notSynchronized
  have hts := atoms_spec (ws := wsX1_init) B.pre
  have htb := fun (w : Cond) (h : w ∈ qTb) => hts w (List.mem_cons_of_mem _ h)
  have hown : s.vm.findClass "GradeRows$Row" = some m.cls := findClass_of_methodNamed B.named
  have hin : meth.name = "<init>" := (name_of_methodNamed B.named B.method).1
  subst hsz
  have hD := hD0.self (sz := s.heap.size)
  generalize hAe : va_A [(h0, .inr (1, [.long 0, .null, .null]))] s.heap.size = A at hD ⊢
  have hA : ∀ q : Nat, s.heap.size ≤ q → A q := fun q h => by rw [← hAe]; exact Or.inr h
  have hS : va_S A s.heap s.heap [] := va_S.rf
  have hP : va_P G.1 vwCl [(h0, .inr (1, [.long 0, .null, .null]))] s.heap := hP
  have hl := lv_entry ([.ref h0, .long ta, .ref s1, .ref s2]) (n := 5) (Nat.le_of_ble_eq_true rfl)
  rw [lg_entry_eq]
  generalize (lg_sl ([.ref h0, .long ta, .ref s1, .ref s2]) ++ List.replicate (5 - (lg_sl ([.ref h0, .long ta, .ref s1, .ref s2])).length) Slot.unset).toArray = ls at hl ⊢
  have hl : lv_has ls 5 [(0, .ref h0), (1, .long ta), (3, .ref s1), (4, .ref s2)] := hl
  refine lv_aload_n hx hb dX1_init_0 rfl (lv_at hl 0 rfl) ?_
  refine W.objInit hx hb hown (htb _ qw_380) (htb _ qw_29) (htb _ qw_30) rfl (by rw [hml]; exact hl.1) rfl dX1_init_1 (Nat.le_of_ble_eq_true rfl) (Nat.le_of_ble_eq_true rfl) ?_
  refine W.eq (g2 := F0 m 4 ls []) rfl ?_
  refine lv_aload_n hx hb dX1_init_4 rfl (lv_at hl 0 rfl) ?_
  refine lv_lload_n hx hb dX1_init_5 rfl (lv_at hl 1 rfl) ?_
  refine va_putF (D := G.1) (ci := 1) (v := .long ta) (ty := .long) (C := "GradeRows$Row") (T := TX1) (N := 3) hx hb htb inX1 tyX1 tyX1_ok nmX1 hown hK hP hD hS 0 rfl rfl 0 (by decide) (htb _ qw_381) (fun _ h9 => h9) rfl hin rfl (by decide +kernel) rfl rfl (Nat.le_of_ble_eq_true rfl) dX1_init_6 (fun H locs hP hD hS => ?_)
  have hP : va_P G.1 vwCl [(h0, .inr (1, [.long ta, .null, .null]))] H := hP
  have hD : va_D A [(h0, .inr (1, [.long ta, .null, .null]))] := hD
  refine lv_aload_n hx hb dX1_init_9 rfl (lv_at hl 0 rfl) ?_
  refine lv_aload_n hx hb dX1_init_10 rfl (lv_at hl 2 rfl) ?_
  refine va_putF (D := G.1) (ci := 1) (v := .ref s1) (ty := .object "GradeRows$Sorted") (C := "GradeRows$Row") (T := TX1) (N := 3) hx hb htb inX1 tyX1 tyX1_ok nmX1 hown hK hP hD hS 0 rfl rfl 1 (by decide) (htb _ qw_383) (fun _ h9 => h9) rfl hin rfl (by decide +kernel) rfl rfl (Nat.le_of_ble_eq_true rfl) dX1_init_11 (fun H locs hP hD hS => ?_)
  have hP : va_P G.1 vwCl [(h0, .inr (1, [.long ta, .ref s1, .null]))] H := hP
  have hD : va_D A [(h0, .inr (1, [.long ta, .ref s1, .null]))] := hD
  refine lv_aload_n hx hb dX1_init_14 rfl (lv_at hl 0 rfl) ?_
  refine lv_aload hx hb dX1_init_15 (lv_at hl 3 rfl) ?_
  refine va_putF (D := G.1) (ci := 1) (v := .ref s2) (ty := .object "GradeRows$Sorted") (C := "GradeRows$Row") (T := TX1) (N := 3) hx hb htb inX1 tyX1 tyX1_ok nmX1 hown hK hP hD hS 0 rfl rfl 2 (by decide) (htb _ qw_385) (fun _ h9 => h9) rfl hin rfl (by decide +kernel) rfl rfl (Nat.le_of_ble_eq_true rfl) dX1_init_17 (fun H locs hP hD hS => ?_)
  have hP : va_P G.1 vwCl [(h0, .inr (1, [.long ta, .ref s1, .ref s2]))] H := hP
  have hD : va_D A [(h0, .inr (1, [.long ta, .ref s1, .ref s2]))] := hD
  have hP9 := hP.sub (ws' := [(h0, .inr (1, [.long ta, .ref s1, .ref s2]))]) [0] rfl
  have hD9 := hD.sub (ws' := [(h0, .inr (1, [.long ta, .ref s1, .ref s2]))]) [0] (by decide) rfl
  exact W.vret hx hb hr (fun t9 ht9 hW9 => ⟨⟨(), rfl, trivial, by rw [ht9]; exact hP9, va_K.moved hW9.alike hK, hD9⟩, hS.F ht9⟩) hS.2.2 dX1_init_20

set_option maxHeartbeats 4000000 in
set_option maxRecDepth 100000 in
/-- Steps.toRow -/
theorem qc_T_row (l : Launch) (G : qG) (h0 : Nat) (qr : Nat) (qp : Nat) (qd : Nat) (qc : Nat) (qf : Nat) (qt : Nat) (sp : Nat) (sc : Nat) (n : Nat) (ft : Nat → Int64) (ta : Int64) (q1 : Nat) (f1 : Nat → Int32) (q2 : Nat) (f2 : Nat → Int32) (sz : Nat) (hn : n ≤ 200) (hta : ft n = ta) : Met l yX4_toRow wsX4_toRow ({ frames := 3, cells := 5, slots := 407, locals := 72 } : Room) (va_Pc [.ref h0] (qk_prw G vwCl [(h0, .inr (4, [.ref qr, .ref qp, .ref qd, .ref qc, .ref qf, .ref qt, .ref sp, .ref sc, .int (nI n)])), (qt, .inl (G.2.2.1, 201, .inr (.inl ft))), (sp, .inr (3, [.ref q1, .int (nI n)])), (q1, .inl (G.2.1, 200, .inl f1)), (sc, .inr (3, [.ref q2, .int (nI n)])), (q2, .inl (G.2.1, 200, .inl f2))] sz)) (va_Qr (fun (u : Nat × Nat × Nat × Nat × (Nat → Int32) × (Nat → Int32)) => (∀ j, j < n → u.2.2.2.2.1 j = f1 j) ∧ ∀ j, j < n → u.2.2.2.2.2 j = f2 j) (fun (u : Nat × Nat × Nat × Nat × (Nat → Int32) × (Nat → Int32)) (ra : Nat) => qk_B G vwCl (va_A [(h0, .inr (4, [.ref qr, .ref qp, .ref qd, .ref qc, .ref qf, .ref qt, .ref sp, .ref sc, .int (nI n)])), (qt, .inl (G.2.2.1, 201, .inr (.inl ft))), (sp, .inr (3, [.ref q1, .int (nI n)])), (q1, .inl (G.2.1, 200, .inl f1)), (sc, .inr (3, [.ref q2, .int (nI n)])), (q2, .inl (G.2.1, 200, .inl f2))] sz) (fun (_ : Unit) => [(h0, .inr (4, [.ref qr, .ref qp, .ref qd, .ref qc, .ref qf, .ref qt, .ref sp, .ref sc, .int (nI n)])), (qt, .inl (G.2.2.1, 201, .inr (.inl ft))), (sp, .inr (3, [.ref q1, .int (nI n)])), (q1, .inl (G.2.1, 200, .inl f1)), (sc, .inr (3, [.ref q2, .int (nI n)])), (q2, .inl (G.2.1, 200, .inl f2)), (ra, .inr (1, [.long ta, .ref u.1, .ref u.2.2.1])), (u.1, .inr (3, [.ref u.2.1, .int (nI n)])), (u.2.1, .inl (G.2.1, n, .inl u.2.2.2.2.1)), (u.2.2.1, .inr (3, [.ref u.2.2.2.1, .int (nI n)])), (u.2.2.2.1, .inl (G.2.1, n, .inl u.2.2.2.2.2))]) ()) (va_A [(h0, .inr (4, [.ref qr, .ref qp, .ref qd, .ref qc, .ref qf, .ref qt, .ref sp, .ref sc, .int (nI n)])), (qt, .inl (G.2.2.1, 201, .inr (.inl ft))), (sp, .inr (3, [.ref q1, .int (nI n)])), (q1, .inl (G.2.1, 200, .inl f1)), (sc, .inr (3, [.ref q2, .int (nI n)])), (q2, .inl (G.2.1, 200, .inl f2))] sz)) 5 407 (va_A [(h0, .inr (4, [.ref qr, .ref qp, .ref qd, .ref qc, .ref qf, .ref qt, .ref sp, .ref sc, .int (nI n)])), (qt, .inl (G.2.2.1, 201, .inr (.inl ft))), (sp, .inr (3, [.ref q1, .int (nI n)])), (q1, .inl (G.2.1, 200, .inl f1)), (sc, .inr (3, [.ref q2, .int (nI n)])), (q2, .inl (G.2.1, 200, .inl f2))] sz) := by
  refine Met.ofW (cc := cX4_toRow) (maxL := 1) (ret := (some (.object "GradeRows$Row"))) (by decide) rfl ?_
  intro p e s m args below meth c s₁ B hml hv
  obtain ⟨rfl, hsz, hP, hK, hD0, hN⟩ := hv
  have hx := B.exec
  have hb := B.bytes
  have hr := B.returns
  have hlocks := B.notSynchronized
  have hts := atoms_spec (ws := wsX4_toRow) B.pre
  have htb := fun (w : Cond) (h : w ∈ qTb) => hts w (List.mem_cons_of_mem _ h)
  have hown : s.vm.findClass "GradeRows$Steps" = some m.cls := findClass_of_methodNamed B.named
  subst hsz
  have hD := hD0.self (sz := s.heap.size)
  generalize hAe : va_A [(h0, .inr (4, [.ref qr, .ref qp, .ref qd, .ref qc, .ref qf, .ref qt, .ref sp, .ref sc, .int (nI n)])), (qt, .inl (G.2.2.1, 201, .inr (.inl ft))), (sp, .inr (3, [.ref q1, .int (nI n)])), (q1, .inl (G.2.1, 200, .inl f1)), (sc, .inr (3, [.ref q2, .int (nI n)])), (q2, .inl (G.2.1, 200, .inl f2))] s.heap.size = A at hD ⊢
  have hA : ∀ q : Nat, s.heap.size ≤ q → A q := fun q h => by rw [← hAe]; exact Or.inr h
  have hS : va_S A s.heap s.heap [] := va_S.rf
  have hP : va_P G.1 vwCl [(h0, .inr (4, [.ref qr, .ref qp, .ref qd, .ref qc, .ref qf, .ref qt, .ref sp, .ref sc, .int (nI n)])), (qt, .inl (G.2.2.1, 201, .inr (.inl ft))), (sp, .inr (3, [.ref q1, .int (nI n)])), (q1, .inl (G.2.1, 200, .inl f1)), (sc, .inr (3, [.ref q2, .int (nI n)])), (q2, .inl (G.2.1, 200, .inl f2))] s.heap := hP
  have hl := lv_entry ([.ref h0]) (n := 1) (Nat.le_of_ble_eq_true rfl)
  rw [lg_entry_eq]
  generalize (lg_sl ([.ref h0]) ++ List.replicate (1 - (lg_sl ([.ref h0])).length) Slot.unset).toArray = ls at hl ⊢
  have hl : lv_has ls 1 [(0, .ref h0)] := hl
  refine va_new (ci := 1) (fs := [.long 0, .null, .null]) (C := "GradeRows$Row") (T := TX1) (N := 3) hx hb htb inX1 tyX1 tyX1_ok hown (htb _ qw_355) (htb _ qw_356) (htb _ qw_20) hK hP hD hS hA rfl (fun j hj => by rcases (show j = 0 ∨ j = 1 ∨ j = 2 by omega) with rfl | rfl | rfl <;> rfl) (Nat.le_of_ble_eq_true rfl) (Nat.le_of_ble_eq_true rfl) dX4_toRow_0 (fun q_0 H hP hD hS => ?_)
  have hP : va_P G.1 vwCl [(h0, .inr (4, [.ref qr, .ref qp, .ref qd, .ref qc, .ref qf, .ref qt, .ref sp, .ref sc, .int (nI n)])), (qt, .inl (G.2.2.1, 201, .inr (.inl ft))), (sp, .inr (3, [.ref q1, .int (nI n)])), (q1, .inl (G.2.1, 200, .inl f1)), (sc, .inr (3, [.ref q2, .int (nI n)])), (q2, .inl (G.2.1, 200, .inl f2)), (q_0, .inr (1, [.long 0, .null, .null]))] H := hP
  have hD : va_D A [(h0, .inr (4, [.ref qr, .ref qp, .ref qd, .ref qc, .ref qf, .ref qt, .ref sp, .ref sc, .int (nI n)])), (qt, .inl (G.2.2.1, 201, .inr (.inl ft))), (sp, .inr (3, [.ref q1, .int (nI n)])), (q1, .inl (G.2.1, 200, .inl f1)), (sc, .inr (3, [.ref q2, .int (nI n)])), (q2, .inl (G.2.1, 200, .inl f2)), (q_0, .inr (1, [.long 0, .null, .null]))] := hD
  refine W.widen (k := 1) (n := 3) (Nat.le_of_ble_eq_true rfl) (Nat.le_of_ble_eq_true rfl) ?_
  refine lv_dup hx hb dX4_toRow_3 rfl ?_
  refine lv_aload_n hx hb dX4_toRow_4 rfl (lv_at hl 0 rfl) ?_
  have hPc := hP.sub (ws' := [(h0, .inr (4, [.ref qr, .ref qp, .ref qd, .ref qc, .ref qf, .ref qt, .ref sp, .ref sc, .int (nI n)])), (qt, .inl (G.2.2.1, 201, .inr (.inl ft)))]) [0, 1] rfl
  refine vp_callSl (va_runV (As := []) (rest := [.ref q_0, .ref q_0]) ⟨hx, hb, hml, hown, htb⟩ (qc_T_total l G h0 qr qp qd qc qf qt sp sc n ft ta hn hta) (cwV 0 htb (qW_V qw_251 qw_252 qw_253 qw_15 qw_254) rfl rfl rfl (by decide +kernel) ⟨Nat.le_of_ble_eq_true rfl, Nat.le_of_ble_eq_true rfl⟩) (qk_pv (ci := 4) (q0 := 0) hK hPc hN rfl rfl) rfl rfl hl.1 rfl (lv_room (Nat.le_of_ble_eq_true rfl)) dX4_toRow_5 ⟨Nat.le_of_ble_eq_true rfl, Nat.le_of_ble_eq_true rfl⟩).run (fun r_5 e_5 => ?_)
  have e_5 := e_5.symm
  subst e_5
  refine lv_aload_n hx hb dX4_toRow_8 rfl (lv_at hl 0 rfl) ?_
  refine va_get (D := G.1) (ci := 4) (v := .ref sp) (C := "GradeRows$Steps") (T := TX4) (N := 9) hx hb htb inX4 hown hK hP 0 rfl rfl 6 (by decide) (htb _ qw_81) (fun _ h9 => h9) rfl dX4_toRow_9 ?_
  have hPc := hP.sub (ws' := [(sp, .inr (3, [.ref q1, .int (nI n)])), (q1, .inl (G.2.1, 200, .inl f1))]) [2, 3] rfl
  have hDc := hD.sub (ws' := [(sp, .inr (3, [.ref q1, .int (nI n)])), (q1, .inl (G.2.1, 200, .inl f1))]) [2, 3] (by decide) rfl
  have hFc := va_free (wc := [(sp, .inr (3, [.ref q1, .int (nI n)])), (q1, .inl (G.2.1, 200, .inl f1))]) hD hS hA [2, 3] rfl
  refine va_callr (va_runV (As := []) (rest := [.long ta, .ref q_0, .ref q_0]) ⟨hx, hb, hml, hown, htb⟩ (qc_S_copy l G sp q1 n f1 H.size hn) (cwV 0 htb (qW_V qw_357 qw_358 qw_359 qw_16 qw_360) rfl rfl rfl (by decide +kernel) ⟨Nat.le_of_ble_eq_true rfl, Nat.le_of_ble_eq_true rfl⟩) (qk_pvw (ci := 3) (q0 := 0) hK hPc hN hDc rfl rfl) rfl rfl hl.1 rfl (lv_room (Nat.le_of_ble_eq_true rfl)) dX4_toRow_12 ⟨Nat.le_of_ble_eq_true rfl, Nat.le_of_ble_eq_true rfl⟩) hS (fun q _ h => hFc q h) hFc (fun u_12 ra_12 t9 H1 locs ht9 hvm w_12 hB hz1 hk1 hS => ?_)
  obtain ⟨v_12, rfl⟩ : ∃ z, z = u_12 := ⟨_, rfl⟩
  obtain ⟨hP1, hK1, hD1⟩ := hB
  rw [ht9] at hP1
  obtain ⟨hP, hD⟩ := va_join (wr := [(h0, .inr (4, [.ref qr, .ref qp, .ref qd, .ref qc, .ref qf, .ref qt, .ref sp, .ref sc, .int (nI n)])), (qt, .inl (G.2.2.1, 201, .inr (.inl ft))), (sc, .inr (3, [.ref q2, .int (nI n)])), (q2, .inl (G.2.1, 200, .inl f2)), (q_0, .inr (1, [.long 0, .null, .null]))]) (w1 := [(sp, .inr (3, [.ref q1, .int (nI n)])), (q1, .inl (G.2.1, 200, .inl f1)), (ra_12, .inr (3, [.ref v_12.1, .int (nI n)])), (v_12.1, .inl (G.2.1, n, .inl v_12.2))]) hP hD [2, 3] [0, 1, 4, 5, 6] rfl rfl (by decide) (by decide) hk1 hFc hP1 hD1
  generalize H1 = H at hP hS ⊢
  have hP : va_P G.1 vwCl [(h0, .inr (4, [.ref qr, .ref qp, .ref qd, .ref qc, .ref qf, .ref qt, .ref sp, .ref sc, .int (nI n)])), (qt, .inl (G.2.2.1, 201, .inr (.inl ft))), (sc, .inr (3, [.ref q2, .int (nI n)])), (q2, .inl (G.2.1, 200, .inl f2)), (q_0, .inr (1, [.long 0, .null, .null])), (sp, .inr (3, [.ref q1, .int (nI n)])), (q1, .inl (G.2.1, 200, .inl f1)), (ra_12, .inr (3, [.ref v_12.1, .int (nI n)])), (v_12.1, .inl (G.2.1, n, .inl v_12.2))] H := hP
  have hD : va_D A [(h0, .inr (4, [.ref qr, .ref qp, .ref qd, .ref qc, .ref qf, .ref qt, .ref sp, .ref sc, .int (nI n)])), (qt, .inl (G.2.2.1, 201, .inr (.inl ft))), (sc, .inr (3, [.ref q2, .int (nI n)])), (q2, .inl (G.2.1, 200, .inl f2)), (q_0, .inr (1, [.long 0, .null, .null])), (sp, .inr (3, [.ref q1, .int (nI n)])), (q1, .inl (G.2.1, 200, .inl f1)), (ra_12, .inr (3, [.ref v_12.1, .int (nI n)])), (v_12.1, .inl (G.2.1, n, .inl v_12.2))] := hD
  refine W.widen (k := 3) (n := 205) (Nat.le_of_ble_eq_true rfl) (Nat.le_of_ble_eq_true rfl) ?_
  refine lv_aload_n hx hb dX4_toRow_15 rfl (lv_at hl 0 rfl) ?_
  refine va_get (D := G.1) (ci := 4) (v := .ref sc) (C := "GradeRows$Steps") (T := TX4) (N := 9) hx hb htb inX4 hown hK hP 0 rfl rfl 7 (by decide) (htb _ qw_82) (fun _ h9 => h9) rfl dX4_toRow_16 ?_
  have hPc := hP.sub (ws' := [(sc, .inr (3, [.ref q2, .int (nI n)])), (q2, .inl (G.2.1, 200, .inl f2))]) [2, 3] rfl
  have hDc := hD.sub (ws' := [(sc, .inr (3, [.ref q2, .int (nI n)])), (q2, .inl (G.2.1, 200, .inl f2))]) [2, 3] (by decide) rfl
  have hFc := va_free (wc := [(sc, .inr (3, [.ref q2, .int (nI n)])), (q2, .inl (G.2.1, 200, .inl f2))]) hD hS hA [2, 3] rfl
  refine va_callr (va_runV (As := []) (rest := [.ref ra_12, .long ta, .ref q_0, .ref q_0]) ⟨hx, hb, hml, hown, htb⟩ (qc_S_copy l G sc q2 n f2 H.size hn) (cwV 0 htb (qW_V qw_357 qw_358 qw_359 qw_16 qw_360) rfl rfl rfl (by decide +kernel) ⟨Nat.le_of_ble_eq_true rfl, Nat.le_of_ble_eq_true rfl⟩) (qk_pvw (ci := 3) (q0 := 0) hK hPc hN hDc rfl rfl) rfl rfl hl.1 rfl (lv_room (Nat.le_of_ble_eq_true rfl)) dX4_toRow_19 ⟨Nat.le_of_ble_eq_true rfl, Nat.le_of_ble_eq_true rfl⟩) hS (fun q _ h => hFc q h) hFc (fun u_19 ra_19 t9 H1 locs ht9 hvm w_19 hB hz1 hk1 hS => ?_)
  obtain ⟨v_19, rfl⟩ : ∃ z, z = u_19 := ⟨_, rfl⟩
  obtain ⟨hP1, hK1, hD1⟩ := hB
  rw [ht9] at hP1
  obtain ⟨hP, hD⟩ := va_join (wr := [(h0, .inr (4, [.ref qr, .ref qp, .ref qd, .ref qc, .ref qf, .ref qt, .ref sp, .ref sc, .int (nI n)])), (qt, .inl (G.2.2.1, 201, .inr (.inl ft))), (q_0, .inr (1, [.long 0, .null, .null])), (sp, .inr (3, [.ref q1, .int (nI n)])), (q1, .inl (G.2.1, 200, .inl f1)), (ra_12, .inr (3, [.ref v_12.1, .int (nI n)])), (v_12.1, .inl (G.2.1, n, .inl v_12.2))]) (w1 := [(sc, .inr (3, [.ref q2, .int (nI n)])), (q2, .inl (G.2.1, 200, .inl f2)), (ra_19, .inr (3, [.ref v_19.1, .int (nI n)])), (v_19.1, .inl (G.2.1, n, .inl v_19.2))]) hP hD [2, 3] [0, 1, 4, 5, 6, 7, 8] rfl rfl (by decide) (by decide) hk1 hFc hP1 hD1
  generalize H1 = H at hP hS ⊢
  have hP : va_P G.1 vwCl [(h0, .inr (4, [.ref qr, .ref qp, .ref qd, .ref qc, .ref qf, .ref qt, .ref sp, .ref sc, .int (nI n)])), (qt, .inl (G.2.2.1, 201, .inr (.inl ft))), (q_0, .inr (1, [.long 0, .null, .null])), (sp, .inr (3, [.ref q1, .int (nI n)])), (q1, .inl (G.2.1, 200, .inl f1)), (ra_12, .inr (3, [.ref v_12.1, .int (nI n)])), (v_12.1, .inl (G.2.1, n, .inl v_12.2)), (sc, .inr (3, [.ref q2, .int (nI n)])), (q2, .inl (G.2.1, 200, .inl f2)), (ra_19, .inr (3, [.ref v_19.1, .int (nI n)])), (v_19.1, .inl (G.2.1, n, .inl v_19.2))] H := hP
  have hD : va_D A [(h0, .inr (4, [.ref qr, .ref qp, .ref qd, .ref qc, .ref qf, .ref qt, .ref sp, .ref sc, .int (nI n)])), (qt, .inl (G.2.2.1, 201, .inr (.inl ft))), (q_0, .inr (1, [.long 0, .null, .null])), (sp, .inr (3, [.ref q1, .int (nI n)])), (q1, .inl (G.2.1, 200, .inl f1)), (ra_12, .inr (3, [.ref v_12.1, .int (nI n)])), (v_12.1, .inl (G.2.1, n, .inl v_12.2)), (sc, .inr (3, [.ref q2, .int (nI n)])), (q2, .inl (G.2.1, 200, .inl f2)), (ra_19, .inr (3, [.ref v_19.1, .int (nI n)])), (v_19.1, .inl (G.2.1, n, .inl v_19.2))] := hD
  refine W.widen (k := 5) (n := 407) (Nat.le_of_ble_eq_true rfl) (Nat.le_of_ble_eq_true rfl) ?_
  have hPc := hP.sub (ws' := [(q_0, .inr (1, [.long 0, .null, .null]))]) [2] rfl
  have hDc := hD.sub (ws' := [(q_0, .inr (1, [.long 0, .null, .null]))]) [2] (by decide) rfl
  have hFc := va_free (wc := [(q_0, .inr (1, [.long 0, .null, .null]))]) hD hS hA [2] rfl
  refine va_callv (va_runI (As := [.long ta, .ref ra_12, .ref ra_19]) (rest := [.ref q_0]) ⟨hx, hb, hml, hown, htb⟩ (qc_W_init l G q_0 ta ra_12 ra_19 H.size) (cwI 3 htb (qW_good qw_379) rfl rfl rfl (htb _ qw_20) (htb _ qw_377) (htb _ qw_378) rfl (by decide +kernel) ⟨Nat.le_of_ble_eq_true rfl, Nat.le_of_ble_eq_true rfl⟩) (qk_psw hK hPc hN hDc) rfl rfl hl.1 rfl (lv_room (Nat.le_of_ble_eq_true rfl)) dX4_toRow_22 ⟨Nat.le_of_ble_eq_true rfl, Nat.le_of_ble_eq_true rfl⟩) hS (fun q _ h => hFc q h) hFc (fun u_22 t9 H1 locs ht9 hvm w_22 hB hz1 hk1 hS => ?_)
  obtain ⟨v_22, rfl⟩ : ∃ z, z = u_22 := ⟨_, rfl⟩
  obtain ⟨hP1, hK1, hD1⟩ := hB
  rw [ht9] at hP1
  obtain ⟨hP, hD⟩ := va_join (wr := [(h0, .inr (4, [.ref qr, .ref qp, .ref qd, .ref qc, .ref qf, .ref qt, .ref sp, .ref sc, .int (nI n)])), (qt, .inl (G.2.2.1, 201, .inr (.inl ft))), (sp, .inr (3, [.ref q1, .int (nI n)])), (q1, .inl (G.2.1, 200, .inl f1)), (ra_12, .inr (3, [.ref v_12.1, .int (nI n)])), (v_12.1, .inl (G.2.1, n, .inl v_12.2)), (sc, .inr (3, [.ref q2, .int (nI n)])), (q2, .inl (G.2.1, 200, .inl f2)), (ra_19, .inr (3, [.ref v_19.1, .int (nI n)])), (v_19.1, .inl (G.2.1, n, .inl v_19.2))]) (w1 := [(q_0, .inr (1, [.long ta, .ref ra_12, .ref ra_19]))]) hP hD [2] [0, 1, 3, 4, 5, 6, 7, 8, 9, 10] rfl rfl (by decide) (by decide) hk1 hFc hP1 hD1
  generalize H1 = H at hP hS ⊢
  have hP : va_P G.1 vwCl [(h0, .inr (4, [.ref qr, .ref qp, .ref qd, .ref qc, .ref qf, .ref qt, .ref sp, .ref sc, .int (nI n)])), (qt, .inl (G.2.2.1, 201, .inr (.inl ft))), (sp, .inr (3, [.ref q1, .int (nI n)])), (q1, .inl (G.2.1, 200, .inl f1)), (ra_12, .inr (3, [.ref v_12.1, .int (nI n)])), (v_12.1, .inl (G.2.1, n, .inl v_12.2)), (sc, .inr (3, [.ref q2, .int (nI n)])), (q2, .inl (G.2.1, 200, .inl f2)), (ra_19, .inr (3, [.ref v_19.1, .int (nI n)])), (v_19.1, .inl (G.2.1, n, .inl v_19.2)), (q_0, .inr (1, [.long ta, .ref ra_12, .ref ra_19]))] H := hP
  have hD : va_D A [(h0, .inr (4, [.ref qr, .ref qp, .ref qd, .ref qc, .ref qf, .ref qt, .ref sp, .ref sc, .int (nI n)])), (qt, .inl (G.2.2.1, 201, .inr (.inl ft))), (sp, .inr (3, [.ref q1, .int (nI n)])), (q1, .inl (G.2.1, 200, .inl f1)), (ra_12, .inr (3, [.ref v_12.1, .int (nI n)])), (v_12.1, .inl (G.2.1, n, .inl v_12.2)), (sc, .inr (3, [.ref q2, .int (nI n)])), (q2, .inl (G.2.1, 200, .inl f2)), (ra_19, .inr (3, [.ref v_19.1, .int (nI n)])), (v_19.1, .inl (G.2.1, n, .inl v_19.2)), (q_0, .inr (1, [.long ta, .ref ra_12, .ref ra_19]))] := hD
  have hP9 := hP.sub (ws' := [(h0, .inr (4, [.ref qr, .ref qp, .ref qd, .ref qc, .ref qf, .ref qt, .ref sp, .ref sc, .int (nI n)])), (qt, .inl (G.2.2.1, 201, .inr (.inl ft))), (sp, .inr (3, [.ref q1, .int (nI n)])), (q1, .inl (G.2.1, 200, .inl f1)), (sc, .inr (3, [.ref q2, .int (nI n)])), (q2, .inl (G.2.1, 200, .inl f2)), (q_0, .inr (1, [.long ta, .ref ra_12, .ref ra_19])), (ra_12, .inr (3, [.ref v_12.1, .int (nI n)])), (v_12.1, .inl (G.2.1, n, .inl v_12.2)), (ra_19, .inr (3, [.ref v_19.1, .int (nI n)])), (v_19.1, .inl (G.2.1, n, .inl v_19.2))]) [0, 1, 2, 3, 6, 7, 10, 4, 5, 8, 9] rfl
  have hD9 := hD.sub (ws' := [(h0, .inr (4, [.ref qr, .ref qp, .ref qd, .ref qc, .ref qf, .ref qt, .ref sp, .ref sc, .int (nI n)])), (qt, .inl (G.2.2.1, 201, .inr (.inl ft))), (sp, .inr (3, [.ref q1, .int (nI n)])), (q1, .inl (G.2.1, 200, .inl f1)), (sc, .inr (3, [.ref q2, .int (nI n)])), (q2, .inl (G.2.1, 200, .inl f2)), (q_0, .inr (1, [.long ta, .ref ra_12, .ref ra_19])), (ra_12, .inr (3, [.ref v_12.1, .int (nI n)])), (v_12.1, .inl (G.2.1, n, .inl v_12.2)), (ra_19, .inr (3, [.ref v_19.1, .int (nI n)])), (v_19.1, .inl (G.2.1, n, .inl v_19.2))]) [0, 1, 2, 3, 6, 7, 10, 4, 5, 8, 9] (by decide) rfl
  exact W.aret (v := .ref q_0) hx hb hr (Or.inl ⟨_, rfl⟩) (Or.inr ⟨_, rfl⟩) (fun t9 ht9 hW9 => ⟨⟨(ra_12, v_12.1, ra_19, v_19.1, v_12.2, v_19.2), _, rfl, ⟨w_12, w_19⟩, by rw [ht9]; exact hP9, va_K.moved hW9.alike hK, hD9⟩, hS.F ht9⟩) hS.2.2 dX4_toRow_25
