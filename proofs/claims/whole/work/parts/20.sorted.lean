set_option maxHeartbeats 4000000 in
set_option maxRecDepth 100000 in
/-- order: the sign -/
theorem qc_order (l : Launch) (G : qG) (x : Int64) (y : Int64)  : Met l yX5_order wsX5_order ({ frames := 0, cells := 0, slots := 0, locals := 0 } : Room) (va_Pc [.long x, .long y] (qk_pre G vwCl [])) (vp_Si (fun r => qm_sg x y r)) 0 0 (fun _ => False) := by
  refine Met.ofW (cc := cX5_order) (maxL := 4) (ret := (some .int)) (by decide) rfl ?_
  intro p e s m args below meth c s₁ B hml hv
  obtain ⟨rfl, hP, hK, hN⟩ := hv
  have hx := B.exec
  have hb := B.bytes
  have hr := B.returns
  have hlocks := B.notSynchronized
  have hts := atoms_spec (ws := wsX5_order) B.pre
  have htb := fun (w : Cond) (h : w ∈ qTb) => hts w (List.mem_cons_of_mem _ h)
  have hown : s.vm.findClass "GradeRows" = some m.cls := findClass_of_methodNamed B.named
  have hP : va_P G.1 vwCl [] s.heap := hP
  have hl := lv_entry ([.long x, .long y]) (n := 4) (Nat.le_of_ble_eq_true rfl)
  rw [lg_entry_eq]
  generalize (lg_sl ([.long x, .long y]) ++ List.replicate (4 - (lg_sl ([.long x, .long y])).length) Slot.unset).toArray = ls at hl ⊢
  have hl : lv_has ls 4 [(0, .long x), (2, .long y)] := hl
  refine lv_lload_n hx hb dX5_order_0 rfl (lv_at hl 0 rfl) ?_
  refine lv_lload_n hx hb dX5_order_1 rfl (lv_at hl 1 rfl) ?_
  refine W.lcmp hx hb dX5_order_2 ?_
  refine lv_if_ge (tgt := 10) hx hb dX5_order_3 (by decide) (fun c1 => ?_) (fun c1 => ?_)
  · have c1 : y ≤ x := (lg_cmp_ge _ _).mp c1
    refine lv_lload_n hx hb dX5_order_10 rfl (lv_at hl 0 rfl) ?_
    refine lv_lload_n hx hb dX5_order_11 rfl (lv_at hl 1 rfl) ?_
    refine W.lcmp hx hb dX5_order_12 ?_
    refine lv_if_le (tgt := 20) hx hb dX5_order_13 (by decide) (fun c2 => ?_) (fun c2 => ?_)
    · have c2 : x ≤ y := (lg_cmp_le _ _).mp c2
      refine lv_iconst (v := nI 0) hx hb dX5_order_20 (by decide) ?_
      exact W.iret (v := nI 0) hx hb hr (fun t9 ht9 hW9 => ⟨_, rfl, Or.inr (Or.inl ⟨by rw [Int64.le_iff_toInt_le] at c1 c2; rw [← Int64.toInt_inj]; omega, rfl⟩), ht9⟩) (fun q h => absurd h List.not_mem_nil) dX5_order_21
    · have c2 : ¬ (x ≤ y) := fun q9 => c2 ((lg_cmp_le _ _).mpr q9)
      refine lv_iconst (v := nI 1) hx hb dX5_order_16 (by decide) ?_
      refine lv_goto (tgt := 21) hx hb dX5_order_17 (by decide) ?_
      exact W.iret (v := nI 1) hx hb hr (fun t9 ht9 hW9 => ⟨_, rfl, Or.inr (Or.inr ⟨by rw [Int64.le_iff_toInt_le] at c2; rw [Int64.lt_iff_toInt_lt]; omega, rfl⟩), ht9⟩) (fun q h => absurd h List.not_mem_nil) dX5_order_21
  · have c1 : ¬ (y ≤ x) := fun q9 => c1 ((lg_cmp_ge _ _).mpr q9)
    refine lv_iconst (v := (-1)) hx hb dX5_order_6 (by decide) ?_
    refine lv_goto (tgt := 21) hx hb dX5_order_7 (by decide) ?_
    exact W.iret (v := (-1)) hx hb hr (fun t9 ht9 hW9 => ⟨_, rfl, Or.inl ⟨by rw [Int64.le_iff_toInt_le] at c1; rw [Int64.lt_iff_toInt_lt]; omega, rfl⟩, ht9⟩) (fun q h => absurd h List.not_mem_nil) dX5_order_21

set_option maxHeartbeats 4000000 in
set_option maxRecDepth 100000 in
/-- isWithin -/
theorem qc_within (l : Launch) (G : qG) (x : Int32) (a : Int32) (b : Int32)  : Met l yX5_isWithin wsX5_isWithin ({ frames := 0, cells := 0, slots := 0, locals := 0 } : Room) (va_Pc [.int x, .int a, .int b] (qk_pre G vwCl [])) (vp_Si (fun r => r = if a ≤ x ∧ x ≤ b then nI 1 else nI 0)) 0 0 (fun _ => False) := by
  refine Met.ofW (cc := cX5_isWithin) (maxL := 3) (ret := (some .boolean)) (by decide) rfl ?_
  intro p e s m args below meth c s₁ B hml hv
  obtain ⟨rfl, hP, hK, hN⟩ := hv
  have hx := B.exec
  have hb := B.bytes
  have hr := B.returns
  have hlocks := B.notSynchronized
  have hts := atoms_spec (ws := wsX5_isWithin) B.pre
  have htb := fun (w : Cond) (h : w ∈ qTb) => hts w (List.mem_cons_of_mem _ h)
  have hown : s.vm.findClass "GradeRows" = some m.cls := findClass_of_methodNamed B.named
  have hP : va_P G.1 vwCl [] s.heap := hP
  have hl := lv_entry ([.int x, .int a, .int b]) (n := 3) (Nat.le_of_ble_eq_true rfl)
  rw [lg_entry_eq]
  generalize (lg_sl ([.int x, .int a, .int b]) ++ List.replicate (3 - (lg_sl ([.int x, .int a, .int b])).length) Slot.unset).toArray = ls at hl ⊢
  have hl : lv_has ls 3 [(0, .int x), (1, .int a), (2, .int b)] := hl
  refine lv_iload_n hx hb dX5_isWithin_0 rfl (lv_at hl 0 rfl) ?_
  refine lv_iload_n hx hb dX5_isWithin_1 rfl (lv_at hl 1 rfl) ?_
  refine lv_icmp_lt (tgt := 14) hx hb dX5_isWithin_2 (by decide) (fun c1 => ?_) (fun c1 => ?_)
  · refine lv_iconst (v := nI 0) hx hb dX5_isWithin_14 (by decide) ?_
    exact W.zret (v := nI 0) (ty := .boolean) hx hb hr (by decide) (fun t9 ht9 hW9 => ⟨_, rfl, (if_neg (fun h => qm_lt_nle c1 h.1)).symm, ht9⟩) (fun q h => absurd h List.not_mem_nil) dX5_isWithin_15
  · refine lv_iload_n hx hb dX5_isWithin_5 rfl (lv_at hl 0 rfl) ?_
    refine lv_iload_n hx hb dX5_isWithin_6 rfl (lv_at hl 2 rfl) ?_
    refine lv_icmp_gt (tgt := 14) hx hb dX5_isWithin_7 (by decide) (fun c2 => ?_) (fun c2 => ?_)
    · refine lv_iconst (v := nI 0) hx hb dX5_isWithin_14 (by decide) ?_
      exact W.zret (v := nI 0) (ty := .boolean) hx hb hr (by decide) (fun t9 ht9 hW9 => ⟨_, rfl, (if_neg (fun h => qm_lt_nle c2 h.2)).symm, ht9⟩) (fun q h => absurd h List.not_mem_nil) dX5_isWithin_15
    · refine lv_iconst (v := nI 1) hx hb dX5_isWithin_10 (by decide) ?_
      refine lv_goto (tgt := 15) hx hb dX5_isWithin_11 (by decide) ?_
      exact W.zret (v := nI 1) (ty := .boolean) hx hb hr (by decide) (fun t9 ht9 hW9 => ⟨_, rfl, (if_pos ⟨qm_nlt c1, qm_nlt c2⟩).symm, ht9⟩) (fun q h => absurd h List.not_mem_nil) dX5_isWithin_15

set_option maxHeartbeats 4000000 in
set_option maxRecDepth 100000 in
/-- Sorted.size -/
theorem qc_S_size (l : Launch) (G : qG) (h0 : Nat) (q0 : Nat) (n : Nat)  : Met l yX3_size wsX3_size ({ frames := 0, cells := 0, slots := 0, locals := 0 } : Room) (va_Pc [.ref h0] (qk_pre G vwCl [(h0, .inr (3, [.ref q0, .int (nI n)]))])) (vp_Si (fun r => r = nI n)) 0 0 (fun _ => False) := by
  refine Met.ofW (cc := cX3_size) (maxL := 1) (ret := (some .int)) (by decide) rfl ?_
  intro p e s m args below meth c s₁ B hml hv
  obtain ⟨rfl, hP, hK, hN⟩ := hv
  have hx := B.exec
  have hb := B.bytes
  have hr := B.returns
  have hlocks := B.notSynchronized
  have hts := atoms_spec (ws := wsX3_size) B.pre
  have htb := fun (w : Cond) (h : w ∈ qTb) => hts w (List.mem_cons_of_mem _ h)
  have hown : s.vm.findClass "GradeRows$Sorted" = some m.cls := findClass_of_methodNamed B.named
  have hP : va_P G.1 vwCl [(h0, .inr (3, [.ref q0, .int (nI n)]))] s.heap := hP
  have hl := lv_entry ([.ref h0]) (n := 1) (Nat.le_of_ble_eq_true rfl)
  rw [lg_entry_eq]
  generalize (lg_sl ([.ref h0]) ++ List.replicate (1 - (lg_sl ([.ref h0])).length) Slot.unset).toArray = ls at hl ⊢
  have hl : lv_has ls 1 [(0, .ref h0)] := hl
  refine lv_aload_n hx hb dX3_size_0 rfl (lv_at hl 0 rfl) ?_
  refine va_get (D := G.1) (ci := 3) (v := .int (nI n)) (C := "GradeRows$Sorted") (T := TX3) (N := 2) hx hb htb inX3 hown hK hP 0 rfl rfl 1 (by decide) (htb _ qw_68) (fun _ h9 => h9) rfl dX3_size_1 ?_
  exact W.iret (v := nI n) hx hb hr (fun t9 ht9 hW9 => ⟨_, rfl, rfl, ht9⟩) (fun q h => absurd h List.not_mem_nil) dX3_size_4

set_option maxHeartbeats 4000000 in
set_option maxRecDepth 100000 in
/-- Sorted(items, size) -/
theorem qc_S_init (l : Launch) (G : qG) (h0 : Nat) (q0 : Nat) (n : Nat) (sz : Nat)  : Met l yX3_init wsX3_init ({ frames := 1, cells := 0, slots := 0, locals := 20 } : Room) (va_Pc [.ref h0, .ref q0, .int (nI n)] (qk_prw G vwCl [(h0, .inr (3, [.null, .int 0]))] sz)) (va_Qv (fun (_ : Unit) => True) (qk_B G vwCl (va_A [(h0, .inr (3, [.null, .int 0]))] sz) (fun (_ : Unit) => [(h0, .inr (3, [.ref q0, .int (nI n)]))])) (va_A [(h0, .inr (3, [.null, .int 0]))] sz)) 0 0 (va_A [(h0, .inr (3, [.null, .int 0]))] sz) := by
  refine Met.ofW (cc := cX3_init) (maxL := 3) (ret := none) (by decide) rfl ?_
  intro p e s m args below meth c s₁ B hml hv
  obtain ⟨rfl, hsz, hP, hK, hD0, hN⟩ := hv
  have hx := B.exec
  have hb := B.bytes
  have hr := B.returns
  have hlocks := B.notSynchronized
  have hts := atoms_spec (ws := wsX3_init) B.pre
  have htb := fun (w : Cond) (h : w ∈ qTb) => hts w (List.mem_cons_of_mem _ h)
  have hown : s.vm.findClass "GradeRows$Sorted" = some m.cls := findClass_of_methodNamed B.named
  have hin : meth.name = "<init>" := (name_of_methodNamed B.named B.method).1
  subst hsz
  have hD := hD0.self (sz := s.heap.size)
  generalize hAe : va_A [(h0, .inr (3, [.null, .int 0]))] s.heap.size = A at hD ⊢
  have hA : ∀ q : Nat, s.heap.size ≤ q → A q := fun q h => by rw [← hAe]; exact Or.inr h
  have hS : va_S A s.heap s.heap [] := va_S.rf
  have hP : va_P G.1 vwCl [(h0, .inr (3, [.null, .int 0]))] s.heap := hP
  have hl := lv_entry ([.ref h0, .ref q0, .int (nI n)]) (n := 3) (Nat.le_of_ble_eq_true rfl)
  rw [lg_entry_eq]
  generalize (lg_sl ([.ref h0, .ref q0, .int (nI n)]) ++ List.replicate (3 - (lg_sl ([.ref h0, .ref q0, .int (nI n)])).length) Slot.unset).toArray = ls at hl ⊢
  have hl : lv_has ls 3 [(0, .ref h0), (1, .ref q0), (2, .int (nI n))] := hl
  refine lv_aload_n hx hb dX3_init_0 rfl (lv_at hl 0 rfl) ?_
  refine W.objInit hx hb hown (htb _ qw_66) (htb _ qw_29) (htb _ qw_30) rfl (by rw [hml]; exact hl.1) rfl dX3_init_1 (Nat.le_of_ble_eq_true rfl) (Nat.le_of_ble_eq_true rfl) ?_
  refine W.eq (g2 := F0 m 4 ls []) rfl ?_
  refine lv_aload_n hx hb dX3_init_4 rfl (lv_at hl 0 rfl) ?_
  refine lv_aload_n hx hb dX3_init_5 rfl (lv_at hl 1 rfl) ?_
  refine va_putF (D := G.1) (ci := 3) (v := .ref q0) (ty := .array .int) (C := "GradeRows$Sorted") (T := TX3) (N := 2) hx hb htb inX3 tyX3 tyX3_ok nmX3 hown hK hP hD hS 0 rfl rfl 0 (by decide) (htb _ qw_67) (fun _ h9 => h9) rfl hin rfl (by decide +kernel) rfl rfl (Nat.le_of_ble_eq_true rfl) dX3_init_6 (fun H locs hP hD hS => ?_)
  have hP : va_P G.1 vwCl [(h0, .inr (3, [.ref q0, .int 0]))] H := hP
  have hD : va_D A [(h0, .inr (3, [.ref q0, .int 0]))] := hD
  refine lv_aload_n hx hb dX3_init_9 rfl (lv_at hl 0 rfl) ?_
  refine lv_iload_n hx hb dX3_init_10 rfl (lv_at hl 2 rfl) ?_
  refine va_put (D := G.1) (ci := 3) (v := .int (nI n)) (ty := .int) (C := "GradeRows$Sorted") (T := TX3) (N := 2) hx hb htb inX3 tyX3 tyX3_ok nmX3 hown hK hP hD hS 0 rfl rfl 1 (by decide) (htb _ qw_68) (fun _ h9 => h9) rfl (by decide +kernel) rfl rfl (Nat.le_of_ble_eq_true rfl) dX3_init_11 (fun H locs hP hD hS => ?_)
  have hP : va_P G.1 vwCl [(h0, .inr (3, [.ref q0, .int (nI n)]))] H := hP
  have hD : va_D A [(h0, .inr (3, [.ref q0, .int (nI n)]))] := hD
  have hP9 := hP.sub (ws' := [(h0, .inr (3, [.ref q0, .int (nI n)]))]) [0] rfl
  have hD9 := hD.sub (ws' := [(h0, .inr (3, [.ref q0, .int (nI n)]))]) [0] (by decide) rfl
  exact W.vret hx hb hr (fun t9 ht9 hW9 => ⟨⟨(), rfl, trivial, by rw [ht9]; exact hP9, va_K.moved hW9.alike hK, hD9⟩, hS.F ht9⟩) hS.2.2 dX3_init_14

set_option maxHeartbeats 4000000 in
set_option maxRecDepth 100000 in
/-- Sorted.put -/
theorem qc_S_put (l : Launch) (G : qG) (h0 : Nat) (q0 : Nat) (n : Nat) (f : Nat → Int32) (x : Int32) (sz : Nat) (hn : n < 200) : Met l yX3_put wsX3_put ({ frames := 0, cells := 0, slots := 0, locals := 0 } : Room) (va_Pc [.ref h0, .int x] (qk_prw G vwCl [(h0, .inr (3, [.ref q0, .int (nI n)])), (q0, .inl (G.2.1, 200, .inl f))] sz)) (va_Qv (fun (u : Nat → Int32) => qm_ins f n x u) (qk_B G vwCl (va_A [(h0, .inr (3, [.ref q0, .int (nI n)])), (q0, .inl (G.2.1, 200, .inl f))] sz) (fun (u : Nat → Int32) => [(h0, .inr (3, [.ref q0, .int (nI (n + 1))])), (q0, .inl (G.2.1, 200, .inl u))])) (va_A [(h0, .inr (3, [.ref q0, .int (nI n)])), (q0, .inl (G.2.1, 200, .inl f))] sz)) 0 0 (va_A [(h0, .inr (3, [.ref q0, .int (nI n)])), (q0, .inl (G.2.1, 200, .inl f))] sz) := by
  refine Met.ofW (cc := cX3_put) (maxL := 3) (ret := none) (by decide) rfl ?_
  intro p e s m args below meth c s₁ B hml hv
  obtain ⟨rfl, hsz, hP, hK, hD0, hN⟩ := hv
  have hx := B.exec
  have hb := B.bytes
  have hr := B.returns
  have hlocks := B.notSynchronized
  have hts := atoms_spec (ws := wsX3_put) B.pre
  have htb := fun (w : Cond) (h : w ∈ qTb) => hts w (List.mem_cons_of_mem _ h)
  have hown : s.vm.findClass "GradeRows$Sorted" = some m.cls := findClass_of_methodNamed B.named
  subst hsz
  have hD := hD0.self (sz := s.heap.size)
  generalize hAe : va_A [(h0, .inr (3, [.ref q0, .int (nI n)])), (q0, .inl (G.2.1, 200, .inl f))] s.heap.size = A at hD ⊢
  have hA : ∀ q : Nat, s.heap.size ≤ q → A q := fun q h => by rw [← hAe]; exact Or.inr h
  have hS : va_S A s.heap s.heap [] := va_S.rf
  have hP : va_P G.1 vwCl [(h0, .inr (3, [.ref q0, .int (nI n)])), (q0, .inl (G.2.1, 200, .inl f))] s.heap := hP
  have hl := lv_entry ([.ref h0, .int x]) (n := 3) (Nat.le_of_ble_eq_true rfl)
  rw [lg_entry_eq]
  generalize (lg_sl ([.ref h0, .int x]) ++ List.replicate (3 - (lg_sl ([.ref h0, .int x])).length) Slot.unset).toArray = ls at hl ⊢
  have hl : lv_has ls 3 [(0, .ref h0), (1, .int x)] := hl
  refine lv_aload_n hx hb dX3_put_0 rfl (lv_at hl 0 rfl) ?_
  refine va_get (D := G.1) (ci := 3) (v := .int (nI n)) (C := "GradeRows$Sorted") (T := TX3) (N := 2) hx hb htb inX3 hown hK hP 0 rfl rfl 1 (by decide) (htb _ qw_68) (fun _ h9 => h9) rfl dX3_put_1 ?_
  refine lv_aload_n hx hb dX3_put_4 rfl (lv_at hl 0 rfl) ?_
  refine va_get (D := G.1) (ci := 3) (v := .ref q0) (C := "GradeRows$Sorted") (T := TX3) (N := 2) hx hb htb inX3 hown hK hP 0 rfl rfl 0 (by decide) (htb _ qw_67) (fun _ h9 => h9) rfl dX3_put_5 ?_
  refine va_alen (v := nI 200) hx hb hK hP 1 0 rfl rfl rfl dX3_put_8 ?_
  refine lv_icmp_lt (tgt := 13) hx hb dX3_put_9 (by decide) (fun c_1 => ?_) (fun c_1 => ?_)
  · have c_1 : n < 200 := (nI_ltI (by omega) (by omega)).mp c_1
    refine lv_aload_n hx hb dX3_put_13 rfl (lv_at hl 0 rfl) ?_
    refine va_get (D := G.1) (ci := 3) (v := .int (nI n)) (C := "GradeRows$Sorted") (T := TX3) (N := 2) hx hb htb inX3 hown hK hP 0 rfl rfl 1 (by decide) (htb _ qw_68) (fun _ h9 => h9) rfl dX3_put_14 ?_
    refine lv_istore_n (lv' := [(2, .int (nI n)), (0, .ref h0), (1, .int x)]) hx hb dX3_put_17 rfl hl (by decide) rfl (fun ls hl => ?_)
    have loop_18 : ∀ (N : Nat) (j : Nat) (g : Nat → Int32) (H : Heap) (locs : List Loc) (ls : Array Slot), j < N → (j ≤ n) → (∀ k, k < j → g k = f k) → (∀ k, j ≤ k → k < n → g (k + 1) = f k) → (j < n → x ≤ f j) → va_P G.1 vwCl [(h0, .inr (3, [.ref q0, .int (nI n)])), (q0, .inl (G.2.1, 200, .inl g))] H → va_D A [(h0, .inr (3, [.ref q0, .int (nI n)])), (q0, .inl (G.2.1, 200, .inl g))] → va_S A s.heap H locs → lv_has ls 3 [(2, .int (nI j)), (0, .ref h0), (1, .int x)] → W p l e (headSpec wsX3_put ({ frames := 0, cells := 0, slots := 0, locals := 0 } : Room)).room s m ([.ref h0, .int x] : List Value).toArray below meth c H locs 0 0 (MQ below (va_Qv (fun (u : Nat → Int32) => qm_ins f n x u) (qk_B G vwCl A (fun (u : Nat → Int32) => [(h0, .inr (3, [.ref q0, .int (nI (n + 1))])), (q0, .inl (G.2.1, 200, .inl u))])) A) ([.ref h0, .int x] : List Value).toArray s 0 0 A) (F0 m 18 ls []) := by
      intro N
      induction N with
      | zero => intro j g H locs ls hm; exact absurd hm (Nat.not_lt_zero _)
      | succ N ih_18 =>
        intro j g H locs ls hm hj h1 h3 h5 hP hD hS hl
        refine lv_iload_n hx hb dX3_put_18 rfl (lv_at hl 0 rfl) ?_
        refine lv_if_le (tgt := 54) hx hb dX3_put_19 (by decide) (fun c_2 => ?_) (fun c_2 => ?_)
        · have c_2 : j ≤ 0 := (z0le (by omega)).mp c_2
          refine lv_aload_n hx hb dX3_put_54 rfl (lv_at hl 1 rfl) ?_
          refine va_get (D := G.1) (ci := 3) (v := .ref q0) (C := "GradeRows$Sorted") (T := TX3) (N := 2) hx hb htb inX3 hown hK hP 0 rfl rfl 0 (by decide) (htb _ qw_67) (fun _ h9 => h9) rfl dX3_put_55 ?_
          refine lv_iload_n hx hb dX3_put_58 rfl (lv_at hl 0 rfl) ?_
          refine lv_iload_n hx hb dX3_put_59 rfl (lv_at hl 2 rfl) ?_
          refine qk_iast hx hb hK hP hD hS 1 0 rfl rfl (i := j) (by omega) (by omega) dX3_put_60 (fun H locs hP hD hS => ?_)
          have hP : va_P G.1 vwCl [(h0, .inr (3, [.ref q0, .int (nI n)])), (q0, .inl (G.2.1, 200, .inl (upd g j x)))] H := hP
          have hD : va_D A [(h0, .inr (3, [.ref q0, .int (nI n)])), (q0, .inl (G.2.1, 200, .inl (upd g j x)))] := hD
          refine lv_aload_n hx hb dX3_put_61 rfl (lv_at hl 1 rfl) ?_
          refine lv_dup hx hb dX3_put_62 rfl ?_
          refine va_get (D := G.1) (ci := 3) (v := .int (nI n)) (C := "GradeRows$Sorted") (T := TX3) (N := 2) hx hb htb inX3 hown hK hP 0 rfl rfl 1 (by decide) (htb _ qw_68) (fun _ h9 => h9) rfl dX3_put_63 ?_
          refine lv_iconst (v := nI 1) hx hb dX3_put_66 (by decide) ?_
          refine lv_iadd hx hb dX3_put_67 ?_
          refine qk_topi (t := nI (n + 1)) ((nI_add _ _).trans rfl) ?_
          refine va_put (D := G.1) (ci := 3) (v := .int (nI (n + 1))) (ty := .int) (C := "GradeRows$Sorted") (T := TX3) (N := 2) hx hb htb inX3 tyX3 tyX3_ok nmX3 hown hK hP hD hS 0 rfl rfl 1 (by decide) (htb _ qw_68) (fun _ h9 => h9) rfl (by decide +kernel) rfl rfl (Nat.le_of_ble_eq_true rfl) dX3_put_68 (fun H locs hP hD hS => ?_)
          have hP : va_P G.1 vwCl [(h0, .inr (3, [.ref q0, .int (nI (n + 1))])), (q0, .inl (G.2.1, 200, .inl (upd g j x)))] H := hP
          have hD : va_D A [(h0, .inr (3, [.ref q0, .int (nI (n + 1))])), (q0, .inl (G.2.1, 200, .inl (upd g j x)))] := hD
          have hP9 := hP.sub (ws' := [(h0, .inr (3, [.ref q0, .int (nI (n + 1))])), (q0, .inl (G.2.1, 200, .inl (upd g j x)))]) [0, 1] rfl
          have hD9 := hD.sub (ws' := [(h0, .inr (3, [.ref q0, .int (nI (n + 1))])), (q0, .inl (G.2.1, 200, .inl (upd g j x)))]) [0, 1] (by decide) rfl
          exact W.vret hx hb hr (fun t9 ht9 hW9 => ⟨⟨(upd g j x), rfl, ⟨j, hj, fun k hk => (pk_un (by omega)).trans (h1 k hk), pk_us, fun k a b => (pk_un (by omega)).trans (h3 k a b), by first | (intro a; omega) | (intro a; exact cle), h5⟩, by rw [ht9]; exact hP9, va_K.moved hW9.alike hK, hD9⟩, hS.F ht9⟩) hS.2.2 dX3_put_71
        · have c_2 : ¬ (j ≤ 0) := fun q9 => c_2 ((z0le (by omega)).mpr q9)
          refine lv_aload_n hx hb dX3_put_22 rfl (lv_at hl 1 rfl) ?_
          refine va_get (D := G.1) (ci := 3) (v := .ref q0) (C := "GradeRows$Sorted") (T := TX3) (N := 2) hx hb htb inX3 hown hK hP 0 rfl rfl 0 (by decide) (htb _ qw_67) (fun _ h9 => h9) rfl dX3_put_23 ?_
          refine lv_iload_n hx hb dX3_put_26 rfl (lv_at hl 0 rfl) ?_
          refine lv_iconst (v := nI 1) hx hb dX3_put_27 (by decide) ?_
          refine lv_isub hx hb dX3_put_28 ?_
          refine qk_topi (t := nI (j - 1)) (pk_sub (by omega)) ?_
          refine qk_iald hx hb hK hP 1 0 rfl rfl (i := (j - 1)) (by omega) (by omega) (v := f (j - 1)) (h1 _ (by omega)) dX3_put_29 ?_
          refine lv_iload_n hx hb dX3_put_30 rfl (lv_at hl 2 rfl) ?_
          refine lv_icmp_le (tgt := 54) hx hb dX3_put_31 (by decide) (fun cle => ?_) (fun cle => ?_)
          · refine lv_aload_n hx hb dX3_put_54 rfl (lv_at hl 1 rfl) ?_
            refine va_get (D := G.1) (ci := 3) (v := .ref q0) (C := "GradeRows$Sorted") (T := TX3) (N := 2) hx hb htb inX3 hown hK hP 0 rfl rfl 0 (by decide) (htb _ qw_67) (fun _ h9 => h9) rfl dX3_put_55 ?_
            refine lv_iload_n hx hb dX3_put_58 rfl (lv_at hl 0 rfl) ?_
            refine lv_iload_n hx hb dX3_put_59 rfl (lv_at hl 2 rfl) ?_
            refine qk_iast hx hb hK hP hD hS 1 0 rfl rfl (i := j) (by omega) (by omega) dX3_put_60 (fun H locs hP hD hS => ?_)
            have hP : va_P G.1 vwCl [(h0, .inr (3, [.ref q0, .int (nI n)])), (q0, .inl (G.2.1, 200, .inl (upd g j x)))] H := hP
            have hD : va_D A [(h0, .inr (3, [.ref q0, .int (nI n)])), (q0, .inl (G.2.1, 200, .inl (upd g j x)))] := hD
            refine lv_aload_n hx hb dX3_put_61 rfl (lv_at hl 1 rfl) ?_
            refine lv_dup hx hb dX3_put_62 rfl ?_
            refine va_get (D := G.1) (ci := 3) (v := .int (nI n)) (C := "GradeRows$Sorted") (T := TX3) (N := 2) hx hb htb inX3 hown hK hP 0 rfl rfl 1 (by decide) (htb _ qw_68) (fun _ h9 => h9) rfl dX3_put_63 ?_
            refine lv_iconst (v := nI 1) hx hb dX3_put_66 (by decide) ?_
            refine lv_iadd hx hb dX3_put_67 ?_
            refine qk_topi (t := nI (n + 1)) ((nI_add _ _).trans rfl) ?_
            refine va_put (D := G.1) (ci := 3) (v := .int (nI (n + 1))) (ty := .int) (C := "GradeRows$Sorted") (T := TX3) (N := 2) hx hb htb inX3 tyX3 tyX3_ok nmX3 hown hK hP hD hS 0 rfl rfl 1 (by decide) (htb _ qw_68) (fun _ h9 => h9) rfl (by decide +kernel) rfl rfl (Nat.le_of_ble_eq_true rfl) dX3_put_68 (fun H locs hP hD hS => ?_)
            have hP : va_P G.1 vwCl [(h0, .inr (3, [.ref q0, .int (nI (n + 1))])), (q0, .inl (G.2.1, 200, .inl (upd g j x)))] H := hP
            have hD : va_D A [(h0, .inr (3, [.ref q0, .int (nI (n + 1))])), (q0, .inl (G.2.1, 200, .inl (upd g j x)))] := hD
            have hP9 := hP.sub (ws' := [(h0, .inr (3, [.ref q0, .int (nI (n + 1))])), (q0, .inl (G.2.1, 200, .inl (upd g j x)))]) [0, 1] rfl
            have hD9 := hD.sub (ws' := [(h0, .inr (3, [.ref q0, .int (nI (n + 1))])), (q0, .inl (G.2.1, 200, .inl (upd g j x)))]) [0, 1] (by decide) rfl
            exact W.vret hx hb hr (fun t9 ht9 hW9 => ⟨⟨(upd g j x), rfl, ⟨j, hj, fun k hk => (pk_un (by omega)).trans (h1 k hk), pk_us, fun k a b => (pk_un (by omega)).trans (h3 k a b), by first | (intro a; omega) | (intro a; exact cle), h5⟩, by rw [ht9]; exact hP9, va_K.moved hW9.alike hK, hD9⟩, hS.F ht9⟩) hS.2.2 dX3_put_71
          · refine lv_aload_n hx hb dX3_put_34 rfl (lv_at hl 1 rfl) ?_
            refine va_get (D := G.1) (ci := 3) (v := .ref q0) (C := "GradeRows$Sorted") (T := TX3) (N := 2) hx hb htb inX3 hown hK hP 0 rfl rfl 0 (by decide) (htb _ qw_67) (fun _ h9 => h9) rfl dX3_put_35 ?_
            refine lv_iload_n hx hb dX3_put_38 rfl (lv_at hl 0 rfl) ?_
            refine lv_aload_n hx hb dX3_put_39 rfl (lv_at hl 1 rfl) ?_
            refine va_get (D := G.1) (ci := 3) (v := .ref q0) (C := "GradeRows$Sorted") (T := TX3) (N := 2) hx hb htb inX3 hown hK hP 0 rfl rfl 0 (by decide) (htb _ qw_67) (fun _ h9 => h9) rfl dX3_put_40 ?_
            refine lv_iload_n hx hb dX3_put_43 rfl (lv_at hl 0 rfl) ?_
            refine lv_iconst (v := nI 1) hx hb dX3_put_44 (by decide) ?_
            refine lv_isub hx hb dX3_put_45 ?_
            refine qk_topi (t := nI (j - 1)) (pk_sub (by omega)) ?_
            refine qk_iald hx hb hK hP 1 0 rfl rfl (i := (j - 1)) (by omega) (by omega) (v := f (j - 1)) (h1 _ (by omega)) dX3_put_46 ?_
            refine qk_iast hx hb hK hP hD hS 1 0 rfl rfl (i := j) (by omega) (by omega) dX3_put_47 (fun H locs hP hD hS => ?_)
            have hP : va_P G.1 vwCl [(h0, .inr (3, [.ref q0, .int (nI n)])), (q0, .inl (G.2.1, 200, .inl (upd g j (f (j - 1)))))] H := hP
            have hD : va_D A [(h0, .inr (3, [.ref q0, .int (nI n)])), (q0, .inl (G.2.1, 200, .inl (upd g j (f (j - 1)))))] := hD
            refine lv_iinc (v := nI (j - 1)) (lv' := [(2, .int (nI (j - 1))), (0, .ref h0), (1, .int x)]) hx hb dX3_put_48 hl (k := 0) rfl (sb_m1 (p := j) (by omega)) (by decide) rfl (fun ls hl => ?_)
            refine lv_goto (tgt := 18) hx hb dX3_put_51 (by decide) ?_
            exact ih_18 (j - 1) (upd g j (f (j - 1))) _ _ ls (by omega) (by omega) (fun k hk => (pk_un (by omega)).trans (h1 k (by omega))) (fun k a b => by
                          rcases Nat.lt_or_ge k j with z | z
                          · rw [show k + 1 = j by omega, pk_us, show k = j - 1 by omega]
                          · rw [pk_un (by omega)]; exact h3 k z b) (fun _ => qm_lt_le (qm_nle cle)) hP hD hS (lv_sub hl [0, 1, 2] rfl)
    exact loop_18 (n + 1) n f _ _ ls (by omega) (Nat.le_refl n) (fun _ _ => rfl) (fun k a b => absurd b (by omega)) (fun a => absurd a (by omega)) hP hD hS (lv_sub hl [0, 1, 2] rfl)
  · have c_1 : ¬ (n < 200) := fun q9 => c_1 ((nI_ltI (by omega) (by omega)).mpr q9)
    exfalso; omega

set_option maxHeartbeats 4000000 in
set_option maxRecDepth 100000 in
/-- Sorted.take -/
theorem qc_S_take (l : Launch) (G : qG) (h0 : Nat) (q0 : Nat) (n : Nat) (f : Nat → Int32) (x : Int32) (sz : Nat) (hn : n < 200) (hf : ∃ k, k < n + 1 ∧ f k = x) : Met l yX3_take wsX3_take ({ frames := 0, cells := 0, slots := 0, locals := 0 } : Room) (va_Pc [.ref h0, .int x] (qk_prw G vwCl [(h0, .inr (3, [.ref q0, .int (nI (n + 1))])), (q0, .inl (G.2.1, 200, .inl f))] sz)) (va_Qv (fun (u : Nat → Int32) => qm_del f n x u) (qk_B G vwCl (va_A [(h0, .inr (3, [.ref q0, .int (nI (n + 1))])), (q0, .inl (G.2.1, 200, .inl f))] sz) (fun (u : Nat → Int32) => [(h0, .inr (3, [.ref q0, .int (nI n)])), (q0, .inl (G.2.1, 200, .inl u))])) (va_A [(h0, .inr (3, [.ref q0, .int (nI (n + 1))])), (q0, .inl (G.2.1, 200, .inl f))] sz)) 0 0 (va_A [(h0, .inr (3, [.ref q0, .int (nI (n + 1))])), (q0, .inl (G.2.1, 200, .inl f))] sz) := by
  refine Met.ofW (cc := cX3_take) (maxL := 4) (ret := none) (by decide) rfl ?_
  intro p e s m args below meth c s₁ B hml hv
  obtain ⟨rfl, hsz, hP, hK, hD0, hN⟩ := hv
  have hx := B.exec
  have hb := B.bytes
  have hr := B.returns
  have hlocks := B.notSynchronized
  have hts := atoms_spec (ws := wsX3_take) B.pre
  have htb := fun (w : Cond) (h : w ∈ qTb) => hts w (List.mem_cons_of_mem _ h)
  have hown : s.vm.findClass "GradeRows$Sorted" = some m.cls := findClass_of_methodNamed B.named
  subst hsz
  have hD := hD0.self (sz := s.heap.size)
  generalize hAe : va_A [(h0, .inr (3, [.ref q0, .int (nI (n + 1))])), (q0, .inl (G.2.1, 200, .inl f))] s.heap.size = A at hD ⊢
  have hA : ∀ q : Nat, s.heap.size ≤ q → A q := fun q h => by rw [← hAe]; exact Or.inr h
  have hS : va_S A s.heap s.heap [] := va_S.rf
  have hP : va_P G.1 vwCl [(h0, .inr (3, [.ref q0, .int (nI (n + 1))])), (q0, .inl (G.2.1, 200, .inl f))] s.heap := hP
  have hl := lv_entry ([.ref h0, .int x]) (n := 4) (Nat.le_of_ble_eq_true rfl)
  rw [lg_entry_eq]
  generalize (lg_sl ([.ref h0, .int x]) ++ List.replicate (4 - (lg_sl ([.ref h0, .int x])).length) Slot.unset).toArray = ls at hl ⊢
  have hl : lv_has ls 4 [(0, .ref h0), (1, .int x)] := hl
  refine lv_iconst (v := nI 0) hx hb dX3_take_0 (by decide) ?_
  refine lv_istore_n (lv' := [(2, .int (nI 0)), (0, .ref h0), (1, .int x)]) hx hb dX3_take_1 rfl hl (by decide) rfl (fun ls hl => ?_)
  have loop_2 : ∀ (N : Nat) (j : Nat) (H : Heap) (locs : List Loc) (ls : Array Slot), n + 1 - j < N → (j ≤ n) → (∀ k, k < j → ¬ f k = x) → va_P G.1 vwCl [(h0, .inr (3, [.ref q0, .int (nI (n + 1))])), (q0, .inl (G.2.1, 200, .inl f))] H → va_D A [(h0, .inr (3, [.ref q0, .int (nI (n + 1))])), (q0, .inl (G.2.1, 200, .inl f))] → va_S A s.heap H locs → lv_has ls 4 [(2, .int (nI j)), (0, .ref h0), (1, .int x)] → W p l e (headSpec wsX3_take ({ frames := 0, cells := 0, slots := 0, locals := 0 } : Room)).room s m ([.ref h0, .int x] : List Value).toArray below meth c H locs 0 0 (MQ below (va_Qv (fun (u : Nat → Int32) => qm_del f n x u) (qk_B G vwCl A (fun (u : Nat → Int32) => [(h0, .inr (3, [.ref q0, .int (nI n)])), (q0, .inl (G.2.1, 200, .inl u))])) A) ([.ref h0, .int x] : List Value).toArray s 0 0 A) (F0 m 2 ls []) := by
    intro N
    induction N with
    | zero => intro j H locs ls hm; exact absurd hm (Nat.not_lt_zero _)
    | succ N ih_2 =>
      intro j H locs ls hm hj h1 hP hD hS hl
      refine lv_iload_n hx hb dX3_take_2 rfl (lv_at hl 0 rfl) ?_
      refine lv_aload_n hx hb dX3_take_3 rfl (lv_at hl 1 rfl) ?_
      refine va_get (D := G.1) (ci := 3) (v := .int (nI (n + 1))) (C := "GradeRows$Sorted") (T := TX3) (N := 2) hx hb htb inX3 hown hK hP 0 rfl rfl 1 (by decide) (htb _ qw_68) (fun _ h9 => h9) rfl dX3_take_4 ?_
      refine lv_icmp_ge (tgt := 26) hx hb dX3_take_7 (by decide) (fun c_1 => ?_) (fun c_1 => ?_)
      · have c_1 : (n + 1) ≤ j := (nI_leI (by omega) (by omega)).mp c_1
        exfalso; omega
      · have c_1 : ¬ ((n + 1) ≤ j) := fun q9 => c_1 ((nI_leI (by omega) (by omega)).mpr q9)
        refine lv_aload_n hx hb dX3_take_10 rfl (lv_at hl 1 rfl) ?_
        refine va_get (D := G.1) (ci := 3) (v := .ref q0) (C := "GradeRows$Sorted") (T := TX3) (N := 2) hx hb htb inX3 hown hK hP 0 rfl rfl 0 (by decide) (htb _ qw_67) (fun _ h9 => h9) rfl dX3_take_11 ?_
        refine lv_iload_n hx hb dX3_take_14 rfl (lv_at hl 0 rfl) ?_
        refine qk_iald hx hb hK hP 1 0 rfl rfl (i := j) (by omega) (by omega) (v := f j) rfl dX3_take_15 ?_
        refine lv_iload_n hx hb dX3_take_16 rfl (lv_at hl 2 rfl) ?_
        refine lv_icmp_eq (tgt := 26) hx hb dX3_take_17 (by decide) (fun cj => ?_) (fun cj => ?_)
        · refine lv_iload_n hx hb dX3_take_26 rfl (lv_at hl 0 rfl) ?_
          refine lv_aload_n hx hb dX3_take_27 rfl (lv_at hl 1 rfl) ?_
          refine va_get (D := G.1) (ci := 3) (v := .int (nI (n + 1))) (C := "GradeRows$Sorted") (T := TX3) (N := 2) hx hb htb inX3 hown hK hP 0 rfl rfl 1 (by decide) (htb _ qw_68) (fun _ h9 => h9) rfl dX3_take_28 ?_
          refine lv_icmp_lt (tgt := 35) hx hb dX3_take_31 (by decide) (fun c_3 => ?_) (fun c_3 => ?_)
          · have c_3 : j < (n + 1) := (nI_ltI (by omega) (by omega)).mp c_3
            refine lv_iload_n hx hb dX3_take_35 rfl (lv_at hl 0 rfl) ?_
            refine lv_iconst (v := nI 1) hx hb dX3_take_36 (by decide) ?_
            refine lv_iadd hx hb dX3_take_37 ?_
            refine qk_topi (t := nI (j + 1)) ((nI_add _ _).trans rfl) ?_
            refine lv_istore_n (lv' := [(3, .int (nI (j + 1))), (2, .int (nI j)), (0, .ref h0), (1, .int x)]) hx hb dX3_take_38 rfl hl (by decide) rfl (fun ls hl => ?_)
            have loop_39 : ∀ (N : Nat) (i : Nat) (g : Nat → Int32) (H : Heap) (locs : List Loc) (ls : Array Slot), n + 1 - i < N → (j + 1 ≤ i ∧ i ≤ n + 1) → (∀ k, k < j → g k = f k) → (∀ k, j ≤ k → k < i - 1 → g k = f (k + 1)) → (∀ k, i - 1 ≤ k → g k = f k) → va_P G.1 vwCl [(h0, .inr (3, [.ref q0, .int (nI (n + 1))])), (q0, .inl (G.2.1, 200, .inl g))] H → va_D A [(h0, .inr (3, [.ref q0, .int (nI (n + 1))])), (q0, .inl (G.2.1, 200, .inl g))] → va_S A s.heap H locs → lv_has ls 4 [(3, .int (nI i)), (2, .int (nI j)), (0, .ref h0), (1, .int x)] → W p l e (headSpec wsX3_take ({ frames := 0, cells := 0, slots := 0, locals := 0 } : Room)).room s m ([.ref h0, .int x] : List Value).toArray below meth c H locs 0 0 (MQ below (va_Qv (fun (u : Nat → Int32) => qm_del f n x u) (qk_B G vwCl A (fun (u : Nat → Int32) => [(h0, .inr (3, [.ref q0, .int (nI n)])), (q0, .inl (G.2.1, 200, .inl u))])) A) ([.ref h0, .int x] : List Value).toArray s 0 0 A) (F0 m 39 ls []) := by
              intro N
              induction N with
              | zero => intro i g H locs ls hm; exact absurd hm (Nat.not_lt_zero _)
              | succ N ih_39 =>
                intro i g H locs ls hm hi hg1 hg2 hg3 hP hD hS hl
                refine lv_iload_n hx hb dX3_take_39 rfl (lv_at hl 0 rfl) ?_
                refine lv_aload_n hx hb dX3_take_40 rfl (lv_at hl 2 rfl) ?_
                refine va_get (D := G.1) (ci := 3) (v := .int (nI (n + 1))) (C := "GradeRows$Sorted") (T := TX3) (N := 2) hx hb htb inX3 hown hK hP 0 rfl rfl 1 (by decide) (htb _ qw_68) (fun _ h9 => h9) rfl dX3_take_41 ?_
                refine lv_icmp_ge (tgt := 67) hx hb dX3_take_44 (by decide) (fun c_4 => ?_) (fun c_4 => ?_)
                · have c_4 : (n + 1) ≤ i := (nI_leI (by omega) (by omega)).mp c_4
                  refine lv_aload_n hx hb dX3_take_67 rfl (lv_at hl 2 rfl) ?_
                  refine lv_dup hx hb dX3_take_68 rfl ?_
                  refine va_get (D := G.1) (ci := 3) (v := .int (nI (n + 1))) (C := "GradeRows$Sorted") (T := TX3) (N := 2) hx hb htb inX3 hown hK hP 0 rfl rfl 1 (by decide) (htb _ qw_68) (fun _ h9 => h9) rfl dX3_take_69 ?_
                  refine lv_iconst (v := nI 1) hx hb dX3_take_72 (by decide) ?_
                  refine lv_isub hx hb dX3_take_73 ?_
                  refine qk_topi (t := nI n) (nI_pred n) ?_
                  refine va_put (D := G.1) (ci := 3) (v := .int (nI n)) (ty := .int) (C := "GradeRows$Sorted") (T := TX3) (N := 2) hx hb htb inX3 tyX3 tyX3_ok nmX3 hown hK hP hD hS 0 rfl rfl 1 (by decide) (htb _ qw_68) (fun _ h9 => h9) rfl (by decide +kernel) rfl rfl (Nat.le_of_ble_eq_true rfl) dX3_take_74 (fun H locs hP hD hS => ?_)
                  have hP : va_P G.1 vwCl [(h0, .inr (3, [.ref q0, .int (nI n)])), (q0, .inl (G.2.1, 200, .inl g))] H := hP
                  have hD : va_D A [(h0, .inr (3, [.ref q0, .int (nI n)])), (q0, .inl (G.2.1, 200, .inl g))] := hD
                  have hP9 := hP.sub (ws' := [(h0, .inr (3, [.ref q0, .int (nI n)])), (q0, .inl (G.2.1, 200, .inl g))]) [0, 1] rfl
                  have hD9 := hD.sub (ws' := [(h0, .inr (3, [.ref q0, .int (nI n)])), (q0, .inl (G.2.1, 200, .inl g))]) [0, 1] (by decide) rfl
                  exact W.vret hx hb hr (fun t9 ht9 hW9 => ⟨⟨g, rfl, ⟨j, hj, cj, hg1, fun k a b => hg2 k a (by omega)⟩, by rw [ht9]; exact hP9, va_K.moved hW9.alike hK, hD9⟩, hS.F ht9⟩) hS.2.2 dX3_take_77
                · have c_4 : ¬ ((n + 1) ≤ i) := fun q9 => c_4 ((nI_leI (by omega) (by omega)).mpr q9)
                  refine lv_aload_n hx hb dX3_take_47 rfl (lv_at hl 2 rfl) ?_
                  refine va_get (D := G.1) (ci := 3) (v := .ref q0) (C := "GradeRows$Sorted") (T := TX3) (N := 2) hx hb htb inX3 hown hK hP 0 rfl rfl 0 (by decide) (htb _ qw_67) (fun _ h9 => h9) rfl dX3_take_48 ?_
                  refine lv_iload_n hx hb dX3_take_51 rfl (lv_at hl 0 rfl) ?_
                  refine lv_iconst (v := nI 1) hx hb dX3_take_52 (by decide) ?_
                  refine lv_isub hx hb dX3_take_53 ?_
                  refine qk_topi (t := nI (i - 1)) (pk_sub (by omega)) ?_
                  refine lv_aload_n hx hb dX3_take_54 rfl (lv_at hl 2 rfl) ?_
                  refine va_get (D := G.1) (ci := 3) (v := .ref q0) (C := "GradeRows$Sorted") (T := TX3) (N := 2) hx hb htb inX3 hown hK hP 0 rfl rfl 0 (by decide) (htb _ qw_67) (fun _ h9 => h9) rfl dX3_take_55 ?_
                  refine lv_iload_n hx hb dX3_take_58 rfl (lv_at hl 0 rfl) ?_
                  refine qk_iald hx hb hK hP 1 0 rfl rfl (i := i) (by omega) (by omega) (v := f i) (hg3 i (by omega)) dX3_take_59 ?_
                  refine qk_iast hx hb hK hP hD hS 1 0 rfl rfl (i := (i - 1)) (by omega) (by omega) dX3_take_60 (fun H locs hP hD hS => ?_)
                  have hP : va_P G.1 vwCl [(h0, .inr (3, [.ref q0, .int (nI (n + 1))])), (q0, .inl (G.2.1, 200, .inl (upd g (i - 1) (f i))))] H := hP
                  have hD : va_D A [(h0, .inr (3, [.ref q0, .int (nI (n + 1))])), (q0, .inl (G.2.1, 200, .inl (upd g (i - 1) (f i))))] := hD
                  refine lv_iinc (v := nI (i + 1)) (lv' := [(3, .int (nI (i + 1))), (2, .int (nI j)), (0, .ref h0), (1, .int x)]) hx hb dX3_take_61 hl (k := 0) rfl (nI_1 i) (by decide) rfl (fun ls hl => ?_)
                  refine lv_goto (tgt := 39) hx hb dX3_take_64 (by decide) ?_
                  exact ih_39 (i + 1) (upd g (i - 1) (f i)) _ _ ls (by omega) (⟨by omega, by omega⟩) (fun k hk => (pk_un (by omega)).trans (hg1 k hk)) (fun k a b => by
                                      rcases Nat.lt_or_ge k (i - 1) with z | z
                                      · rw [pk_un (by omega)]; exact hg2 k a z
                                      · rw [show k = i - 1 by omega, pk_us, show i - 1 + 1 = i by omega]) (fun k a => (pk_un (by omega)).trans (hg3 k (by omega))) hP hD hS (lv_sub hl [0, 1, 2, 3] rfl)
            exact loop_39 (n + 1 - (j + 1) + 1) (j + 1) f _ _ ls (by omega) (⟨Nat.le_refl _, by omega⟩) (fun _ _ => rfl) (fun k a b => absurd b (by omega)) (fun _ _ => rfl) hP hD hS (lv_sub hl [0, 1, 2, 3] rfl)
          · have c_3 : ¬ (j < (n + 1)) := fun q9 => c_3 ((nI_ltI (by omega) (by omega)).mpr q9)
            exfalso; omega
        · refine lv_iinc (v := nI (j + 1)) (lv' := [(2, .int (nI (j + 1))), (0, .ref h0), (1, .int x)]) hx hb dX3_take_20 hl (k := 0) rfl (nI_1 j) (by decide) rfl (fun ls hl => ?_)
          refine lv_goto (tgt := 2) hx hb dX3_take_23 (by decide) ?_
          exact ih_2 (j + 1) _ _ ls (by omega) (qm_next hf h1 cj) (qm_till h1 cj) hP hD hS (lv_sub hl [0, 1, 2] rfl)
  exact loop_2 (n + 1 - 0 + 1) 0 _ _ ls (by omega) (Nat.zero_le n) (fun k a => absurd a (Nat.not_lt_zero k)) hP hD hS (lv_sub hl [0, 1, 2] rfl)

set_option maxHeartbeats 4000000 in
set_option maxRecDepth 100000 in
/-- Sorted.orderFromGreatest -/
theorem qc_S_order (l : Launch) (G : qG) (h0 : Nat) (q0 : Nat) (n : Nat) (N1 : Nat) (f : Nat → Int32) (h1 : Nat) (q1 : Nat) (N2 : Nat) (g : Nat → Int32) (hn1 : n ≤ N1) (hn2 : n ≤ N2) (hN1 : N1 ≤ 200) (hN2 : N2 ≤ 200) (hf : qm_srt f n) (hg : qm_srt g n) : Met l yX3_orderFromGreatest wsX3_orderFromGreatest ({ frames := 1, cells := 0, slots := 0, locals := 23 } : Room) (va_Pc [.ref h0, .ref h1] (qk_pre G vwCl [(h0, .inr (3, [.ref q0, .int (nI n)])), (q0, .inl (G.2.1, N1, .inl f)), (h1, .inr (3, [.ref q1, .int (nI n)])), (q1, .inl (G.2.1, N2, .inl g))])) (vp_Si (fun r => qm_ord (fun a b : Int32 => a < b) (qm_cnt f n) (qm_cnt g n) r)) 0 0 (fun _ => False) := by
  refine Met.ofW (cc := cX3_orderFromGreatest) (maxL := 5) (ret := (some .int)) (by decide) rfl ?_
  intro p e s m args below meth c s₁ B hml hv
  obtain ⟨rfl, hP, hK, hN⟩ := hv
  have hx := B.exec
  have hb := B.bytes
  have hr := B.returns
  have hlocks := B.notSynchronized
  have hts := atoms_spec (ws := wsX3_orderFromGreatest) B.pre
  have htb := fun (w : Cond) (h : w ∈ qTb) => hts w (List.mem_cons_of_mem _ h)
  have hown : s.vm.findClass "GradeRows$Sorted" = some m.cls := findClass_of_methodNamed B.named
  have hP : va_P G.1 vwCl [(h0, .inr (3, [.ref q0, .int (nI n)])), (q0, .inl (G.2.1, N1, .inl f)), (h1, .inr (3, [.ref q1, .int (nI n)])), (q1, .inl (G.2.1, N2, .inl g))] s.heap := hP
  have hl := lv_entry ([.ref h0, .ref h1]) (n := 5) (Nat.le_of_ble_eq_true rfl)
  rw [lg_entry_eq]
  generalize (lg_sl ([.ref h0, .ref h1]) ++ List.replicate (5 - (lg_sl ([.ref h0, .ref h1])).length) Slot.unset).toArray = ls at hl ⊢
  have hl : lv_has ls 5 [(0, .ref h0), (1, .ref h1)] := hl
  refine lv_aload_n hx hb dX3_orderFromGreatest_0 rfl (lv_at hl 0 rfl) ?_
  refine va_get (D := G.1) (ci := 3) (v := .int (nI n)) (C := "GradeRows$Sorted") (T := TX3) (N := 2) hx hb htb inX3 hown hK hP 0 rfl rfl 1 (by decide) (htb _ qw_68) (fun _ h9 => h9) rfl dX3_orderFromGreatest_1 ?_
  refine lv_aload_n hx hb dX3_orderFromGreatest_4 rfl (lv_at hl 1 rfl) ?_
  refine va_get (D := G.1) (ci := 3) (v := .int (nI n)) (C := "GradeRows$Sorted") (T := TX3) (N := 2) hx hb htb inX3 hown hK hP 2 rfl rfl 1 (by decide) (htb _ qw_68) (fun _ h9 => h9) rfl dX3_orderFromGreatest_5 ?_
  refine va_mmin hx hb (hml.trans hl.1.symm) hown (htb _ qw_417) (htb _ qw_236) (htb _ qw_19) (htb _ qw_237) (Nat.le_of_ble_eq_true rfl) (Nat.le_of_ble_eq_true rfl) (Nat.le_of_ble_eq_true rfl) (Nat.le_of_ble_eq_true rfl) dX3_orderFromGreatest_8 ?_
  refine qk_topi (t := nI n) (by simp) ?_
  refine lv_istore_n (lv' := [(2, .int (nI n)), (0, .ref h0), (1, .ref h1)]) hx hb dX3_orderFromGreatest_11 rfl hl (by decide) rfl (fun ls hl => ?_)
  refine lv_iconst (v := nI 1) hx hb dX3_orderFromGreatest_12 (by decide) ?_
  refine lv_istore_n (lv' := [(3, .int (nI 1)), (2, .int (nI n)), (0, .ref h0), (1, .ref h1)]) hx hb dX3_orderFromGreatest_13 rfl hl (by decide) rfl (fun ls hl => ?_)
  have loop_14 : ∀ (N : Nat) (i : Nat) (ls : Array Slot), n - i < N → (i ≤ n) → (∀ k, n - i ≤ k → k < n → f k = g k) → lv_has ls 5 [(3, .int (nI (i + 1))), (2, .int (nI n)), (0, .ref h0), (1, .ref h1)] → W p l e (headSpec wsX3_orderFromGreatest ({ frames := 1, cells := 0, slots := 0, locals := 23 } : Room)).room s m ([.ref h0, .ref h1] : List Value).toArray below meth c s.heap [] 0 0 (MQ below (vp_Si (fun r => qm_ord (fun a b : Int32 => a < b) (qm_cnt f n) (qm_cnt g n) r)) ([.ref h0, .ref h1] : List Value).toArray s 0 0 (fun _ => False)) (F0 m 14 ls []) := by
    intro N
    induction N with
    | zero => intro i ls hm; exact absurd hm (Nat.not_lt_zero _)
    | succ N ih_14 =>
      intro i ls hm hi he hl
      refine lv_iload_n hx hb dX3_orderFromGreatest_14 rfl (lv_at hl 0 rfl) ?_
      refine lv_iload_n hx hb dX3_orderFromGreatest_15 rfl (lv_at hl 1 rfl) ?_
      refine lv_icmp_gt (tgt := 62) hx hb dX3_orderFromGreatest_16 (by decide) (fun c_1 => ?_) (fun c_1 => ?_)
      · have c_1 : n < (i + 1) := (nI_ltI (by omega) (by omega)).mp c_1
        refine lv_iconst (v := nI 0) hx hb dX3_orderFromGreatest_62 (by decide) ?_
        exact W.iret (v := nI 0) hx hb hr (fun t9 ht9 hW9 => ⟨_, rfl, Or.inl ⟨rfl, fun v => qm_cnt_congr (fun k hk => he k (by omega) hk)⟩, ht9⟩) (fun q h => absurd h List.not_mem_nil) dX3_orderFromGreatest_63
      · have c_1 : ¬ (n < (i + 1)) := fun q9 => c_1 ((nI_ltI (by omega) (by omega)).mpr q9)
        refine lv_aload_n hx hb dX3_orderFromGreatest_19 rfl (lv_at hl 2 rfl) ?_
        refine va_get (D := G.1) (ci := 3) (v := .ref q0) (C := "GradeRows$Sorted") (T := TX3) (N := 2) hx hb htb inX3 hown hK hP 0 rfl rfl 0 (by decide) (htb _ qw_67) (fun _ h9 => h9) rfl dX3_orderFromGreatest_20 ?_
        refine lv_aload_n hx hb dX3_orderFromGreatest_23 rfl (lv_at hl 2 rfl) ?_
        refine va_get (D := G.1) (ci := 3) (v := .int (nI n)) (C := "GradeRows$Sorted") (T := TX3) (N := 2) hx hb htb inX3 hown hK hP 0 rfl rfl 1 (by decide) (htb _ qw_68) (fun _ h9 => h9) rfl dX3_orderFromGreatest_24 ?_
        refine lv_iload_n hx hb dX3_orderFromGreatest_27 rfl (lv_at hl 0 rfl) ?_
        refine lv_isub hx hb dX3_orderFromGreatest_28 ?_
        refine qk_topi (t := nI (n - (i + 1))) (pk_sub (by omega)) ?_
        refine qk_iald hx hb hK hP 1 0 rfl rfl (i := (n - (i + 1))) (by omega) (by omega) (v := f (n - (i + 1))) rfl dX3_orderFromGreatest_29 ?_
        refine lv_i2l (v := (f (n - (i + 1))).toInt64) hx hb dX3_orderFromGreatest_30 rfl ?_
        refine lv_aload_n hx hb dX3_orderFromGreatest_31 rfl (lv_at hl 3 rfl) ?_
        refine va_get (D := G.1) (ci := 3) (v := .ref q1) (C := "GradeRows$Sorted") (T := TX3) (N := 2) hx hb htb inX3 hown hK hP 2 rfl rfl 0 (by decide) (htb _ qw_67) (fun _ h9 => h9) rfl dX3_orderFromGreatest_32 ?_
        refine lv_aload_n hx hb dX3_orderFromGreatest_35 rfl (lv_at hl 3 rfl) ?_
        refine va_get (D := G.1) (ci := 3) (v := .int (nI n)) (C := "GradeRows$Sorted") (T := TX3) (N := 2) hx hb htb inX3 hown hK hP 2 rfl rfl 1 (by decide) (htb _ qw_68) (fun _ h9 => h9) rfl dX3_orderFromGreatest_36 ?_
        refine lv_iload_n hx hb dX3_orderFromGreatest_39 rfl (lv_at hl 0 rfl) ?_
        refine lv_isub hx hb dX3_orderFromGreatest_40 ?_
        refine qk_topi (t := nI (n - (i + 1))) (pk_sub (by omega)) ?_
        refine qk_iald hx hb hK hP 3 0 rfl rfl (i := (n - (i + 1))) (by omega) (by omega) (v := g (n - (i + 1))) rfl dX3_orderFromGreatest_41 ?_
        refine lv_i2l (v := (g (n - (i + 1))).toInt64) hx hb dX3_orderFromGreatest_42 rfl ?_
        have hPc := hP.sub (ws' := []) [] rfl
        refine vp_callSi (va_runSN (As := [.long (f (n - (i + 1))).toInt64, .long (g (n - (i + 1))).toInt64]) (rest := []) ⟨hx, hb, hml, hown, htb⟩ (qc_order l G (f (n - (i + 1))).toInt64 (g (n - (i + 1))).toInt64) ⟨va_cnB 2 htb (qW_good qw_408) rfl rfl rfl (hN.1 _ qw_418) (htb _ qw_13) (by decide +kernel) ⟨Nat.le_of_ble_eq_true rfl, Nat.le_of_ble_eq_true rfl⟩, htb _ qw_407, trivial⟩ (qk_ps hK hPc hN) rfl rfl hl.1 rfl (lv_room (Nat.le_of_ble_eq_true rfl)) dX3_orderFromGreatest_43 ⟨Nat.le_of_ble_eq_true rfl, Nat.le_of_ble_eq_true rfl⟩).run (fun r_43 e_43 => ?_)
        refine lv_istore (lv' := [(4, .int r_43), (3, .int (nI (i + 1))), (2, .int (nI n)), (0, .ref h0), (1, .ref h1)]) hx hb dX3_orderFromGreatest_46 hl (by decide) rfl (fun ls hl => ?_)
        refine lv_iload hx hb dX3_orderFromGreatest_48 (lv_at hl 0 rfl) ?_
        refine lv_if_eq (tgt := 56) hx hb dX3_orderFromGreatest_50 (by decide) (fun cz => ?_) (fun cz => ?_)
        · refine lv_iinc (v := nI ((i + 1) + 1)) (lv' := [(3, .int (nI ((i + 1) + 1))), (4, .int r_43), (2, .int (nI n)), (0, .ref h0), (1, .ref h1)]) hx hb dX3_orderFromGreatest_56 hl (k := 1) rfl (nI_1 (i + 1)) (by decide) rfl (fun ls hl => ?_)
          refine lv_goto (tgt := 14) hx hb dX3_orderFromGreatest_59 (by decide) ?_
          exact ih_14 (i + 1) ls (by omega) (by omega) (qm_down he (qm_l_inj (qm_sg_0 e_43 cz)) (by omega)) (lv_sub hl [0, 2, 3, 4] rfl)
        · refine lv_iload hx hb dX3_orderFromGreatest_53 (lv_at hl 0 rfl) ?_
          exact W.iret (v := r_43) hx hb hr (fun t9 ht9 hW9 => ⟨_, rfl, qm_ord_of hf hg (by omega) he e_43 cz, ht9⟩) (fun q h => absurd h List.not_mem_nil) dX3_orderFromGreatest_55
  exact loop_14 (n - 0 + 1) 0 ls (by omega) (Nat.zero_le n) (fun k a b => absurd a (by omega)) (lv_sub hl [0, 1, 2, 3] rfl)
