set_option maxHeartbeats 4000000 in
set_option maxRecDepth 100000 in
/-- Classes.classOf -/
theorem qc_C_of (l : Launch) (G : qG) (h0 : Nat) (ql : Nat) (qh : Nat) (n : Nat) (lo : Nat → Int64) (hi : Nat → Int64) (v : Int64) (hn : n ≤ 20) : Met l yX0_classOf wsX0_classOf ({ frames := 0, cells := 0, slots := 0, locals := 0 } : Room) (va_Pc [.ref h0, .long v] (qk_pre G vwCl [(h0, .inr (0, [.ref ql, .ref qh, .int (nI n)])), (ql, .inl (G.2.2.1, 20, .inr (.inl lo))), (qh, .inl (G.2.2.1, 20, .inr (.inl hi)))])) (vp_Si (fun r => r = qm_ans n (qm_cof lo hi v n 0))) 0 0 (fun _ => False) := by
  refine Met.ofW (cc := cX0_classOf) (maxL := 4) (ret := (some .int)) (by decide) rfl ?_
  intro p e s m args below meth c s₁ B hml hv
  obtain ⟨rfl, hP, hK, hN⟩ := hv
  have hx := B.exec
  have hb := B.bytes
  have hr := B.returns
  have hlocks := B.notSynchronized
  have hts := atoms_spec (ws := wsX0_classOf) B.pre
  have htb := fun (w : Cond) (h : w ∈ qTb) => hts w (List.mem_cons_of_mem _ h)
  have hown : s.vm.findClass "GradeRows$Classes" = some m.cls := findClass_of_methodNamed B.named
  have hP : va_P G.1 vwCl [(h0, .inr (0, [.ref ql, .ref qh, .int (nI n)])), (ql, .inl (G.2.2.1, 20, .inr (.inl lo))), (qh, .inl (G.2.2.1, 20, .inr (.inl hi)))] s.heap := hP
  have hl := lv_entry ([.ref h0, .long v]) (n := 4) (Nat.le_of_ble_eq_true rfl)
  rw [lg_entry_eq]
  generalize (lg_sl ([.ref h0, .long v]) ++ List.replicate (4 - (lg_sl ([.ref h0, .long v])).length) Slot.unset).toArray = ls at hl ⊢
  have hl : lv_has ls 4 [(0, .ref h0), (1, .long v)] := hl
  refine lv_iconst (v := nI 0) hx hb dX0_classOf_0 (by decide) ?_
  refine lv_istore_n (lv' := [(3, .int (nI 0)), (0, .ref h0), (1, .long v)]) hx hb dX0_classOf_1 rfl hl (by decide) rfl (fun ls hl => ?_)
  have loop_2 : ∀ (N : Nat) (i : Nat) (ls : Array Slot), n - i < N → (i ≤ n) → (qm_cof lo hi v n 0 = qm_cof lo hi v (n - i) i) → lv_has ls 4 [(3, .int (nI i)), (0, .ref h0), (1, .long v)] → W p l e (headSpec wsX0_classOf ({ frames := 0, cells := 0, slots := 0, locals := 0 } : Room)).room s m ([.ref h0, .long v] : List Value).toArray below meth c s.heap [] 0 0 (MQ below (vp_Si (fun r => r = qm_ans n (qm_cof lo hi v n 0))) ([.ref h0, .long v] : List Value).toArray s 0 0 (fun _ => False)) (F0 m 2 ls []) := by
    intro N
    induction N with
    | zero => intro i ls hm; exact absurd hm (Nat.not_lt_zero _)
    | succ N ih_2 =>
      intro i ls hm hi1 hq hl
      refine lv_iload_n hx hb dX0_classOf_2 rfl (lv_at hl 0 rfl) ?_
      refine lv_aload_n hx hb dX0_classOf_3 rfl (lv_at hl 1 rfl) ?_
      refine va_get (D := G.1) (ci := 0) (v := .int (nI n)) (C := "GradeRows$Classes") (T := TX0) (N := 3) hx hb htb inX0 hown hK hP 0 rfl rfl 2 (by decide) (htb _ qw_111) (fun _ h9 => h9) rfl dX0_classOf_4 ?_
      refine lv_icmp_ge (tgt := 40) hx hb dX0_classOf_7 (by decide) (fun c_1 => ?_) (fun c_1 => ?_)
      · have c_1 : n ≤ i := (nI_leI (by omega) (by omega)).mp c_1
        refine lv_iconst (v := (-1)) hx hb dX0_classOf_40 (by decide) ?_
        exact W.iret (v := (-1)) hx hb hr (fun t9 ht9 hW9 => ⟨_, rfl, (qm_cof_end hq (by omega) hi1).symm, ht9⟩) (fun q h => absurd h List.not_mem_nil) dX0_classOf_41
      · have c_1 : ¬ (n ≤ i) := fun q9 => c_1 ((nI_leI (by omega) (by omega)).mpr q9)
        refine lv_aload_n hx hb dX0_classOf_10 rfl (lv_at hl 1 rfl) ?_
        refine va_get (D := G.1) (ci := 0) (v := .ref ql) (C := "GradeRows$Classes") (T := TX0) (N := 3) hx hb htb inX0 hown hK hP 0 rfl rfl 0 (by decide) (htb _ qw_109) (fun _ h9 => h9) rfl dX0_classOf_11 ?_
        refine lv_iload_n hx hb dX0_classOf_14 rfl (lv_at hl 0 rfl) ?_
        refine qk_lald hx hb hK hP 1 1 rfl rfl (i := i) (by omega) (by omega) (v := lo i) rfl dX0_classOf_15 ?_
        refine lv_lload_n hx hb dX0_classOf_16 rfl (lv_at hl 2 rfl) ?_
        refine W.lcmp hx hb dX0_classOf_17 ?_
        refine lv_if_gt (tgt := 34) hx hb dX0_classOf_18 (by decide) (fun c1 => ?_) (fun c1 => ?_)
        · have c1 : v < (lo i) := (lg_cmp_gt _ _).mp c1
          have c1n : ¬ lo i ≤ v := by rw [Int64.lt_iff_toInt_lt] at c1; rw [Int64.le_iff_toInt_le]; omega
          refine lv_iinc (v := nI (i + 1)) (lv' := [(3, .int (nI (i + 1))), (0, .ref h0), (1, .long v)]) hx hb dX0_classOf_34 hl (k := 0) rfl (nI_1 i) (by decide) rfl (fun ls hl => ?_)
          refine lv_goto (tgt := 2) hx hb dX0_classOf_37 (by decide) ?_
          exact ih_2 (i + 1) ls (by omega) (by omega) (hq.trans (qm_cof_next (by omega) (by first | (intro h; exact c1n h.1) | (intro h; exact c2n h.2)))) (lv_sub hl [0, 1, 2] rfl)
        · have c1 : ¬ (v < (lo i)) := fun q9 => c1 ((lg_cmp_gt _ _).mpr q9)
          refine lv_lload_n hx hb dX0_classOf_21 rfl (lv_at hl 2 rfl) ?_
          refine lv_aload_n hx hb dX0_classOf_22 rfl (lv_at hl 1 rfl) ?_
          refine va_get (D := G.1) (ci := 0) (v := .ref qh) (C := "GradeRows$Classes") (T := TX0) (N := 3) hx hb htb inX0 hown hK hP 0 rfl rfl 1 (by decide) (htb _ qw_110) (fun _ h9 => h9) rfl dX0_classOf_23 ?_
          refine lv_iload_n hx hb dX0_classOf_26 rfl (lv_at hl 0 rfl) ?_
          refine qk_lald hx hb hK hP 2 1 rfl rfl (i := i) (by omega) (by omega) (v := hi i) rfl dX0_classOf_27 ?_
          refine W.lcmp hx hb dX0_classOf_28 ?_
          refine lv_if_gt (tgt := 34) hx hb dX0_classOf_29 (by decide) (fun c2 => ?_) (fun c2 => ?_)
          · have c2 : (hi i) < v := (lg_cmp_gt _ _).mp c2
            have c2n : ¬ v ≤ hi i := by rw [Int64.lt_iff_toInt_lt] at c2; rw [Int64.le_iff_toInt_le]; omega
            refine lv_iinc (v := nI (i + 1)) (lv' := [(3, .int (nI (i + 1))), (0, .ref h0), (1, .long v)]) hx hb dX0_classOf_34 hl (k := 0) rfl (nI_1 i) (by decide) rfl (fun ls hl => ?_)
            refine lv_goto (tgt := 2) hx hb dX0_classOf_37 (by decide) ?_
            exact ih_2 (i + 1) ls (by omega) (by omega) (hq.trans (qm_cof_next (by omega) (by first | (intro h; exact c1n h.1) | (intro h; exact c2n h.2)))) (lv_sub hl [0, 1, 2] rfl)
          · have c2 : ¬ ((hi i) < v) := fun q9 => c2 ((lg_cmp_gt _ _).mpr q9)
            refine lv_iload_n hx hb dX0_classOf_32 rfl (lv_at hl 0 rfl) ?_
            exact W.iret (v := nI i) hx hb hr (fun t9 ht9 hW9 => ⟨_, rfl, (qm_cof_hit hq (by omega) (qm_lnlt c1) (qm_lnlt c2)).symm, ht9⟩) (fun q h => absurd h List.not_mem_nil) dX0_classOf_33
  exact loop_2 (n - 0 + 1) 0 ls (by omega) (Nat.zero_le n) rfl (lv_sub hl [0, 1, 2] rfl)

set_option maxHeartbeats 4000000 in
set_option maxRecDepth 100000 in
/-- Classes.countBelow -/
theorem qc_C_below (l : Launch) (G : qG) (h0 : Nat) (ql : Nat) (qh : Nat) (n : Nat) (lo : Nat → Int64) (hi : Nat → Int64) (v : Int64) (hn : n ≤ 20) : Met l yX0_countBelow wsX0_countBelow ({ frames := 0, cells := 0, slots := 0, locals := 0 } : Room) (va_Pc [.ref h0, .long v] (qk_pre G vwCl [(h0, .inr (0, [.ref ql, .ref qh, .int (nI n)])), (ql, .inl (G.2.2.1, 20, .inr (.inl lo))), (qh, .inl (G.2.2.1, 20, .inr (.inl hi)))])) (vp_Si (fun r => r = nI (qm_bel hi v n))) 0 0 (fun _ => False) := by
  refine Met.ofW (cc := cX0_countBelow) (maxL := 5) (ret := (some .int)) (by decide) rfl ?_
  intro p e s m args below meth c s₁ B hml hv
  obtain ⟨rfl, hP, hK, hN⟩ := hv
  have hx := B.exec
  have hb := B.bytes
  have hr := B.returns
  have hlocks := B.notSynchronized
  have hts := atoms_spec (ws := wsX0_countBelow) B.pre
  have htb := fun (w : Cond) (h : w ∈ qTb) => hts w (List.mem_cons_of_mem _ h)
  have hown : s.vm.findClass "GradeRows$Classes" = some m.cls := findClass_of_methodNamed B.named
  have hP : va_P G.1 vwCl [(h0, .inr (0, [.ref ql, .ref qh, .int (nI n)])), (ql, .inl (G.2.2.1, 20, .inr (.inl lo))), (qh, .inl (G.2.2.1, 20, .inr (.inl hi)))] s.heap := hP
  have hl := lv_entry ([.ref h0, .long v]) (n := 5) (Nat.le_of_ble_eq_true rfl)
  rw [lg_entry_eq]
  generalize (lg_sl ([.ref h0, .long v]) ++ List.replicate (5 - (lg_sl ([.ref h0, .long v])).length) Slot.unset).toArray = ls at hl ⊢
  have hl : lv_has ls 5 [(0, .ref h0), (1, .long v)] := hl
  refine lv_iconst (v := nI 0) hx hb dX0_countBelow_0 (by decide) ?_
  refine lv_istore_n (lv' := [(3, .int (nI 0)), (0, .ref h0), (1, .long v)]) hx hb dX0_countBelow_1 rfl hl (by decide) rfl (fun ls hl => ?_)
  refine lv_iconst (v := nI 0) hx hb dX0_countBelow_2 (by decide) ?_
  refine lv_istore (lv' := [(4, .int (nI 0)), (3, .int (nI 0)), (0, .ref h0), (1, .long v)]) hx hb dX0_countBelow_3 hl (by decide) rfl (fun ls hl => ?_)
  have loop_5 : ∀ (N : Nat) (i : Nat) (b : Nat) (ls : Array Slot), n - i < N → (i ≤ n) → (qm_bel hi v i = b) → (b ≤ i) → lv_has ls 5 [(4, .int (nI i)), (3, .int (nI b)), (0, .ref h0), (1, .long v)] → W p l e (headSpec wsX0_countBelow ({ frames := 0, cells := 0, slots := 0, locals := 0 } : Room)).room s m ([.ref h0, .long v] : List Value).toArray below meth c s.heap [] 0 0 (MQ below (vp_Si (fun r => r = nI (qm_bel hi v n))) ([.ref h0, .long v] : List Value).toArray s 0 0 (fun _ => False)) (F0 m 5 ls []) := by
    intro N
    induction N with
    | zero => intro i b ls hm; exact absurd hm (Nat.not_lt_zero _)
    | succ N ih_5 =>
      intro i b ls hm hi1 hq hb1 hl
      refine lv_iload hx hb dX0_countBelow_5 (lv_at hl 0 rfl) ?_
      refine lv_aload_n hx hb dX0_countBelow_7 rfl (lv_at hl 2 rfl) ?_
      refine va_get (D := G.1) (ci := 0) (v := .int (nI n)) (C := "GradeRows$Classes") (T := TX0) (N := 3) hx hb htb inX0 hown hK hP 0 rfl rfl 2 (by decide) (htb _ qw_111) (fun _ h9 => h9) rfl dX0_countBelow_8 ?_
      refine lv_icmp_ge (tgt := 35) hx hb dX0_countBelow_11 (by decide) (fun c_1 => ?_) (fun c_1 => ?_)
      · have c_1 : n ≤ i := (nI_leI (by omega) (by omega)).mp c_1
        refine lv_iload_n hx hb dX0_countBelow_35 rfl (lv_at hl 1 rfl) ?_
        exact W.iret (v := nI b) hx hb hr (fun t9 ht9 hW9 => ⟨_, rfl, by rw [← show i = n by omega, hq], ht9⟩) (fun q h => absurd h List.not_mem_nil) dX0_countBelow_36
      · have c_1 : ¬ (n ≤ i) := fun q9 => c_1 ((nI_leI (by omega) (by omega)).mpr q9)
        refine lv_aload_n hx hb dX0_countBelow_14 rfl (lv_at hl 2 rfl) ?_
        refine va_get (D := G.1) (ci := 0) (v := .ref qh) (C := "GradeRows$Classes") (T := TX0) (N := 3) hx hb htb inX0 hown hK hP 0 rfl rfl 1 (by decide) (htb _ qw_110) (fun _ h9 => h9) rfl dX0_countBelow_15 ?_
        refine lv_iload hx hb dX0_countBelow_18 (lv_at hl 0 rfl) ?_
        refine qk_lald hx hb hK hP 2 1 rfl rfl (i := i) (by omega) (by omega) (v := hi i) rfl dX0_countBelow_20 ?_
        refine lv_lload_n hx hb dX0_countBelow_21 rfl (lv_at hl 3 rfl) ?_
        refine W.lcmp hx hb dX0_countBelow_22 ?_
        refine lv_if_ge (tgt := 29) hx hb dX0_countBelow_23 (by decide) (fun c1 => ?_) (fun c1 => ?_)
        · have c1 : v ≤ (hi i) := (lg_cmp_ge _ _).mp c1
          refine lv_iinc (v := nI (i + 1)) (lv' := [(4, .int (nI (i + 1))), (3, .int (nI b)), (0, .ref h0), (1, .long v)]) hx hb dX0_countBelow_29 hl (k := 0) rfl (nI_1 i) (by decide) rfl (fun ls hl => ?_)
          refine lv_goto (tgt := 5) hx hb dX0_countBelow_32 (by decide) ?_
          exact ih_5 (i + 1) b ls (by omega) (by omega) (by show qm_bel hi v i + (if hi i < v then 1 else 0) = b; rw [if_neg (qm_lle_nlt c1), hq]; rfl) (by omega) (lv_sub hl [0, 1, 2, 3] rfl)
        · have c1 : ¬ (v ≤ (hi i)) := fun q9 => c1 ((lg_cmp_ge _ _).mpr q9)
          refine lv_iinc (v := nI (b + 1)) (lv' := [(3, .int (nI (b + 1))), (4, .int (nI i)), (0, .ref h0), (1, .long v)]) hx hb dX0_countBelow_26 hl (k := 1) rfl (nI_1 b) (by decide) rfl (fun ls hl => ?_)
          refine lv_iinc (v := nI (i + 1)) (lv' := [(4, .int (nI (i + 1))), (3, .int (nI (b + 1))), (0, .ref h0), (1, .long v)]) hx hb dX0_countBelow_29 hl (k := 1) rfl (nI_1 i) (by decide) rfl (fun ls hl => ?_)
          refine lv_goto (tgt := 5) hx hb dX0_countBelow_32 (by decide) ?_
          exact ih_5 (i + 1) (b + 1) ls (by omega) (by omega) (by show qm_bel hi v i + (if hi i < v then 1 else 0) = b + 1; rw [if_pos (qm_lnle c1), hq]) (by omega) (lv_sub hl [0, 1, 2, 3] rfl)
  exact loop_5 (n - 0 + 1) 0 0 ls (by omega) (Nat.zero_le n) rfl (Nat.le_refl 0) (lv_sub hl [0, 1, 2, 3] rfl)

set_option maxHeartbeats 4000000 in
set_option maxRecDepth 100000 in
/-- Classes.firstFree -/
theorem qc_C_free (l : Launch) (G : qG) (h0 : Nat) (ql : Nat) (qh : Nat) (n : Nat) (lo : Nat → Int64) (hi : Nat → Int64) (v : Int64) (hn : n ≤ 20) : Met l yX0_firstFree wsX0_firstFree ({ frames := 1, cells := 0, slots := 0, locals := 23 } : Room) (va_Pc [.ref h0, .long v] (qk_pre G vwCl [(h0, .inr (0, [.ref ql, .ref qh, .int (nI n)])), (ql, .inl (G.2.2.1, 20, .inr (.inl lo))), (qh, .inl (G.2.2.1, 20, .inr (.inl hi)))])) (vp_Sl (fun r => r = qm_gap lo hi n n v)) 0 0 (fun _ => False) := by
  refine Met.ofW (cc := cX0_firstFree) (maxL := 7) (ret := (some .long)) (by decide) rfl ?_
  intro p e s m args below meth c s₁ B hml hv
  obtain ⟨rfl, hP, hK, hN⟩ := hv
  have hx := B.exec
  have hb := B.bytes
  have hr := B.returns
  have hlocks := B.notSynchronized
  have hts := atoms_spec (ws := wsX0_firstFree) B.pre
  have htb := fun (w : Cond) (h : w ∈ qTb) => hts w (List.mem_cons_of_mem _ h)
  have hown : s.vm.findClass "GradeRows$Classes" = some m.cls := findClass_of_methodNamed B.named
  have hP : va_P G.1 vwCl [(h0, .inr (0, [.ref ql, .ref qh, .int (nI n)])), (ql, .inl (G.2.2.1, 20, .inr (.inl lo))), (qh, .inl (G.2.2.1, 20, .inr (.inl hi)))] s.heap := hP
  have hl := lv_entry ([.ref h0, .long v]) (n := 7) (Nat.le_of_ble_eq_true rfl)
  rw [lg_entry_eq]
  generalize (lg_sl ([.ref h0, .long v]) ++ List.replicate (7 - (lg_sl ([.ref h0, .long v])).length) Slot.unset).toArray = ls at hl ⊢
  have hl : lv_has ls 7 [(0, .ref h0), (1, .long v)] := hl
  refine lv_lload_n hx hb dX0_firstFree_0 rfl (lv_at hl 1 rfl) ?_
  refine lv_lstore_n (lv' := [(3, .long v), (0, .ref h0), (1, .long v)]) hx hb dX0_firstFree_1 rfl hl (by decide) rfl (fun ls hl => ?_)
  refine lv_iconst (v := nI 0) hx hb dX0_firstFree_2 (by decide) ?_
  refine lv_istore (lv' := [(5, .int (nI 0)), (3, .long v), (0, .ref h0), (1, .long v)]) hx hb dX0_firstFree_3 hl (by decide) rfl (fun ls hl => ?_)
  have loop_5 : ∀ (N : Nat) (t : Nat) (f : Int64) (ls : Array Slot), n - t < N → (t ≤ n) → (qm_gap lo hi n n v = qm_gap lo hi n (n - t) f) → lv_has ls 7 [(5, .int (nI t)), (3, .long f), (0, .ref h0), (1, .long v)] → W p l e (headSpec wsX0_firstFree ({ frames := 1, cells := 0, slots := 0, locals := 23 } : Room)).room s m ([.ref h0, .long v] : List Value).toArray below meth c s.heap [] 0 0 (MQ below (vp_Sl (fun r => r = qm_gap lo hi n n v)) ([.ref h0, .long v] : List Value).toArray s 0 0 (fun _ => False)) (F0 m 5 ls []) := by
    intro N
    induction N with
    | zero => intro t f ls hm; exact absurd hm (Nat.not_lt_zero _)
    | succ N ih_5 =>
      intro t f ls hm ht hq hl
      refine lv_iload hx hb dX0_firstFree_5 (lv_at hl 0 rfl) ?_
      refine lv_aload_n hx hb dX0_firstFree_7 rfl (lv_at hl 2 rfl) ?_
      refine va_get (D := G.1) (ci := 0) (v := .int (nI n)) (C := "GradeRows$Classes") (T := TX0) (N := 3) hx hb htb inX0 hown hK hP 0 rfl rfl 2 (by decide) (htb _ qw_111) (fun _ h9 => h9) rfl dX0_firstFree_8 ?_
      refine lv_icmp_ge (tgt := 44) hx hb dX0_firstFree_11 (by decide) (fun c_1 => ?_) (fun c_1 => ?_)
      · have c_1 : n ≤ t := (nI_leI (by omega) (by omega)).mp c_1
        refine lv_lload_n hx hb dX0_firstFree_44 rfl (lv_at hl 1 rfl) ?_
        exact W.lret (v := f) hx hb hr (fun t9 ht9 hW9 => ⟨_, rfl, (hq.trans (by rw [show n - t = 0 by omega]; rfl)).symm, ht9⟩) (fun q h => absurd h List.not_mem_nil) dX0_firstFree_45
      · have c_1 : ¬ (n ≤ t) := fun q9 => c_1 ((nI_leI (by omega) (by omega)).mpr q9)
        refine lv_aload_n hx hb dX0_firstFree_14 rfl (lv_at hl 2 rfl) ?_
        refine lv_lload_n hx hb dX0_firstFree_15 rfl (lv_at hl 1 rfl) ?_
        have hPc := hP.sub (ws' := [(h0, .inr (0, [.ref ql, .ref qh, .int (nI n)])), (ql, .inl (G.2.2.1, 20, .inr (.inl lo))), (qh, .inl (G.2.2.1, 20, .inr (.inl hi)))]) [0, 1, 2] rfl
        refine vp_callSi (va_runV (As := [.long f]) (rest := []) ⟨hx, hb, hml, hown, htb⟩ (qc_C_of l G h0 ql qh n lo hi f hn) (cwV 1 htb (qW_V qw_293 qw_274 qw_275 qw_17 qw_276) rfl rfl rfl (by decide +kernel) ⟨Nat.le_of_ble_eq_true rfl, Nat.le_of_ble_eq_true rfl⟩) (qk_pv (ci := 0) (q0 := 0) hK hPc hN rfl rfl) rfl rfl hl.1 rfl (lv_room (Nat.le_of_ble_eq_true rfl)) dX0_firstFree_16 ⟨Nat.le_of_ble_eq_true rfl, Nat.le_of_ble_eq_true rfl⟩).run (fun r_16 e_16 => ?_)
        have e_16 := e_16.symm
        subst e_16
        refine lv_istore (lv' := [(6, .int (qm_ans n (qm_cof lo hi f n 0))), (5, .int (nI t)), (3, .long f), (0, .ref h0), (1, .long v)]) hx hb dX0_firstFree_19 hl (by decide) rfl (fun ls hl => ?_)
        refine lv_iload hx hb dX0_firstFree_21 (lv_at hl 0 rfl) ?_
        refine lv_if_ge (tgt := 28) hx hb dX0_firstFree_23 (by decide) (fun cg => ?_) (fun cg => ?_)
        · have cq : qm_cof lo hi f n 0 < n := (qm_ans_ge (by omega)).mp cg
          refine lv_aload_n hx hb dX0_firstFree_28 rfl (lv_at hl 3 rfl) ?_
          refine va_get (D := G.1) (ci := 0) (v := .ref qh) (C := "GradeRows$Classes") (T := TX0) (N := 3) hx hb htb inX0 hown hK hP 0 rfl rfl 1 (by decide) (htb _ qw_110) (fun _ h9 => h9) rfl dX0_firstFree_29 ?_
          refine lv_iload hx hb dX0_firstFree_32 (lv_at hl 0 rfl) ?_
          refine qk_topi (t := nI (qm_cof lo hi f n 0)) (if_pos cq) ?_
          refine qk_lald hx hb hK hP 2 1 rfl rfl (i := (qm_cof lo hi f n 0)) (by omega) (by omega) (v := hi (qm_cof lo hi f n 0)) rfl dX0_firstFree_34 ?_
          refine lv_lconst (v := lN 1) hx hb dX0_firstFree_35 (by decide) ?_
          refine lv_ladd hx hb dX0_firstFree_36 ?_
          refine lv_lstore_n (lv' := [(3, .long ((hi (qm_cof lo hi f n 0)) + (lN 1))), (6, .int (qm_ans n (qm_cof lo hi f n 0))), (5, .int (nI t)), (0, .ref h0), (1, .long v)]) hx hb dX0_firstFree_37 rfl hl (by decide) rfl (fun ls hl => ?_)
          refine lv_iinc (v := nI (t + 1)) (lv' := [(5, .int (nI (t + 1))), (3, .long ((hi (qm_cof lo hi f n 0)) + (lN 1))), (6, .int (qm_ans n (qm_cof lo hi f n 0))), (0, .ref h0), (1, .long v)]) hx hb dX0_firstFree_38 hl (k := 2) rfl (nI_1 t) (by decide) rfl (fun ls hl => ?_)
          refine lv_goto (tgt := 5) hx hb dX0_firstFree_41 (by decide) ?_
          exact ih_5 (t + 1) (hi (qm_cof lo hi f n 0) + lN 1) ls (by omega) (by omega) (hq.trans (qm_gap_next (by omega) cq)) (lv_sub hl [0, 1, 3, 4] rfl)
        · have cq : ¬ qm_cof lo hi f n 0 < n := fun q9 => cg ((qm_ans_ge (by omega)).mpr q9)
          refine lv_lload_n hx hb dX0_firstFree_26 rfl (lv_at hl 2 rfl) ?_
          exact W.lret (v := f) hx hb hr (fun t9 ht9 hW9 => ⟨_, rfl, (hq.trans (qm_gap_stop cq)).symm, ht9⟩) (fun q h => absurd h List.not_mem_nil) dX0_firstFree_27
  exact loop_5 (n - 0 + 1) 0 v ls (by omega) (Nat.zero_le n) rfl (lv_sub hl [0, 1, 2, 3] rfl)

set_option maxHeartbeats 4000000 in
set_option maxRecDepth 100000 in
/-- Classes.hasOneOf -/
theorem qc_C_ovl (l : Launch) (G : qG) (h0 : Nat) (ql : Nat) (qh : Nat) (n : Nat) (lo : Nat → Int64) (hi : Nat → Int64) (a : Int64) (b : Int64) (hn : n ≤ 20) : Met l yX0_hasOneOf wsX0_hasOneOf ({ frames := 0, cells := 0, slots := 0, locals := 0 } : Room) (va_Pc [.ref h0, .long a, .long b] (qk_pre G vwCl [(h0, .inr (0, [.ref ql, .ref qh, .int (nI n)])), (ql, .inl (G.2.2.1, 20, .inr (.inl lo))), (qh, .inl (G.2.2.1, 20, .inr (.inl hi)))])) (vp_Si (fun r => r = if qm_ovl lo hi a b n 0 = true then nI 1 else nI 0)) 0 0 (fun _ => False) := by
  refine Met.ofW (cc := cX0_hasOneOf) (maxL := 6) (ret := (some .boolean)) (by decide) rfl ?_
  intro p e s m args below meth c s₁ B hml hv
  obtain ⟨rfl, hP, hK, hN⟩ := hv
  have hx := B.exec
  have hb := B.bytes
  have hr := B.returns
  have hlocks := B.notSynchronized
  have hts := atoms_spec (ws := wsX0_hasOneOf) B.pre
  have htb := fun (w : Cond) (h : w ∈ qTb) => hts w (List.mem_cons_of_mem _ h)
  have hown : s.vm.findClass "GradeRows$Classes" = some m.cls := findClass_of_methodNamed B.named
  have hP : va_P G.1 vwCl [(h0, .inr (0, [.ref ql, .ref qh, .int (nI n)])), (ql, .inl (G.2.2.1, 20, .inr (.inl lo))), (qh, .inl (G.2.2.1, 20, .inr (.inl hi)))] s.heap := hP
  have hl := lv_entry ([.ref h0, .long a, .long b]) (n := 6) (Nat.le_of_ble_eq_true rfl)
  rw [lg_entry_eq]
  generalize (lg_sl ([.ref h0, .long a, .long b]) ++ List.replicate (6 - (lg_sl ([.ref h0, .long a, .long b])).length) Slot.unset).toArray = ls at hl ⊢
  have hl : lv_has ls 6 [(0, .ref h0), (1, .long a), (3, .long b)] := hl
  refine lv_iconst (v := nI 0) hx hb dX0_hasOneOf_0 (by decide) ?_
  refine lv_istore (lv' := [(5, .int (nI 0)), (0, .ref h0), (1, .long a), (3, .long b)]) hx hb dX0_hasOneOf_1 hl (by decide) rfl (fun ls hl => ?_)
  have loop_3 : ∀ (N : Nat) (i : Nat) (ls : Array Slot), n - i < N → (i ≤ n) → (qm_ovl lo hi a b n 0 = qm_ovl lo hi a b (n - i) i) → lv_has ls 6 [(5, .int (nI i)), (0, .ref h0), (1, .long a), (3, .long b)] → W p l e (headSpec wsX0_hasOneOf ({ frames := 0, cells := 0, slots := 0, locals := 0 } : Room)).room s m ([.ref h0, .long a, .long b] : List Value).toArray below meth c s.heap [] 0 0 (MQ below (vp_Si (fun r => r = if qm_ovl lo hi a b n 0 = true then nI 1 else nI 0)) ([.ref h0, .long a, .long b] : List Value).toArray s 0 0 (fun _ => False)) (F0 m 3 ls []) := by
    intro N
    induction N with
    | zero => intro i ls hm; exact absurd hm (Nat.not_lt_zero _)
    | succ N ih_3 =>
      intro i ls hm hi1 hq hl
      refine lv_iload hx hb dX0_hasOneOf_3 (lv_at hl 0 rfl) ?_
      refine lv_aload_n hx hb dX0_hasOneOf_5 rfl (lv_at hl 1 rfl) ?_
      refine va_get (D := G.1) (ci := 0) (v := .int (nI n)) (C := "GradeRows$Classes") (T := TX0) (N := 3) hx hb htb inX0 hown hK hP 0 rfl rfl 2 (by decide) (htb _ qw_111) (fun _ h9 => h9) rfl dX0_hasOneOf_6 ?_
      refine lv_icmp_ge (tgt := 44) hx hb dX0_hasOneOf_9 (by decide) (fun c_1 => ?_) (fun c_1 => ?_)
      · have c_1 : n ≤ i := (nI_leI (by omega) (by omega)).mp c_1
        refine lv_iconst (v := nI 0) hx hb dX0_hasOneOf_44 (by decide) ?_
        exact W.zret (v := nI 0) (ty := .boolean) hx hb hr (by decide) (fun t9 ht9 hW9 => ⟨_, rfl, (if_neg (qm_ovl_end hq (by omega))).symm, ht9⟩) (fun q h => absurd h List.not_mem_nil) dX0_hasOneOf_45
      · have c_1 : ¬ (n ≤ i) := fun q9 => c_1 ((nI_leI (by omega) (by omega)).mpr q9)
        refine lv_aload_n hx hb dX0_hasOneOf_12 rfl (lv_at hl 1 rfl) ?_
        refine va_get (D := G.1) (ci := 0) (v := .ref ql) (C := "GradeRows$Classes") (T := TX0) (N := 3) hx hb htb inX0 hown hK hP 0 rfl rfl 0 (by decide) (htb _ qw_109) (fun _ h9 => h9) rfl dX0_hasOneOf_13 ?_
        refine lv_iload hx hb dX0_hasOneOf_16 (lv_at hl 0 rfl) ?_
        refine qk_lald hx hb hK hP 1 1 rfl rfl (i := i) (by omega) (by omega) (v := lo i) rfl dX0_hasOneOf_18 ?_
        refine lv_lload_n hx hb dX0_hasOneOf_19 rfl (lv_at hl 3 rfl) ?_
        refine W.lcmp hx hb dX0_hasOneOf_20 ?_
        refine lv_if_gt (tgt := 38) hx hb dX0_hasOneOf_21 (by decide) (fun c1 => ?_) (fun c1 => ?_)
        · have c1 : b < (lo i) := (lg_cmp_gt _ _).mp c1
          have c1n : ¬ lo i ≤ b := by rw [Int64.lt_iff_toInt_lt] at c1; rw [Int64.le_iff_toInt_le]; omega
          refine lv_iinc (v := nI (i + 1)) (lv' := [(5, .int (nI (i + 1))), (0, .ref h0), (1, .long a), (3, .long b)]) hx hb dX0_hasOneOf_38 hl (k := 0) rfl (nI_1 i) (by decide) rfl (fun ls hl => ?_)
          refine lv_goto (tgt := 3) hx hb dX0_hasOneOf_41 (by decide) ?_
          exact ih_3 (i + 1) ls (by omega) (by omega) (hq.trans (qm_ovl_next (by omega) (by first | (intro h; exact c1n h.1) | (intro h; exact c2n h.2)))) (lv_sub hl [0, 1, 2, 3] rfl)
        · have c1 : ¬ (b < (lo i)) := fun q9 => c1 ((lg_cmp_gt _ _).mpr q9)
          refine lv_lload_n hx hb dX0_hasOneOf_24 rfl (lv_at hl 2 rfl) ?_
          refine lv_aload_n hx hb dX0_hasOneOf_25 rfl (lv_at hl 1 rfl) ?_
          refine va_get (D := G.1) (ci := 0) (v := .ref qh) (C := "GradeRows$Classes") (T := TX0) (N := 3) hx hb htb inX0 hown hK hP 0 rfl rfl 1 (by decide) (htb _ qw_110) (fun _ h9 => h9) rfl dX0_hasOneOf_26 ?_
          refine lv_iload hx hb dX0_hasOneOf_29 (lv_at hl 0 rfl) ?_
          refine qk_lald hx hb hK hP 2 1 rfl rfl (i := i) (by omega) (by omega) (v := hi i) rfl dX0_hasOneOf_31 ?_
          refine W.lcmp hx hb dX0_hasOneOf_32 ?_
          refine lv_if_gt (tgt := 38) hx hb dX0_hasOneOf_33 (by decide) (fun c2 => ?_) (fun c2 => ?_)
          · have c2 : (hi i) < a := (lg_cmp_gt _ _).mp c2
            have c2n : ¬ a ≤ hi i := by rw [Int64.lt_iff_toInt_lt] at c2; rw [Int64.le_iff_toInt_le]; omega
            refine lv_iinc (v := nI (i + 1)) (lv' := [(5, .int (nI (i + 1))), (0, .ref h0), (1, .long a), (3, .long b)]) hx hb dX0_hasOneOf_38 hl (k := 0) rfl (nI_1 i) (by decide) rfl (fun ls hl => ?_)
            refine lv_goto (tgt := 3) hx hb dX0_hasOneOf_41 (by decide) ?_
            exact ih_3 (i + 1) ls (by omega) (by omega) (hq.trans (qm_ovl_next (by omega) (by first | (intro h; exact c1n h.1) | (intro h; exact c2n h.2)))) (lv_sub hl [0, 1, 2, 3] rfl)
          · have c2 : ¬ ((hi i) < a) := fun q9 => c2 ((lg_cmp_gt _ _).mpr q9)
            refine lv_iconst (v := nI 1) hx hb dX0_hasOneOf_36 (by decide) ?_
            exact W.zret (v := nI 1) (ty := .boolean) hx hb hr (by decide) (fun t9 ht9 hW9 => ⟨_, rfl, (if_pos (qm_ovl_hit hq (by omega) (qm_lnlt c1) (qm_lnlt c2))).symm, ht9⟩) (fun q h => absurd h List.not_mem_nil) dX0_hasOneOf_37
  exact loop_3 (n - 0 + 1) 0 ls (by omega) (Nat.zero_le n) rfl (lv_sub hl [0, 1, 2, 3] rfl)

set_option maxHeartbeats 4000000 in
set_option maxRecDepth 100000 in
/-- Classes.add, refused -/
theorem qc_C_add0 (l : Launch) (G : qG) (h0 : Nat) (ql : Nat) (qh : Nat) (n : Nat) (lo : Nat → Int64) (hi : Nat → Int64) (a : Int64) (b : Int64) (hn : n ≤ 20) (hno : n = 20 ∨ qm_ovl lo hi a b n 0 = true) : Met l yX0_add wsX0_add ({ frames := 1, cells := 0, slots := 0, locals := 25 } : Room) (va_Pc [.ref h0, .long a, .long b] (qk_pre G vwCl [(h0, .inr (0, [.ref ql, .ref qh, .int (nI n)])), (ql, .inl (G.2.2.1, 20, .inr (.inl lo))), (qh, .inl (G.2.2.1, 20, .inr (.inl hi)))])) (vp_Si (fun r => r = (-1))) 0 0 (fun _ => False) := by
  refine Met.ofW (cc := cX0_add) (maxL := 5) (ret := (some .int)) (by decide) rfl ?_
  intro p e s m args below meth c s₁ B hml hv
  obtain ⟨rfl, hP, hK, hN⟩ := hv
  have hx := B.exec
  have hb := B.bytes
  have hr := B.returns
  have hlocks := B.notSynchronized
  have hts := atoms_spec (ws := wsX0_add) B.pre
  have htb := fun (w : Cond) (h : w ∈ qTb) => hts w (List.mem_cons_of_mem _ h)
  have hown : s.vm.findClass "GradeRows$Classes" = some m.cls := findClass_of_methodNamed B.named
  have hP : va_P G.1 vwCl [(h0, .inr (0, [.ref ql, .ref qh, .int (nI n)])), (ql, .inl (G.2.2.1, 20, .inr (.inl lo))), (qh, .inl (G.2.2.1, 20, .inr (.inl hi)))] s.heap := hP
  have hl := lv_entry ([.ref h0, .long a, .long b]) (n := 5) (Nat.le_of_ble_eq_true rfl)
  rw [lg_entry_eq]
  generalize (lg_sl ([.ref h0, .long a, .long b]) ++ List.replicate (5 - (lg_sl ([.ref h0, .long a, .long b])).length) Slot.unset).toArray = ls at hl ⊢
  have hl : lv_has ls 5 [(0, .ref h0), (1, .long a), (3, .long b)] := hl
  refine lv_aload_n hx hb dX0_add_0 rfl (lv_at hl 0 rfl) ?_
  refine va_get (D := G.1) (ci := 0) (v := .int (nI n)) (C := "GradeRows$Classes") (T := TX0) (N := 3) hx hb htb inX0 hown hK hP 0 rfl rfl 2 (by decide) (htb _ qw_111) (fun _ h9 => h9) rfl dX0_add_1 ?_
  refine lv_bipush (v := nI 20) hx hb dX0_add_4 (by decide) ?_
  refine lv_icmp_ge (tgt := 18) hx hb dX0_add_6 (by decide) (fun c_1 => ?_) (fun c_1 => ?_)
  · have c_1 : 20 ≤ n := (nI_leI (by omega) (by omega)).mp c_1
    refine lv_iconst (v := (-1)) hx hb dX0_add_18 (by decide) ?_
    exact W.iret (v := (-1)) hx hb hr (fun t9 ht9 hW9 => ⟨_, rfl, rfl, ht9⟩) (fun q h => absurd h List.not_mem_nil) dX0_add_19
  · have c_1 : ¬ (20 ≤ n) := fun q9 => c_1 ((nI_leI (by omega) (by omega)).mpr q9)
    refine lv_aload_n hx hb dX0_add_9 rfl (lv_at hl 0 rfl) ?_
    refine lv_lload_n hx hb dX0_add_10 rfl (lv_at hl 1 rfl) ?_
    refine lv_lload_n hx hb dX0_add_11 rfl (lv_at hl 2 rfl) ?_
    have hPc := hP.sub (ws' := [(h0, .inr (0, [.ref ql, .ref qh, .int (nI n)])), (ql, .inl (G.2.2.1, 20, .inr (.inl lo))), (qh, .inl (G.2.2.1, 20, .inr (.inl hi)))]) [0, 1, 2] rfl
    refine vp_callSi (va_runV (As := [.long a, .long b]) (rest := []) ⟨hx, hb, hml, hown, htb⟩ (qc_C_ovl l G h0 ql qh n lo hi a b (by omega)) (cwV 2 htb (qW_V qw_264 qw_266 qw_1 qw_17 qw_267) rfl rfl rfl (by decide +kernel) ⟨Nat.le_of_ble_eq_true rfl, Nat.le_of_ble_eq_true rfl⟩) (qk_pv (ci := 0) (q0 := 0) hK hPc hN rfl rfl) rfl rfl hl.1 rfl (lv_room (Nat.le_of_ble_eq_true rfl)) dX0_add_12 ⟨Nat.le_of_ble_eq_true rfl, Nat.le_of_ble_eq_true rfl⟩).run (fun r_12 e_12 => ?_)
    have e_12 := e_12.symm
    subst e_12
    refine lv_if_eq (tgt := 20) hx hb dX0_add_15 (by decide) (fun co => ?_) (fun co => ?_)
    · have co : ¬ (qm_ovl lo hi a b n 0 = true) := fun q9 => qk_ite0.mpr q9 co
      rcases hno with h | h
      · omega
      · exact absurd h co
    · have co : qm_ovl lo hi a b n 0 = true := qk_ite0.mp co
      refine lv_iconst (v := (-1)) hx hb dX0_add_18 (by decide) ?_
      exact W.iret (v := (-1)) hx hb hr (fun t9 ht9 hW9 => ⟨_, rfl, rfl, ht9⟩) (fun q h => absurd h List.not_mem_nil) dX0_add_19

set_option maxHeartbeats 4000000 in
set_option maxRecDepth 100000 in
/-- Classes.add -/
theorem qc_C_add1 (l : Launch) (G : qG) (h0 : Nat) (ql : Nat) (qh : Nat) (n : Nat) (lo : Nat → Int64) (hi : Nat → Int64) (a : Int64) (b : Int64) (sz : Nat) (hn : n < 20) (hno : ¬ qm_ovl lo hi a b n 0 = true) : Met l yX0_add wsX0_add ({ frames := 1, cells := 0, slots := 0, locals := 25 } : Room) (va_Pc [.ref h0, .long a, .long b] (qk_prw G vwCl [(h0, .inr (0, [.ref ql, .ref qh, .int (nI n)])), (ql, .inl (G.2.2.1, 20, .inr (.inl lo))), (qh, .inl (G.2.2.1, 20, .inr (.inl hi)))] sz)) (va_Qi (fun (r : Int32) (_ : Unit) => r = nI n) (qk_B G vwCl (va_A [(h0, .inr (0, [.ref ql, .ref qh, .int (nI n)])), (ql, .inl (G.2.2.1, 20, .inr (.inl lo))), (qh, .inl (G.2.2.1, 20, .inr (.inl hi)))] sz) (fun (_ : Unit) => [(h0, .inr (0, [.ref ql, .ref qh, .int (nI (n + 1))])), (ql, .inl (G.2.2.1, 20, .inr (.inl (vp_updL lo n a)))), (qh, .inl (G.2.2.1, 20, .inr (.inl (vp_updL hi n b))))])) (va_A [(h0, .inr (0, [.ref ql, .ref qh, .int (nI n)])), (ql, .inl (G.2.2.1, 20, .inr (.inl lo))), (qh, .inl (G.2.2.1, 20, .inr (.inl hi)))] sz)) 0 0 (va_A [(h0, .inr (0, [.ref ql, .ref qh, .int (nI n)])), (ql, .inl (G.2.2.1, 20, .inr (.inl lo))), (qh, .inl (G.2.2.1, 20, .inr (.inl hi)))] sz) := by
  refine Met.ofW (cc := cX0_add) (maxL := 5) (ret := (some .int)) (by decide) rfl ?_
  intro p e s m args below meth c s₁ B hml hv
  obtain ⟨rfl, hsz, hP, hK, hD0, hN⟩ := hv
  have hx := B.exec
  have hb := B.bytes
  have hr := B.returns
  have hlocks := B.notSynchronized
  have hts := atoms_spec (ws := wsX0_add) B.pre
  have htb := fun (w : Cond) (h : w ∈ qTb) => hts w (List.mem_cons_of_mem _ h)
  have hown : s.vm.findClass "GradeRows$Classes" = some m.cls := findClass_of_methodNamed B.named
  subst hsz
  have hD := hD0.self (sz := s.heap.size)
  generalize hAe : va_A [(h0, .inr (0, [.ref ql, .ref qh, .int (nI n)])), (ql, .inl (G.2.2.1, 20, .inr (.inl lo))), (qh, .inl (G.2.2.1, 20, .inr (.inl hi)))] s.heap.size = A at hD ⊢
  have hA : ∀ q : Nat, s.heap.size ≤ q → A q := fun q h => by rw [← hAe]; exact Or.inr h
  have hS : va_S A s.heap s.heap [] := va_S.rf
  have hP : va_P G.1 vwCl [(h0, .inr (0, [.ref ql, .ref qh, .int (nI n)])), (ql, .inl (G.2.2.1, 20, .inr (.inl lo))), (qh, .inl (G.2.2.1, 20, .inr (.inl hi)))] s.heap := hP
  have hl := lv_entry ([.ref h0, .long a, .long b]) (n := 5) (Nat.le_of_ble_eq_true rfl)
  rw [lg_entry_eq]
  generalize (lg_sl ([.ref h0, .long a, .long b]) ++ List.replicate (5 - (lg_sl ([.ref h0, .long a, .long b])).length) Slot.unset).toArray = ls at hl ⊢
  have hl : lv_has ls 5 [(0, .ref h0), (1, .long a), (3, .long b)] := hl
  refine lv_aload_n hx hb dX0_add_0 rfl (lv_at hl 0 rfl) ?_
  refine va_get (D := G.1) (ci := 0) (v := .int (nI n)) (C := "GradeRows$Classes") (T := TX0) (N := 3) hx hb htb inX0 hown hK hP 0 rfl rfl 2 (by decide) (htb _ qw_111) (fun _ h9 => h9) rfl dX0_add_1 ?_
  refine lv_bipush (v := nI 20) hx hb dX0_add_4 (by decide) ?_
  refine lv_icmp_ge (tgt := 18) hx hb dX0_add_6 (by decide) (fun c_1 => ?_) (fun c_1 => ?_)
  · have c_1 : 20 ≤ n := (nI_leI (by omega) (by omega)).mp c_1
    exfalso; omega
  · have c_1 : ¬ (20 ≤ n) := fun q9 => c_1 ((nI_leI (by omega) (by omega)).mpr q9)
    refine lv_aload_n hx hb dX0_add_9 rfl (lv_at hl 0 rfl) ?_
    refine lv_lload_n hx hb dX0_add_10 rfl (lv_at hl 1 rfl) ?_
    refine lv_lload_n hx hb dX0_add_11 rfl (lv_at hl 2 rfl) ?_
    have hPc := hP.sub (ws' := [(h0, .inr (0, [.ref ql, .ref qh, .int (nI n)])), (ql, .inl (G.2.2.1, 20, .inr (.inl lo))), (qh, .inl (G.2.2.1, 20, .inr (.inl hi)))]) [0, 1, 2] rfl
    refine vp_callSi (va_runV (As := [.long a, .long b]) (rest := []) ⟨hx, hb, hml, hown, htb⟩ (qc_C_ovl l G h0 ql qh n lo hi a b (by omega)) (cwV 2 htb (qW_V qw_264 qw_266 qw_1 qw_17 qw_267) rfl rfl rfl (by decide +kernel) ⟨Nat.le_of_ble_eq_true rfl, Nat.le_of_ble_eq_true rfl⟩) (qk_pv (ci := 0) (q0 := 0) hK hPc hN rfl rfl) rfl rfl hl.1 rfl (lv_room (Nat.le_of_ble_eq_true rfl)) dX0_add_12 ⟨Nat.le_of_ble_eq_true rfl, Nat.le_of_ble_eq_true rfl⟩).run (fun r_12 e_12 => ?_)
    have e_12 := e_12.symm
    subst e_12
    refine lv_if_eq (tgt := 20) hx hb dX0_add_15 (by decide) (fun co => ?_) (fun co => ?_)
    · have co : ¬ (qm_ovl lo hi a b n 0 = true) := fun q9 => qk_ite0.mpr q9 co
      refine lv_aload_n hx hb dX0_add_20 rfl (lv_at hl 0 rfl) ?_
      refine va_get (D := G.1) (ci := 0) (v := .ref ql) (C := "GradeRows$Classes") (T := TX0) (N := 3) hx hb htb inX0 hown hK hP 0 rfl rfl 0 (by decide) (htb _ qw_109) (fun _ h9 => h9) rfl dX0_add_21 ?_
      refine lv_aload_n hx hb dX0_add_24 rfl (lv_at hl 0 rfl) ?_
      refine va_get (D := G.1) (ci := 0) (v := .int (nI n)) (C := "GradeRows$Classes") (T := TX0) (N := 3) hx hb htb inX0 hown hK hP 0 rfl rfl 2 (by decide) (htb _ qw_111) (fun _ h9 => h9) rfl dX0_add_25 ?_
      refine lv_lload_n hx hb dX0_add_28 rfl (lv_at hl 1 rfl) ?_
      refine qk_last hx hb hK hP hD hS 1 1 rfl rfl (i := n) (by omega) (by omega) dX0_add_29 (fun H locs hP hD hS => ?_)
      have hP : va_P G.1 vwCl [(h0, .inr (0, [.ref ql, .ref qh, .int (nI n)])), (ql, .inl (G.2.2.1, 20, .inr (.inl (vp_updL lo n a)))), (qh, .inl (G.2.2.1, 20, .inr (.inl hi)))] H := hP
      have hD : va_D A [(h0, .inr (0, [.ref ql, .ref qh, .int (nI n)])), (ql, .inl (G.2.2.1, 20, .inr (.inl (vp_updL lo n a)))), (qh, .inl (G.2.2.1, 20, .inr (.inl hi)))] := hD
      refine lv_aload_n hx hb dX0_add_30 rfl (lv_at hl 0 rfl) ?_
      refine va_get (D := G.1) (ci := 0) (v := .ref qh) (C := "GradeRows$Classes") (T := TX0) (N := 3) hx hb htb inX0 hown hK hP 0 rfl rfl 1 (by decide) (htb _ qw_110) (fun _ h9 => h9) rfl dX0_add_31 ?_
      refine lv_aload_n hx hb dX0_add_34 rfl (lv_at hl 0 rfl) ?_
      refine va_get (D := G.1) (ci := 0) (v := .int (nI n)) (C := "GradeRows$Classes") (T := TX0) (N := 3) hx hb htb inX0 hown hK hP 0 rfl rfl 2 (by decide) (htb _ qw_111) (fun _ h9 => h9) rfl dX0_add_35 ?_
      refine lv_lload_n hx hb dX0_add_38 rfl (lv_at hl 2 rfl) ?_
      refine qk_last hx hb hK hP hD hS 2 1 rfl rfl (i := n) (by omega) (by omega) dX0_add_39 (fun H locs hP hD hS => ?_)
      have hP : va_P G.1 vwCl [(h0, .inr (0, [.ref ql, .ref qh, .int (nI n)])), (ql, .inl (G.2.2.1, 20, .inr (.inl (vp_updL lo n a)))), (qh, .inl (G.2.2.1, 20, .inr (.inl (vp_updL hi n b))))] H := hP
      have hD : va_D A [(h0, .inr (0, [.ref ql, .ref qh, .int (nI n)])), (ql, .inl (G.2.2.1, 20, .inr (.inl (vp_updL lo n a)))), (qh, .inl (G.2.2.1, 20, .inr (.inl (vp_updL hi n b))))] := hD
      refine lv_aload_n hx hb dX0_add_40 rfl (lv_at hl 0 rfl) ?_
      refine lv_dup hx hb dX0_add_41 rfl ?_
      refine va_get (D := G.1) (ci := 0) (v := .int (nI n)) (C := "GradeRows$Classes") (T := TX0) (N := 3) hx hb htb inX0 hown hK hP 0 rfl rfl 2 (by decide) (htb _ qw_111) (fun _ h9 => h9) rfl dX0_add_42 ?_
      refine lv_iconst (v := nI 1) hx hb dX0_add_45 (by decide) ?_
      refine lv_iadd hx hb dX0_add_46 ?_
      refine qk_topi (t := nI (n + 1)) ((nI_add _ _).trans rfl) ?_
      refine va_put (D := G.1) (ci := 0) (v := .int (nI (n + 1))) (ty := .int) (C := "GradeRows$Classes") (T := TX0) (N := 3) hx hb htb inX0 tyX0 tyX0_ok nmX0 hown hK hP hD hS 0 rfl rfl 2 (by decide) (htb _ qw_111) (fun _ h9 => h9) rfl (by decide +kernel) rfl rfl (Nat.le_of_ble_eq_true rfl) dX0_add_47 (fun H locs hP hD hS => ?_)
      have hP : va_P G.1 vwCl [(h0, .inr (0, [.ref ql, .ref qh, .int (nI (n + 1))])), (ql, .inl (G.2.2.1, 20, .inr (.inl (vp_updL lo n a)))), (qh, .inl (G.2.2.1, 20, .inr (.inl (vp_updL hi n b))))] H := hP
      have hD : va_D A [(h0, .inr (0, [.ref ql, .ref qh, .int (nI (n + 1))])), (ql, .inl (G.2.2.1, 20, .inr (.inl (vp_updL lo n a)))), (qh, .inl (G.2.2.1, 20, .inr (.inl (vp_updL hi n b))))] := hD
      refine lv_aload_n hx hb dX0_add_50 rfl (lv_at hl 0 rfl) ?_
      refine va_get (D := G.1) (ci := 0) (v := .int (nI (n + 1))) (C := "GradeRows$Classes") (T := TX0) (N := 3) hx hb htb inX0 hown hK hP 0 rfl rfl 2 (by decide) (htb _ qw_111) (fun _ h9 => h9) rfl dX0_add_51 ?_
      refine lv_iconst (v := nI 1) hx hb dX0_add_54 (by decide) ?_
      refine lv_isub hx hb dX0_add_55 ?_
      refine qk_topi (t := nI n) (nI_pred n) ?_
      have hP9 := hP.sub (ws' := [(h0, .inr (0, [.ref ql, .ref qh, .int (nI (n + 1))])), (ql, .inl (G.2.2.1, 20, .inr (.inl (vp_updL lo n a)))), (qh, .inl (G.2.2.1, 20, .inr (.inl (vp_updL hi n b))))]) [0, 1, 2] rfl
      have hD9 := hD.sub (ws' := [(h0, .inr (0, [.ref ql, .ref qh, .int (nI (n + 1))])), (ql, .inl (G.2.2.1, 20, .inr (.inl (vp_updL lo n a)))), (qh, .inl (G.2.2.1, 20, .inr (.inl (vp_updL hi n b))))]) [0, 1, 2] (by decide) rfl
      exact W.iret (v := nI n) hx hb hr (fun t9 ht9 hW9 => ⟨⟨_, (), rfl, rfl, by rw [ht9]; exact hP9, va_K.moved hW9.alike hK, hD9⟩, hS.F ht9⟩) hS.2.2 dX0_add_56
    · have co : qm_ovl lo hi a b n 0 = true := qk_ite0.mp co
      exact absurd co hno
