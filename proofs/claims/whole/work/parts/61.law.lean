theorem qk_keepw {D : va_G} {cl : List vw_C} {A : Nat → Prop} {x y z t : va_W} {H : Heap} (hP : va_P D cl ((x ++ y) ++ (z ++ t)) H) (hD : va_D A ((x ++ y) ++ (z ++ t))) : va_P D cl (x ++ ((z ++ y) ++ t)) H ∧ va_D A (x ++ ((z ++ y) ++ t)) := by
  refine ⟨qk_mem hP (fun q h => ?_), ?_⟩
  · simp only [List.mem_append] at h ⊢
    rcases h with h | (h | h) | h
    · exact Or.inl (Or.inl h)
    · exact Or.inr (Or.inl h)
    · exact Or.inl (Or.inr h)
    · exact Or.inr (Or.inr h)
  · have a : va_D A (((x ++ y) ++ z) ++ t) := by rw [List.append_assoc (x ++ y) z t]; exact hD
    have hq : ∀ (a b c d : va_W), va_D A (((a ++ b) ++ c) ++ d) → va_D A (((a ++ c) ++ b) ++ d) := fun a b c d h => by
      have h1 := qk_rot h
      rw [← List.append_assoc, ← List.append_assoc] at h1
      have h2 := va_D.swap h1
      rw [List.append_assoc, List.append_assoc] at h2
      have h3 := qk_rot h2
      rw [← List.append_assoc] at h3
      exact h3
    have b := hq x y z t a
    rw [← List.append_assoc x (z ++ y) t, ← List.append_assoc x z y]
    exact b

set_option maxHeartbeats 4000000 in
set_option maxRecDepth 100000 in
theorem ql_c0 {p : Program} {l : Launch} {e : Env} {s : State} {m : MethodId} {below : List Frame} {meth : Method} {c : Code} {b0 L : Nat} {xs : Nat → Int32} (G : qG) (Q : State → Prop) (hx : p.tables.exec = Jvm.exec) (hb : c.code = code) (hml : c.maxLocals = 4) (hown : s.vm.findClass "GradeRowsLaw" = some m.cls) (htb : ∀ w ∈ qTb, w.before #[Value.ref b0] s = true) (hN : qNw s) (hK : va_K G.1 vwCl (qTy G) s) (hX : va_X b0 L xs s s.heap) (hbl : b0 < s.heap.size) (hL : L ≤ 2560) {i C S : Nat} (hi : i + 5 ≤ L) (hC : C + 5 ≤ 600000) (hS0 : S + 407 ≤ 7302250) {ax am : Nat} {fk : Nat → Option Nat} {z : qZ} {wX kw wM : va_W} {H : Heap} {locs : List Loc} (I : qInv G s ax am fk z wX kw wM H locs) {ls : Array Slot} (hl : lv_has ls 4 [(3, .int (nI i)), (2, .ref am), (1, .ref ax), (0, .ref b0)]) (kk : ∀ (fk : Nat → Option Nat) (z : qZ) (wX kw wM : va_W) (H : Heap) (locs : List Loc), qInv G s ax am fk z wX kw wM H locs → W p l e room_1 s m #[Value.ref b0] below meth c H locs (C + 5) (S + 407) Q (F0 m 607 ls [])) : W p l e room_1 s m #[Value.ref b0] below meth c H locs C S Q (F0 m 120 ls []) := by
  obtain ⟨⟨nr, w, x⟩, ⟨sz0, st⟩, ⟨nc, lo, hi⟩, kn, cur⟩ := z
  obtain ⟨hok, hXr, hKr, hMr, hP, hD, hS⟩ := I
  have hA : ∀ q : Nat, s.heap.size ≤ q → (fun q : Nat => s.heap.size ≤ q) q := fun _ h => h
  have hbA : ¬ (fun q : Nat => s.heap.size ≤ q) b0 := Nat.not_le.mpr hbl
  obtain ⟨fsx, hx0⟩ := qX_head hXr
  obtain ⟨fsm, hm0⟩ := qM_head hMr
  refine lv_aload_n hx hb dL_law_120 rfl (lv_at hl 2 rfl) ?_
  refine lv_aload_n hx hb dL_law_121 rfl (lv_at hl 3 rfl) ?_
  refine lv_iload_n hx hb dL_law_122 rfl (lv_at hl 0 rfl) ?_
  refine lv_iconst (v := nI 1) hx hb dL_law_123 (by decide) ?_
  refine lv_iadd hx hb dL_law_124 ?_
  refine qk_topi (t := nI (i + 1)) ((nI_add _ _).trans rfl) ?_
  refine va_sld hx hb hX hbl hbA hS (vp_in_nI (n := (i + 1)) (by omega) (by omega)) dL_law_125 ?_
  refine qk_topi (t := xs (i + 1)) (by rw [nI_clamp (by omega)]) ?_
  refine lv_aload_n hx hb dL_law_126 rfl (lv_at hl 3 rfl) ?_
  refine lv_iload_n hx hb dL_law_127 rfl (lv_at hl 0 rfl) ?_
  refine lv_iconst (v := nI 2) hx hb dL_law_128 (by decide) ?_
  refine lv_iadd hx hb dL_law_129 ?_
  refine qk_topi (t := nI (i + 2)) ((nI_add _ _).trans rfl) ?_
  refine va_sld hx hb hX hbl hbA hS (vp_in_nI (n := (i + 2)) (by omega) (by omega)) dL_law_130 ?_
  refine qk_topi (t := xs (i + 2)) (by rw [nI_clamp (by omega)]) ?_
  have hPx := qk_mem (wc := wX) hP (fun q h => List.mem_append_left _ h)
  have hDx := qk_left hD
  have hFx := qk_freeA hD hS hA
  refine va_calli (va_runV (As := [.int (xs (i + 1)), .int (xs (i + 2))]) (rest := []) ⟨hx, hb, hml, hown, htb⟩ (qc_X_rule l G ax fk nr w x sz0 st nc lo hi kn cur wX (xs (i + 1)) (xs (i + 2)) H.size hok hXr) (cwV 2 htb (qW_V qw_140 qw_141 qw_142 qw_13 qw_143) rfl rfl rfl (by decide +kernel) ⟨Nat.le_of_ble_eq_true rfl, Nat.le_of_ble_eq_true rfl⟩) (qk_pvw (ci := 5) (q0 := 0) hK hPx hN hDx rfl hx0) rfl rfl hl.1 rfl (lv_room (Nat.le_of_ble_eq_true rfl)) dL_law_131 ⟨by show _ ≤ 600000; omega, by show _ ≤ 7302250; omega⟩) hS (fun q _ h => hFx q h) hFx (fun r1 u1 t9 H1 locs ht9 hvm w1 hB hz1 hk1 hS => ?_)
  obtain ⟨hP1, hK1, hD1⟩ := hB
  rw [ht9] at hP1
  obtain ⟨hP, hD⟩ := qk_joinA hP hD hk1 hFx hP1 hD1
  obtain ⟨z1, wX1⟩ := u1
  obtain ⟨e1, ez, hXr⟩ := w1
  have ez : z1 = _ := ez
  subst ez
  have hP : va_P G.1 vwCl (wX1 ++ (kw ++ wM)) H1 := hP
  have hD : va_D (fun q : Nat => s.heap.size ≤ q) (wX1 ++ (kw ++ wM)) := hD
  refine lv_aload_n hx hb dL_law_134 rfl (lv_at hl 1 rfl) ?_
  refine lv_aload_n hx hb dL_law_135 rfl (lv_at hl 3 rfl) ?_
  refine lv_iload_n hx hb dL_law_136 rfl (lv_at hl 0 rfl) ?_
  refine lv_iconst (v := nI 1) hx hb dL_law_137 (by decide) ?_
  refine lv_iadd hx hb dL_law_138 ?_
  refine qk_topi (t := nI (i + 1)) ((nI_add _ _).trans rfl) ?_
  refine va_sld hx hb hX hbl hbA hS (vp_in_nI (n := (i + 1)) (by omega) (by omega)) dL_law_139 ?_
  refine qk_topi (t := xs (i + 1)) (by rw [nI_clamp (by omega)]) ?_
  refine lv_aload_n hx hb dL_law_140 rfl (lv_at hl 3 rfl) ?_
  refine lv_iload_n hx hb dL_law_141 rfl (lv_at hl 0 rfl) ?_
  refine lv_iconst (v := nI 2) hx hb dL_law_142 (by decide) ?_
  refine lv_iadd hx hb dL_law_143 ?_
  refine qk_topi (t := nI (i + 2)) ((nI_add _ _).trans rfl) ?_
  refine va_sld hx hb hX hbl hbA hS (vp_in_nI (n := (i + 2)) (by omega) (by omega)) dL_law_144 ?_
  refine qk_topi (t := xs (i + 2)) (by rw [nI_clamp (by omega)]) ?_
  obtain ⟨hP, hD⟩ := qk_turn hP hD
  have hPm := qk_mem (wc := wM) hP (fun q h => List.mem_append_left _ h)
  have hDm := qk_left hD
  have hFm := qk_freeA hD hS hA
  refine va_calli (va_runV (As := [.int (xs (i + 1)), .int (xs (i + 2))]) (rest := [.int r1]) ⟨hx, hb, hml, hown, htb⟩ (qc_M_rule l G am nr w x sz0 st nc lo hi kn cur wM (xs (i + 1)) (xs (i + 2)) H1.size hok hMr) (cwV 2 htb (qW_V qw_482 qw_483 qw_484 qw_18 qw_485) rfl rfl rfl (by decide +kernel) ⟨Nat.le_of_ble_eq_true rfl, Nat.le_of_ble_eq_true rfl⟩) (qk_pvw (ci := 6) (q0 := 0) hK hPm hN hDm rfl hm0) rfl rfl hl.1 rfl (lv_room (Nat.le_of_ble_eq_true rfl)) dL_law_145 ⟨by show _ ≤ 600000; omega, by show _ ≤ 7302250; omega⟩) hS (fun q _ h => hFm q h) hFm (fun r2 u2 t8 H2 locs ht8 hvm2 w2 hB2 hz2 hk2 hS => ?_)
  obtain ⟨hP2, hK2, hD2⟩ := hB2
  rw [ht8] at hP2
  obtain ⟨hP, hD⟩ := qk_joinA hP hD hk2 hFm hP2 hD2
  obtain ⟨z2, wM1⟩ := u2
  obtain ⟨e2, ez2, hMr⟩ := w2
  have ez2 : z2 = _ := ez2
  subst ez2
  have hP : va_P G.1 vwCl (wM1 ++ (wX1 ++ kw)) H2 := hP
  have hD : va_D (fun q : Nat => s.heap.size ≤ q) (wM1 ++ (wX1 ++ kw)) := hD
  obtain ⟨hP, hD⟩ := qk_back hP hD
  refine lv_icmp_eq (tgt := 607) hx hb dL_law_148 (by decide) (fun cq => ?_) (fun cq => ?_)
  · refine W.widen (k := C + 5) (n := S + 407) (by omega) (by omega) ?_
    exact kk _ (qo_rule (qZt nr w x sz0 st nc lo hi kn cur) (xs (i + 1)) (xs (i + 2))).2 _ _ _ _ _ ⟨qo_rule_ok hok (xs (i + 1)) (xs (i + 2)), hXr, qo_rule_K hok hKr (xs (i + 1)) (xs (i + 2)), hMr, hP, hD, hS⟩
  · exact absurd (e1.trans e2.symm) cq

set_option maxHeartbeats 4000000 in
set_option maxRecDepth 100000 in
theorem ql_c1 {p : Program} {l : Launch} {e : Env} {s : State} {m : MethodId} {below : List Frame} {meth : Method} {c : Code} {b0 L : Nat} {xs : Nat → Int32} (G : qG) (Q : State → Prop) (hx : p.tables.exec = Jvm.exec) (hb : c.code = code) (hml : c.maxLocals = 4) (hown : s.vm.findClass "GradeRowsLaw" = some m.cls) (htb : ∀ w ∈ qTb, w.before #[Value.ref b0] s = true) (hN : qNw s) (hK : va_K G.1 vwCl (qTy G) s) (hX : va_X b0 L xs s s.heap) (hbl : b0 < s.heap.size) (hL : L ≤ 2560) {i C S : Nat} (hi : i + 5 ≤ L) (hC : C + 5 ≤ 600000) (hS0 : S + 407 ≤ 7302250) {ax am : Nat} {fk : Nat → Option Nat} {z : qZ} {wX kw wM : va_W} {H : Heap} {locs : List Loc} (I : qInv G s ax am fk z wX kw wM H locs) {ls : Array Slot} (hl : lv_has ls 4 [(3, .int (nI i)), (2, .ref am), (1, .ref ax), (0, .ref b0)]) (kk : ∀ (fk : Nat → Option Nat) (z : qZ) (wX kw wM : va_W) (H : Heap) (locs : List Loc), qInv G s ax am fk z wX kw wM H locs → W p l e room_1 s m #[Value.ref b0] below meth c H locs (C + 5) (S + 407) Q (F0 m 607 ls [])) : W p l e room_1 s m #[Value.ref b0] below meth c H locs C S Q (F0 m 153 ls []) := by
  obtain ⟨⟨nr, w, x⟩, ⟨sz0, st⟩, ⟨nc, lo, hi⟩, kn, cur⟩ := z
  obtain ⟨hok, hXr, hKr, hMr, hP, hD, hS⟩ := I
  have hA : ∀ q : Nat, s.heap.size ≤ q → (fun q : Nat => s.heap.size ≤ q) q := fun _ h => h
  have hbA : ¬ (fun q : Nat => s.heap.size ≤ q) b0 := Nat.not_le.mpr hbl
  obtain ⟨fsx, hx0⟩ := qX_head hXr
  obtain ⟨fsm, hm0⟩ := qM_head hMr
  refine lv_aload_n hx hb dL_law_153 rfl (lv_at hl 2 rfl) ?_
  refine lv_aload_n hx hb dL_law_154 rfl (lv_at hl 3 rfl) ?_
  refine lv_iload_n hx hb dL_law_155 rfl (lv_at hl 0 rfl) ?_
  refine lv_iconst (v := nI 1) hx hb dL_law_156 (by decide) ?_
  refine lv_iadd hx hb dL_law_157 ?_
  refine qk_topi (t := nI (i + 1)) ((nI_add _ _).trans rfl) ?_
  refine va_sld hx hb hX hbl hbA hS (vp_in_nI (n := (i + 1)) (by omega) (by omega)) dL_law_158 ?_
  refine qk_topi (t := xs (i + 1)) (by rw [nI_clamp (by omega)]) ?_
  refine lv_aload_n hx hb dL_law_159 rfl (lv_at hl 3 rfl) ?_
  refine lv_iload_n hx hb dL_law_160 rfl (lv_at hl 0 rfl) ?_
  refine lv_iconst (v := nI 2) hx hb dL_law_161 (by decide) ?_
  refine lv_iadd hx hb dL_law_162 ?_
  refine qk_topi (t := nI (i + 2)) ((nI_add _ _).trans rfl) ?_
  refine va_sld hx hb hX hbl hbA hS (vp_in_nI (n := (i + 2)) (by omega) (by omega)) dL_law_163 ?_
  refine qk_topi (t := xs (i + 2)) (by rw [nI_clamp (by omega)]) ?_
  refine lv_aload_n hx hb dL_law_164 rfl (lv_at hl 3 rfl) ?_
  refine lv_iload_n hx hb dL_law_165 rfl (lv_at hl 0 rfl) ?_
  refine lv_iconst (v := nI 3) hx hb dL_law_166 (by decide) ?_
  refine lv_iadd hx hb dL_law_167 ?_
  refine qk_topi (t := nI (i + 3)) ((nI_add _ _).trans rfl) ?_
  refine va_sld hx hb hX hbl hbA hS (vp_in_nI (n := (i + 3)) (by omega) (by omega)) dL_law_168 ?_
  refine qk_topi (t := xs (i + 3)) (by rw [nI_clamp (by omega)]) ?_
  have hPx := qk_mem (wc := wX) hP (fun q h => List.mem_append_left _ h)
  have hDx := qk_left hD
  have hFx := qk_freeA hD hS hA
  refine va_calli (va_runV (As := [.int (xs (i + 1)), .int (xs (i + 2)), .int (xs (i + 3))]) (rest := []) ⟨hx, hb, hml, hown, htb⟩ (qc_X_used l G ax fk nr w x sz0 st nc lo hi kn cur wX (xs (i + 1)) (xs (i + 2)) (xs (i + 3)) H.size hok hXr) (cwV 3 htb (qW_V qw_152 qw_153 qw_154 qw_13 qw_155) rfl rfl rfl (by decide +kernel) ⟨Nat.le_of_ble_eq_true rfl, Nat.le_of_ble_eq_true rfl⟩) (qk_pvw (ci := 5) (q0 := 0) hK hPx hN hDx rfl hx0) rfl rfl hl.1 rfl (lv_room (Nat.le_of_ble_eq_true rfl)) dL_law_169 ⟨by show _ ≤ 600000; omega, by show _ ≤ 7302250; omega⟩) hS (fun q _ h => hFx q h) hFx (fun r1 u1 t9 H1 locs ht9 hvm w1 hB hz1 hk1 hS => ?_)
  obtain ⟨hP1, hK1, hD1⟩ := hB
  rw [ht9] at hP1
  obtain ⟨hP, hD⟩ := qk_joinA hP hD hk1 hFx hP1 hD1
  obtain ⟨z1, wX1⟩ := u1
  obtain ⟨e1, ez, hXr⟩ := w1
  have ez : z1 = _ := ez
  subst ez
  have hP : va_P G.1 vwCl (wX1 ++ (kw ++ wM)) H1 := hP
  have hD : va_D (fun q : Nat => s.heap.size ≤ q) (wX1 ++ (kw ++ wM)) := hD
  refine lv_aload_n hx hb dL_law_172 rfl (lv_at hl 1 rfl) ?_
  refine lv_aload_n hx hb dL_law_173 rfl (lv_at hl 3 rfl) ?_
  refine lv_iload_n hx hb dL_law_174 rfl (lv_at hl 0 rfl) ?_
  refine lv_iconst (v := nI 1) hx hb dL_law_175 (by decide) ?_
  refine lv_iadd hx hb dL_law_176 ?_
  refine qk_topi (t := nI (i + 1)) ((nI_add _ _).trans rfl) ?_
  refine va_sld hx hb hX hbl hbA hS (vp_in_nI (n := (i + 1)) (by omega) (by omega)) dL_law_177 ?_
  refine qk_topi (t := xs (i + 1)) (by rw [nI_clamp (by omega)]) ?_
  refine lv_aload_n hx hb dL_law_178 rfl (lv_at hl 3 rfl) ?_
  refine lv_iload_n hx hb dL_law_179 rfl (lv_at hl 0 rfl) ?_
  refine lv_iconst (v := nI 2) hx hb dL_law_180 (by decide) ?_
  refine lv_iadd hx hb dL_law_181 ?_
  refine qk_topi (t := nI (i + 2)) ((nI_add _ _).trans rfl) ?_
  refine va_sld hx hb hX hbl hbA hS (vp_in_nI (n := (i + 2)) (by omega) (by omega)) dL_law_182 ?_
  refine qk_topi (t := xs (i + 2)) (by rw [nI_clamp (by omega)]) ?_
  refine lv_aload_n hx hb dL_law_183 rfl (lv_at hl 3 rfl) ?_
  refine lv_iload_n hx hb dL_law_184 rfl (lv_at hl 0 rfl) ?_
  refine lv_iconst (v := nI 3) hx hb dL_law_185 (by decide) ?_
  refine lv_iadd hx hb dL_law_186 ?_
  refine qk_topi (t := nI (i + 3)) ((nI_add _ _).trans rfl) ?_
  refine va_sld hx hb hX hbl hbA hS (vp_in_nI (n := (i + 3)) (by omega) (by omega)) dL_law_187 ?_
  refine qk_topi (t := xs (i + 3)) (by rw [nI_clamp (by omega)]) ?_
  obtain ⟨hP, hD⟩ := qk_turn hP hD
  have hPm := qk_mem (wc := wM) hP (fun q h => List.mem_append_left _ h)
  have hDm := qk_left hD
  have hFm := qk_freeA hD hS hA
  refine va_calli (va_runV (As := [.int (xs (i + 1)), .int (xs (i + 2)), .int (xs (i + 3))]) (rest := [.int r1]) ⟨hx, hb, hml, hown, htb⟩ (qc_M_used l G am nr w x sz0 st nc lo hi kn cur wM (xs (i + 1)) (xs (i + 2)) (xs (i + 3)) H1.size hok hMr) (cwV 3 htb (qW_V qw_487 qw_488 qw_489 qw_18 qw_490) rfl rfl rfl (by decide +kernel) ⟨Nat.le_of_ble_eq_true rfl, Nat.le_of_ble_eq_true rfl⟩) (qk_pvw (ci := 6) (q0 := 0) hK hPm hN hDm rfl hm0) rfl rfl hl.1 rfl (lv_room (Nat.le_of_ble_eq_true rfl)) dL_law_188 ⟨by show _ ≤ 600000; omega, by show _ ≤ 7302250; omega⟩) hS (fun q _ h => hFm q h) hFm (fun r2 u2 t8 H2 locs ht8 hvm2 w2 hB2 hz2 hk2 hS => ?_)
  obtain ⟨hP2, hK2, hD2⟩ := hB2
  rw [ht8] at hP2
  obtain ⟨hP, hD⟩ := qk_joinA hP hD hk2 hFm hP2 hD2
  obtain ⟨z2, wM1⟩ := u2
  obtain ⟨e2, ez2, hMr⟩ := w2
  have ez2 : z2 = _ := ez2
  subst ez2
  have hP : va_P G.1 vwCl (wM1 ++ (wX1 ++ kw)) H2 := hP
  have hD : va_D (fun q : Nat => s.heap.size ≤ q) (wM1 ++ (wX1 ++ kw)) := hD
  obtain ⟨hP, hD⟩ := qk_back hP hD
  refine lv_icmp_eq (tgt := 607) hx hb dL_law_191 (by decide) (fun cq => ?_) (fun cq => ?_)
  · refine W.widen (k := C + 5) (n := S + 407) (by omega) (by omega) ?_
    exact kk _ (qo_used (qZt nr w x sz0 st nc lo hi kn cur) (xs (i + 1)) (xs (i + 2)) (xs (i + 3))).2 _ _ _ _ _ ⟨qo_used_ok hok (xs (i + 1)) (xs (i + 2)) (xs (i + 3)), hXr, qo_used_K hok hKr (xs (i + 1)) (xs (i + 2)) (xs (i + 3)), hMr, hP, hD, hS⟩
  · exact absurd (e1.trans e2.symm) cq

set_option maxHeartbeats 4000000 in
set_option maxRecDepth 100000 in
theorem ql_c2 {p : Program} {l : Launch} {e : Env} {s : State} {m : MethodId} {below : List Frame} {meth : Method} {c : Code} {b0 L : Nat} {xs : Nat → Int32} (G : qG) (Q : State → Prop) (hx : p.tables.exec = Jvm.exec) (hb : c.code = code) (hml : c.maxLocals = 4) (hown : s.vm.findClass "GradeRowsLaw" = some m.cls) (htb : ∀ w ∈ qTb, w.before #[Value.ref b0] s = true) (hN : qNw s) (hK : va_K G.1 vwCl (qTy G) s) (hX : va_X b0 L xs s s.heap) (hbl : b0 < s.heap.size) (hL : L ≤ 2560) {i C S : Nat} (hi : i + 5 ≤ L) (hC : C + 5 ≤ 600000) (hS0 : S + 407 ≤ 7302250) {ax am : Nat} {fk : Nat → Option Nat} {z : qZ} {wX kw wM : va_W} {H : Heap} {locs : List Loc} (I : qInv G s ax am fk z wX kw wM H locs) {ls : Array Slot} (hl : lv_has ls 4 [(3, .int (nI i)), (2, .ref am), (1, .ref ax), (0, .ref b0)]) (kk : ∀ (fk : Nat → Option Nat) (z : qZ) (wX kw wM : va_W) (H : Heap) (locs : List Loc), qInv G s ax am fk z wX kw wM H locs → W p l e room_1 s m #[Value.ref b0] below meth c H locs (C + 5) (S + 407) Q (F0 m 607 ls [])) : W p l e room_1 s m #[Value.ref b0] below meth c H locs C S Q (F0 m 196 ls []) := by
  obtain ⟨⟨nr, w, x⟩, ⟨sz0, st⟩, ⟨nc, lo, hi⟩, kn, cur⟩ := z
  obtain ⟨hok, hXr, hKr, hMr, hP, hD, hS⟩ := I
  have hA : ∀ q : Nat, s.heap.size ≤ q → (fun q : Nat => s.heap.size ≤ q) q := fun _ h => h
  have hbA : ¬ (fun q : Nat => s.heap.size ≤ q) b0 := Nat.not_le.mpr hbl
  obtain ⟨fsx, hx0⟩ := qX_head hXr
  obtain ⟨fsm, hm0⟩ := qM_head hMr
  refine lv_aload_n hx hb dL_law_196 rfl (lv_at hl 2 rfl) ?_
  refine lv_aload_n hx hb dL_law_197 rfl (lv_at hl 3 rfl) ?_
  refine lv_iload_n hx hb dL_law_198 rfl (lv_at hl 0 rfl) ?_
  refine lv_iconst (v := nI 1) hx hb dL_law_199 (by decide) ?_
  refine lv_iadd hx hb dL_law_200 ?_
  refine qk_topi (t := nI (i + 1)) ((nI_add _ _).trans rfl) ?_
  refine va_sld hx hb hX hbl hbA hS (vp_in_nI (n := (i + 1)) (by omega) (by omega)) dL_law_201 ?_
  refine qk_topi (t := xs (i + 1)) (by rw [nI_clamp (by omega)]) ?_
  have hPx := qk_mem (wc := wX) hP (fun q h => List.mem_append_left _ h)
  have hDx := qk_left hD
  have hFx := qk_freeA hD hS hA
  refine va_calli (va_runV (As := [.int (xs (i + 1))]) (rest := []) ⟨hx, hb, hml, hown, htb⟩ (qc_X_guess l G ax fk nr w x sz0 st nc lo hi kn cur wX (xs (i + 1)) H.size hok hXr) (cwV 1 htb (qW_V qw_189 qw_190 qw_191 qw_13 qw_192) rfl rfl rfl (by decide +kernel) ⟨Nat.le_of_ble_eq_true rfl, Nat.le_of_ble_eq_true rfl⟩) (qk_pvw (ci := 5) (q0 := 0) hK hPx hN hDx rfl hx0) rfl rfl hl.1 rfl (lv_room (Nat.le_of_ble_eq_true rfl)) dL_law_202 ⟨by show _ ≤ 600000; omega, by show _ ≤ 7302250; omega⟩) hS (fun q _ h => hFx q h) hFx (fun r1 u1 t9 H1 locs ht9 hvm w1 hB hz1 hk1 hS => ?_)
  obtain ⟨hP1, hK1, hD1⟩ := hB
  rw [ht9] at hP1
  obtain ⟨hP, hD⟩ := qk_joinA hP hD hk1 hFx hP1 hD1
  obtain ⟨z1, wX1⟩ := u1
  obtain ⟨e1, ez, hXr⟩ := w1
  have ez : z1 = _ := ez
  subst ez
  have hP : va_P G.1 vwCl (wX1 ++ (kw ++ wM)) H1 := hP
  have hD : va_D (fun q : Nat => s.heap.size ≤ q) (wX1 ++ (kw ++ wM)) := hD
  refine lv_aload_n hx hb dL_law_205 rfl (lv_at hl 1 rfl) ?_
  refine lv_aload_n hx hb dL_law_206 rfl (lv_at hl 3 rfl) ?_
  refine lv_iload_n hx hb dL_law_207 rfl (lv_at hl 0 rfl) ?_
  refine lv_iconst (v := nI 1) hx hb dL_law_208 (by decide) ?_
  refine lv_iadd hx hb dL_law_209 ?_
  refine qk_topi (t := nI (i + 1)) ((nI_add _ _).trans rfl) ?_
  refine va_sld hx hb hX hbl hbA hS (vp_in_nI (n := (i + 1)) (by omega) (by omega)) dL_law_210 ?_
  refine qk_topi (t := xs (i + 1)) (by rw [nI_clamp (by omega)]) ?_
  obtain ⟨hP, hD⟩ := qk_turn hP hD
  have hPm := qk_mem (wc := wM) hP (fun q h => List.mem_append_left _ h)
  have hDm := qk_left hD
  have hFm := qk_freeA hD hS hA
  refine va_calli (va_runV (As := [.int (xs (i + 1))]) (rest := [.int r1]) ⟨hx, hb, hml, hown, htb⟩ (qc_M_guess l G am nr w x sz0 st nc lo hi kn cur wM (xs (i + 1)) H1.size hok hMr) (cwV 1 htb (qW_V qw_499 qw_500 qw_501 qw_18 qw_502) rfl rfl rfl (by decide +kernel) ⟨Nat.le_of_ble_eq_true rfl, Nat.le_of_ble_eq_true rfl⟩) (qk_pvw (ci := 6) (q0 := 0) hK hPm hN hDm rfl hm0) rfl rfl hl.1 rfl (lv_room (Nat.le_of_ble_eq_true rfl)) dL_law_211 ⟨by show _ ≤ 600000; omega, by show _ ≤ 7302250; omega⟩) hS (fun q _ h => hFm q h) hFm (fun r2 u2 t8 H2 locs ht8 hvm2 w2 hB2 hz2 hk2 hS => ?_)
  obtain ⟨hP2, hK2, hD2⟩ := hB2
  rw [ht8] at hP2
  obtain ⟨hP, hD⟩ := qk_joinA hP hD hk2 hFm hP2 hD2
  obtain ⟨z2, wM1⟩ := u2
  obtain ⟨e2, ez2, hMr⟩ := w2
  have ez2 : z2 = _ := ez2
  subst ez2
  have hP : va_P G.1 vwCl (wM1 ++ (wX1 ++ kw)) H2 := hP
  have hD : va_D (fun q : Nat => s.heap.size ≤ q) (wM1 ++ (wX1 ++ kw)) := hD
  obtain ⟨hP, hD⟩ := qk_back hP hD
  refine lv_icmp_eq (tgt := 607) hx hb dL_law_214 (by decide) (fun cq => ?_) (fun cq => ?_)
  · refine W.widen (k := C + 5) (n := S + 407) (by omega) (by omega) ?_
    exact kk _ (qo_guess (qZt nr w x sz0 st nc lo hi kn cur) (xs (i + 1))).2 _ _ _ _ _ ⟨qo_guess_ok hok (xs (i + 1)), hXr, qo_guess_K hok hKr (xs (i + 1)), hMr, hP, hD, hS⟩
  · exact absurd (e1.trans e2.symm) cq

set_option maxHeartbeats 4000000 in
set_option maxRecDepth 100000 in
theorem ql_c3 {p : Program} {l : Launch} {e : Env} {s : State} {m : MethodId} {below : List Frame} {meth : Method} {c : Code} {b0 L : Nat} {xs : Nat → Int32} (G : qG) (Q : State → Prop) (hx : p.tables.exec = Jvm.exec) (hb : c.code = code) (hml : c.maxLocals = 4) (hown : s.vm.findClass "GradeRowsLaw" = some m.cls) (htb : ∀ w ∈ qTb, w.before #[Value.ref b0] s = true) (hN : qNw s) (hK : va_K G.1 vwCl (qTy G) s) (hX : va_X b0 L xs s s.heap) (hbl : b0 < s.heap.size) (hL : L ≤ 2560) {i C S : Nat} (hi : i + 5 ≤ L) (hC : C + 5 ≤ 600000) (hS0 : S + 407 ≤ 7302250) {ax am : Nat} {fk : Nat → Option Nat} {z : qZ} {wX kw wM : va_W} {H : Heap} {locs : List Loc} (I : qInv G s ax am fk z wX kw wM H locs) {ls : Array Slot} (hl : lv_has ls 4 [(3, .int (nI i)), (2, .ref am), (1, .ref ax), (0, .ref b0)]) (kk : ∀ (fk : Nat → Option Nat) (z : qZ) (wX kw wM : va_W) (H : Heap) (locs : List Loc), qInv G s ax am fk z wX kw wM H locs → W p l e room_1 s m #[Value.ref b0] below meth c H locs (C + 5) (S + 407) Q (F0 m 607 ls [])) : W p l e room_1 s m #[Value.ref b0] below meth c H locs C S Q (F0 m 219 ls []) := by
  obtain ⟨⟨nr, w, x⟩, ⟨sz0, st⟩, ⟨nc, lo, hi⟩, kn, cur⟩ := z
  obtain ⟨hok, hXr, hKr, hMr, hP, hD, hS⟩ := I
  have hA : ∀ q : Nat, s.heap.size ≤ q → (fun q : Nat => s.heap.size ≤ q) q := fun _ h => h
  have hbA : ¬ (fun q : Nat => s.heap.size ≤ q) b0 := Nat.not_le.mpr hbl
  obtain ⟨fsx, hx0⟩ := qX_head hXr
  obtain ⟨fsm, hm0⟩ := qM_head hMr
  refine lv_aload_n hx hb dL_law_219 rfl (lv_at hl 2 rfl) ?_
  have hPx := qk_mem (wc := wX) hP (fun q h => List.mem_append_left _ h)
  have hDx := qk_left hD
  have hFx := qk_freeA hD hS hA
  refine va_calli (va_runV (As := []) (rest := []) ⟨hx, hb, hml, hown, htb⟩ (qc_X_drop l G ax fk nr w x sz0 st nc lo hi kn cur wX H.size hok hXr) (cwV 0 htb (qW_V qw_206 qw_207 qw_208 qw_13 qw_209) rfl rfl rfl (by decide +kernel) ⟨Nat.le_of_ble_eq_true rfl, Nat.le_of_ble_eq_true rfl⟩) (qk_pvw (ci := 5) (q0 := 0) hK hPx hN hDx rfl hx0) rfl rfl hl.1 rfl (lv_room (Nat.le_of_ble_eq_true rfl)) dL_law_220 ⟨by show _ ≤ 600000; omega, by show _ ≤ 7302250; omega⟩) hS (fun q _ h => hFx q h) hFx (fun r1 u1 t9 H1 locs ht9 hvm w1 hB hz1 hk1 hS => ?_)
  obtain ⟨hP1, hK1, hD1⟩ := hB
  rw [ht9] at hP1
  obtain ⟨hP, hD⟩ := qk_joinA hP hD hk1 hFx hP1 hD1
  obtain ⟨z1, wX1⟩ := u1
  obtain ⟨e1, ez, hXr⟩ := w1
  have ez : z1 = _ := ez
  subst ez
  have hP : va_P G.1 vwCl (wX1 ++ (kw ++ wM)) H1 := hP
  have hD : va_D (fun q : Nat => s.heap.size ≤ q) (wX1 ++ (kw ++ wM)) := hD
  refine lv_aload_n hx hb dL_law_223 rfl (lv_at hl 1 rfl) ?_
  obtain ⟨hP, hD⟩ := qk_turn hP hD
  have hPm := qk_mem (wc := wM) hP (fun q h => List.mem_append_left _ h)
  have hDm := qk_left hD
  have hFm := qk_freeA hD hS hA
  refine va_calli (va_runV (As := []) (rest := [.int r1]) ⟨hx, hb, hml, hown, htb⟩ (qc_M_drop l G am nr w x sz0 st nc lo hi kn cur wM H1.size hok hMr) (cwV 0 htb (qW_V qw_503 qw_504 qw_505 qw_18 qw_506) rfl rfl rfl (by decide +kernel) ⟨Nat.le_of_ble_eq_true rfl, Nat.le_of_ble_eq_true rfl⟩) (qk_pvw (ci := 6) (q0 := 0) hK hPm hN hDm rfl hm0) rfl rfl hl.1 rfl (lv_room (Nat.le_of_ble_eq_true rfl)) dL_law_224 ⟨by show _ ≤ 600000; omega, by show _ ≤ 7302250; omega⟩) hS (fun q _ h => hFm q h) hFm (fun r2 u2 t8 H2 locs ht8 hvm2 w2 hB2 hz2 hk2 hS => ?_)
  obtain ⟨hP2, hK2, hD2⟩ := hB2
  rw [ht8] at hP2
  obtain ⟨hP, hD⟩ := qk_joinA hP hD hk2 hFm hP2 hD2
  obtain ⟨z2, wM1⟩ := u2
  obtain ⟨e2, ez2, hMr⟩ := w2
  have ez2 : z2 = _ := ez2
  subst ez2
  have hP : va_P G.1 vwCl (wM1 ++ (wX1 ++ kw)) H2 := hP
  have hD : va_D (fun q : Nat => s.heap.size ≤ q) (wM1 ++ (wX1 ++ kw)) := hD
  obtain ⟨hP, hD⟩ := qk_back hP hD
  refine lv_icmp_eq (tgt := 607) hx hb dL_law_227 (by decide) (fun cq => ?_) (fun cq => ?_)
  · refine W.widen (k := C + 5) (n := S + 407) (by omega) (by omega) ?_
    exact kk _ (qo_drop (qZt nr w x sz0 st nc lo hi kn cur)).2 _ _ _ _ _ ⟨qo_drop_ok hok, hXr, qo_drop_K hok hKr, hMr, hP, hD, hS⟩
  · exact absurd (e1.trans e2.symm) cq

set_option maxHeartbeats 4000000 in
set_option maxRecDepth 100000 in
theorem ql_c4 {p : Program} {l : Launch} {e : Env} {s : State} {m : MethodId} {below : List Frame} {meth : Method} {c : Code} {b0 L : Nat} {xs : Nat → Int32} (G : qG) (Q : State → Prop) (hx : p.tables.exec = Jvm.exec) (hb : c.code = code) (hml : c.maxLocals = 4) (hown : s.vm.findClass "GradeRowsLaw" = some m.cls) (htb : ∀ w ∈ qTb, w.before #[Value.ref b0] s = true) (hN : qNw s) (hK : va_K G.1 vwCl (qTy G) s) (hX : va_X b0 L xs s s.heap) (hbl : b0 < s.heap.size) (hL : L ≤ 2560) {i C S : Nat} (hi : i + 5 ≤ L) (hC : C + 5 ≤ 600000) (hS0 : S + 407 ≤ 7302250) {ax am : Nat} {fk : Nat → Option Nat} {z : qZ} {wX kw wM : va_W} {H : Heap} {locs : List Loc} (I : qInv G s ax am fk z wX kw wM H locs) {ls : Array Slot} (hl : lv_has ls 4 [(3, .int (nI i)), (2, .ref am), (1, .ref ax), (0, .ref b0)]) (kk : ∀ (fk : Nat → Option Nat) (z : qZ) (wX kw wM : va_W) (H : Heap) (locs : List Loc), qInv G s ax am fk z wX kw wM H locs → W p l e room_1 s m #[Value.ref b0] below meth c H locs (C + 5) (S + 407) Q (F0 m 607 ls [])) : W p l e room_1 s m #[Value.ref b0] below meth c H locs C S Q (F0 m 232 ls []) := by
  obtain ⟨⟨nr, w, x⟩, ⟨sz0, st⟩, ⟨nc, lo, hi⟩, kn, cur⟩ := z
  obtain ⟨hok, hXr, hKr, hMr, hP, hD, hS⟩ := I
  have hA : ∀ q : Nat, s.heap.size ≤ q → (fun q : Nat => s.heap.size ≤ q) q := fun _ h => h
  have hbA : ¬ (fun q : Nat => s.heap.size ≤ q) b0 := Nat.not_le.mpr hbl
  obtain ⟨fsx, hx0⟩ := qX_head hXr
  obtain ⟨fsm, hm0⟩ := qM_head hMr
  refine lv_aload_n hx hb dL_law_232 rfl (lv_at hl 2 rfl) ?_
  refine lv_aload_n hx hb dL_law_233 rfl (lv_at hl 3 rfl) ?_
  refine lv_iload_n hx hb dL_law_234 rfl (lv_at hl 0 rfl) ?_
  refine lv_iconst (v := nI 1) hx hb dL_law_235 (by decide) ?_
  refine lv_iadd hx hb dL_law_236 ?_
  refine qk_topi (t := nI (i + 1)) ((nI_add _ _).trans rfl) ?_
  refine va_sld hx hb hX hbl hbA hS (vp_in_nI (n := (i + 1)) (by omega) (by omega)) dL_law_237 ?_
  refine qk_topi (t := xs (i + 1)) (by rw [nI_clamp (by omega)]) ?_
  have hPx := qk_mem (wc := wX) hP (fun q h => List.mem_append_left _ h)
  refine vp_callSl (va_runV (As := [.int (xs (i + 1))]) (rest := []) ⟨hx, hb, hml, hown, htb⟩ (qc_X_cost l G ax fk nr w x sz0 st nc lo hi kn cur wX (xs (i + 1)) hok hXr) (cwV 1 htb (qW_V qw_238 qw_239 qw_240 qw_13 qw_241) rfl rfl rfl (by decide +kernel) ⟨Nat.le_of_ble_eq_true rfl, Nat.le_of_ble_eq_true rfl⟩) (qk_pv (ci := 5) (q0 := 0) hK hPx hN rfl hx0) rfl rfl hl.1 rfl (lv_room (Nat.le_of_ble_eq_true rfl)) dL_law_238 ⟨by show _ ≤ 600000; omega, by show _ ≤ 7302250; omega⟩).run (fun r1 e1 => ?_)
  refine lv_aload_n hx hb dL_law_241 rfl (lv_at hl 1 rfl) ?_
  refine lv_aload_n hx hb dL_law_242 rfl (lv_at hl 3 rfl) ?_
  refine lv_iload_n hx hb dL_law_243 rfl (lv_at hl 0 rfl) ?_
  refine lv_iconst (v := nI 1) hx hb dL_law_244 (by decide) ?_
  refine lv_iadd hx hb dL_law_245 ?_
  refine qk_topi (t := nI (i + 1)) ((nI_add _ _).trans rfl) ?_
  refine va_sld hx hb hX hbl hbA hS (vp_in_nI (n := (i + 1)) (by omega) (by omega)) dL_law_246 ?_
  refine qk_topi (t := xs (i + 1)) (by rw [nI_clamp (by omega)]) ?_
  obtain ⟨hP, hD⟩ := qk_turn hP hD
  have hPm := qk_mem (wc := wM) hP (fun q h => List.mem_append_left _ h)
  have hDm := qk_left hD
  have hFm := qk_freeA hD hS hA
  refine va_calll (va_runV (As := [.int (xs (i + 1))]) (rest := [.long r1]) ⟨hx, hb, hml, hown, htb⟩ (qc_M_costp l G am nr w x sz0 st nc lo hi kn cur wM (xs (i + 1)) H.size hok hMr) (cwV 1 htb (qW_V qw_507 qw_508 qw_509 qw_18 qw_510) rfl rfl rfl (by decide +kernel) ⟨Nat.le_of_ble_eq_true rfl, Nat.le_of_ble_eq_true rfl⟩) (qk_pvw (ci := 6) (q0 := 0) hK hPm hN hDm rfl hm0) rfl rfl hl.1 rfl (lv_room (Nat.le_of_ble_eq_true rfl)) dL_law_247 ⟨by show _ ≤ 600000; omega, by show _ ≤ 7302250; omega⟩) hS (fun q _ h => hFm q h) hFm (fun r2 u2 t8 H2 locs ht8 hvm2 w2 hB2 hz2 hk2 hS => ?_)
  obtain ⟨hP2, hK2, hD2⟩ := hB2
  rw [ht8] at hP2
  obtain ⟨hP, hD⟩ := qk_joinA hP hD hk2 hFm hP2 hD2
  obtain ⟨z2, wM1⟩ := u2
  obtain ⟨e2, ez2, hMr⟩ := w2
  have ez2 : z2 = _ := ez2
  subst ez2
  have hP : va_P G.1 vwCl (wM1 ++ (wX ++ kw)) H2 := hP
  have hD : va_D (fun q : Nat => s.heap.size ≤ q) (wM1 ++ (wX ++ kw)) := hD
  obtain ⟨hP, hD⟩ := qk_back hP hD
  refine W.lcmp hx hb dL_law_250 ?_
  refine lv_if_eq (tgt := 607) hx hb dL_law_251 (by decide) (fun cq => ?_) (fun cq => ?_)
  · have cq : r1 = r2 := (lg_cmp_eq _ _).mp cq
    refine W.widen (k := C + 5) (n := S + 407) (by omega) (by omega) ?_
    exact kk _ (qZt nr w x sz0 st nc lo hi kn cur) _ _ _ _ _ ⟨hok, hXr, hKr, hMr, hP, hD, hS⟩
  · have cq : ¬ (r1 = r2) := fun q9 => cq ((lg_cmp_eq _ _).mpr q9)
    exact absurd (e1.trans e2.symm) cq

set_option maxHeartbeats 4000000 in
set_option maxRecDepth 100000 in
theorem ql_c5 {p : Program} {l : Launch} {e : Env} {s : State} {m : MethodId} {below : List Frame} {meth : Method} {c : Code} {b0 L : Nat} {xs : Nat → Int32} (G : qG) (Q : State → Prop) (hx : p.tables.exec = Jvm.exec) (hb : c.code = code) (hml : c.maxLocals = 4) (hown : s.vm.findClass "GradeRowsLaw" = some m.cls) (htb : ∀ w ∈ qTb, w.before #[Value.ref b0] s = true) (hN : qNw s) (hK : va_K G.1 vwCl (qTy G) s) (hX : va_X b0 L xs s s.heap) (hbl : b0 < s.heap.size) (hL : L ≤ 2560) {i C S : Nat} (hi : i + 5 ≤ L) (hC : C + 5 ≤ 600000) (hS0 : S + 407 ≤ 7302250) {ax am : Nat} {fk : Nat → Option Nat} {z : qZ} {wX kw wM : va_W} {H : Heap} {locs : List Loc} (I : qInv G s ax am fk z wX kw wM H locs) {ls : Array Slot} (hl : lv_has ls 4 [(3, .int (nI i)), (2, .ref am), (1, .ref ax), (0, .ref b0)]) (kk : ∀ (fk : Nat → Option Nat) (z : qZ) (wX kw wM : va_W) (H : Heap) (locs : List Loc), qInv G s ax am fk z wX kw wM H locs → W p l e room_1 s m #[Value.ref b0] below meth c H locs (C + 5) (S + 407) Q (F0 m 607 ls [])) : W p l e room_1 s m #[Value.ref b0] below meth c H locs C S Q (F0 m 256 ls []) := by
  obtain ⟨⟨nr, w, x⟩, ⟨sz0, st⟩, ⟨nc, lo, hi⟩, kn, cur⟩ := z
  obtain ⟨hok, hXr, hKr, hMr, hP, hD, hS⟩ := I
  have hA : ∀ q : Nat, s.heap.size ≤ q → (fun q : Nat => s.heap.size ≤ q) q := fun _ h => h
  have hbA : ¬ (fun q : Nat => s.heap.size ≤ q) b0 := Nat.not_le.mpr hbl
  obtain ⟨fsx, hx0⟩ := qX_head hXr
  obtain ⟨fsm, hm0⟩ := qM_head hMr
  refine lv_aload_n hx hb dL_law_256 rfl (lv_at hl 2 rfl) ?_
  refine lv_aload_n hx hb dL_law_257 rfl (lv_at hl 3 rfl) ?_
  refine lv_iload_n hx hb dL_law_258 rfl (lv_at hl 0 rfl) ?_
  refine lv_iconst (v := nI 1) hx hb dL_law_259 (by decide) ?_
  refine lv_iadd hx hb dL_law_260 ?_
  refine qk_topi (t := nI (i + 1)) ((nI_add _ _).trans rfl) ?_
  refine va_sld hx hb hX hbl hbA hS (vp_in_nI (n := (i + 1)) (by omega) (by omega)) dL_law_261 ?_
  refine qk_topi (t := xs (i + 1)) (by rw [nI_clamp (by omega)]) ?_
  have hPx := qk_mem (wc := wX) hP (fun q h => List.mem_append_left _ h)
  refine vp_callSl (va_runV (As := [.int (xs (i + 1))]) (rest := []) ⟨hx, hb, hml, hown, htb⟩ (qc_X_sum l G ax fk nr w x sz0 st nc lo hi kn cur wX (xs (i + 1)) hok hXr) (cwV 1 htb (qW_V qw_243 qw_244 qw_245 qw_13 qw_246) rfl rfl rfl (by decide +kernel) ⟨Nat.le_of_ble_eq_true rfl, Nat.le_of_ble_eq_true rfl⟩) (qk_pv (ci := 5) (q0 := 0) hK hPx hN rfl hx0) rfl rfl hl.1 rfl (lv_room (Nat.le_of_ble_eq_true rfl)) dL_law_262 ⟨by show _ ≤ 600000; omega, by show _ ≤ 7302250; omega⟩).run (fun r1 e1 => ?_)
  refine lv_aload_n hx hb dL_law_265 rfl (lv_at hl 1 rfl) ?_
  refine lv_aload_n hx hb dL_law_266 rfl (lv_at hl 3 rfl) ?_
  refine lv_iload_n hx hb dL_law_267 rfl (lv_at hl 0 rfl) ?_
  refine lv_iconst (v := nI 1) hx hb dL_law_268 (by decide) ?_
  refine lv_iadd hx hb dL_law_269 ?_
  refine qk_topi (t := nI (i + 1)) ((nI_add _ _).trans rfl) ?_
  refine va_sld hx hb hX hbl hbA hS (vp_in_nI (n := (i + 1)) (by omega) (by omega)) dL_law_270 ?_
  refine qk_topi (t := xs (i + 1)) (by rw [nI_clamp (by omega)]) ?_
  obtain ⟨hP, hD⟩ := qk_turn hP hD
  have hPm := qk_mem (wc := wM) hP (fun q h => List.mem_append_left _ h)
  have hDm := qk_left hD
  have hFm := qk_freeA hD hS hA
  refine va_calll (va_runV (As := [.int (xs (i + 1))]) (rest := [.long r1]) ⟨hx, hb, hml, hown, htb⟩ (qc_M_sump l G am nr w x sz0 st nc lo hi kn cur wM (xs (i + 1)) H.size hok hMr) (cwV 1 htb (qW_V qw_518 qw_519 qw_520 qw_18 qw_521) rfl rfl rfl (by decide +kernel) ⟨Nat.le_of_ble_eq_true rfl, Nat.le_of_ble_eq_true rfl⟩) (qk_pvw (ci := 6) (q0 := 0) hK hPm hN hDm rfl hm0) rfl rfl hl.1 rfl (lv_room (Nat.le_of_ble_eq_true rfl)) dL_law_271 ⟨by show _ ≤ 600000; omega, by show _ ≤ 7302250; omega⟩) hS (fun q _ h => hFm q h) hFm (fun r2 u2 t8 H2 locs ht8 hvm2 w2 hB2 hz2 hk2 hS => ?_)
  obtain ⟨hP2, hK2, hD2⟩ := hB2
  rw [ht8] at hP2
  obtain ⟨hP, hD⟩ := qk_joinA hP hD hk2 hFm hP2 hD2
  obtain ⟨z2, wM1⟩ := u2
  obtain ⟨e2, ez2, hMr⟩ := w2
  have ez2 : z2 = _ := ez2
  subst ez2
  have hP : va_P G.1 vwCl (wM1 ++ (wX ++ kw)) H2 := hP
  have hD : va_D (fun q : Nat => s.heap.size ≤ q) (wM1 ++ (wX ++ kw)) := hD
  obtain ⟨hP, hD⟩ := qk_back hP hD
  refine W.lcmp hx hb dL_law_274 ?_
  refine lv_if_eq (tgt := 607) hx hb dL_law_275 (by decide) (fun cq => ?_) (fun cq => ?_)
  · have cq : r1 = r2 := (lg_cmp_eq _ _).mp cq
    refine W.widen (k := C + 5) (n := S + 407) (by omega) (by omega) ?_
    exact kk _ (qZt nr w x sz0 st nc lo hi kn cur) _ _ _ _ _ ⟨hok, hXr, hKr, hMr, hP, hD, hS⟩
  · have cq : ¬ (r1 = r2) := fun q9 => cq ((lg_cmp_eq _ _).mpr q9)
    exact absurd (e1.trans e2.symm) cq

set_option maxHeartbeats 4000000 in
set_option maxRecDepth 100000 in
theorem ql_c6 {p : Program} {l : Launch} {e : Env} {s : State} {m : MethodId} {below : List Frame} {meth : Method} {c : Code} {b0 L : Nat} {xs : Nat → Int32} (G : qG) (Q : State → Prop) (hx : p.tables.exec = Jvm.exec) (hb : c.code = code) (hml : c.maxLocals = 4) (hown : s.vm.findClass "GradeRowsLaw" = some m.cls) (htb : ∀ w ∈ qTb, w.before #[Value.ref b0] s = true) (hN : qNw s) (hK : va_K G.1 vwCl (qTy G) s) (hX : va_X b0 L xs s s.heap) (hbl : b0 < s.heap.size) (hL : L ≤ 2560) {i C S : Nat} (hi : i + 5 ≤ L) (hC : C + 5 ≤ 600000) (hS0 : S + 407 ≤ 7302250) {ax am : Nat} {fk : Nat → Option Nat} {z : qZ} {wX kw wM : va_W} {H : Heap} {locs : List Loc} (I : qInv G s ax am fk z wX kw wM H locs) {ls : Array Slot} (hl : lv_has ls 4 [(3, .int (nI i)), (2, .ref am), (1, .ref ax), (0, .ref b0)]) (kk : ∀ (fk : Nat → Option Nat) (z : qZ) (wX kw wM : va_W) (H : Heap) (locs : List Loc), qInv G s ax am fk z wX kw wM H locs → W p l e room_1 s m #[Value.ref b0] below meth c H locs (C + 5) (S + 407) Q (F0 m 607 ls [])) : W p l e room_1 s m #[Value.ref b0] below meth c H locs C S Q (F0 m 280 ls []) := by
  obtain ⟨⟨nr, w, x⟩, ⟨sz0, st⟩, ⟨nc, lo, hi⟩, kn, cur⟩ := z
  obtain ⟨hok, hXr, hKr, hMr, hP, hD, hS⟩ := I
  have hA : ∀ q : Nat, s.heap.size ≤ q → (fun q : Nat => s.heap.size ≤ q) q := fun _ h => h
  have hbA : ¬ (fun q : Nat => s.heap.size ≤ q) b0 := Nat.not_le.mpr hbl
  obtain ⟨fsx, hx0⟩ := qX_head hXr
  obtain ⟨fsm, hm0⟩ := qM_head hMr
  refine lv_aload_n hx hb dL_law_280 rfl (lv_at hl 2 rfl) ?_
  refine lv_aload_n hx hb dL_law_281 rfl (lv_at hl 3 rfl) ?_
  refine lv_iload_n hx hb dL_law_282 rfl (lv_at hl 0 rfl) ?_
  refine lv_iconst (v := nI 1) hx hb dL_law_283 (by decide) ?_
  refine lv_iadd hx hb dL_law_284 ?_
  refine qk_topi (t := nI (i + 1)) ((nI_add _ _).trans rfl) ?_
  refine va_sld hx hb hX hbl hbA hS (vp_in_nI (n := (i + 1)) (by omega) (by omega)) dL_law_285 ?_
  refine qk_topi (t := xs (i + 1)) (by rw [nI_clamp (by omega)]) ?_
  refine lv_i2l (v := (xs (i + 1)).toInt64) hx hb dL_law_286 rfl ?_
  refine lv_bipush (v := nI 32) hx hb dL_law_287 (by decide) ?_
  refine lv_lshl (v := (xs (i + 1)).toInt64 <<< ((nI 32).toInt64 &&& 63)) hx hb dL_law_289 rfl ?_
  refine lv_aload_n hx hb dL_law_290 rfl (lv_at hl 3 rfl) ?_
  refine lv_iload_n hx hb dL_law_291 rfl (lv_at hl 0 rfl) ?_
  refine lv_iconst (v := nI 2) hx hb dL_law_292 (by decide) ?_
  refine lv_iadd hx hb dL_law_293 ?_
  refine qk_topi (t := nI (i + 2)) ((nI_add _ _).trans rfl) ?_
  refine va_sld hx hb hX hbl hbA hS (vp_in_nI (n := (i + 2)) (by omega) (by omega)) dL_law_294 ?_
  refine qk_topi (t := xs (i + 2)) (by rw [nI_clamp (by omega)]) ?_
  refine lv_i2l (v := (xs (i + 2)).toInt64) hx hb dL_law_295 rfl ?_
  refine lv_ldc2 (v := 4294967295) hx hb hown (htb _ qw_590) dL_law_296 ?_
  refine qk_topl (t := lN 4294967295) (by decide) ?_
  refine lv_land hx hb dL_law_299 ?_
  refine lv_lor hx hb dL_law_300 ?_
  refine lv_aload_n hx hb dL_law_301 rfl (lv_at hl 3 rfl) ?_
  refine lv_iload_n hx hb dL_law_302 rfl (lv_at hl 0 rfl) ?_
  refine lv_iconst (v := nI 3) hx hb dL_law_303 (by decide) ?_
  refine lv_iadd hx hb dL_law_304 ?_
  refine qk_topi (t := nI (i + 3)) ((nI_add _ _).trans rfl) ?_
  refine va_sld hx hb hX hbl hbA hS (vp_in_nI (n := (i + 3)) (by omega) (by omega)) dL_law_305 ?_
  refine qk_topi (t := xs (i + 3)) (by rw [nI_clamp (by omega)]) ?_
  refine lv_i2l (v := (xs (i + 3)).toInt64) hx hb dL_law_306 rfl ?_
  refine lv_bipush (v := nI 32) hx hb dL_law_307 (by decide) ?_
  refine lv_lshl (v := (xs (i + 3)).toInt64 <<< ((nI 32).toInt64 &&& 63)) hx hb dL_law_309 rfl ?_
  refine lv_aload_n hx hb dL_law_310 rfl (lv_at hl 3 rfl) ?_
  refine lv_iload_n hx hb dL_law_311 rfl (lv_at hl 0 rfl) ?_
  refine lv_iconst (v := nI 4) hx hb dL_law_312 (by decide) ?_
  refine lv_iadd hx hb dL_law_313 ?_
  refine qk_topi (t := nI (i + 4)) ((nI_add _ _).trans rfl) ?_
  refine va_sld hx hb hX hbl hbA hS (vp_in_nI (n := (i + 4)) (by omega) (by omega)) dL_law_314 ?_
  refine qk_topi (t := xs (i + 4)) (by rw [nI_clamp (by omega)]) ?_
  refine lv_i2l (v := (xs (i + 4)).toInt64) hx hb dL_law_315 rfl ?_
  refine lv_ldc2 (v := 4294967295) hx hb hown (htb _ qw_590) dL_law_316 ?_
  refine qk_topl (t := lN 4294967295) (by decide) ?_
  refine lv_land hx hb dL_law_319 ?_
  refine lv_lor hx hb dL_law_320 ?_
  have hPx := qk_mem (wc := wX) hP (fun q h => List.mem_append_left _ h)
  have hDx := qk_left hD
  have hFx := qk_freeA hD hS hA
  refine va_calli (va_runV (As := [.long (((xs (i + 1)).toInt64 <<< ((nI 32).toInt64 &&& 63)) ||| ((xs (i + 2)).toInt64 &&& (lN 4294967295))), .long (((xs (i + 3)).toInt64 <<< ((nI 32).toInt64 &&& 63)) ||| ((xs (i + 4)).toInt64 &&& (lN 4294967295)))]) (rest := []) ⟨hx, hb, hml, hown, htb⟩ (qc_X_cls l G ax fk nr w x sz0 st nc lo hi kn cur wX (((xs (i + 1)).toInt64 <<< ((nI 32).toInt64 &&& 63)) ||| ((xs (i + 2)).toInt64 &&& (lN 4294967295))) (((xs (i + 3)).toInt64 <<< ((nI 32).toInt64 &&& 63)) ||| ((xs (i + 4)).toInt64 &&& (lN 4294967295))) H.size hok hXr) (cwV 2 htb (qW_V qw_255 qw_256 qw_257 qw_13 qw_258) rfl rfl rfl (by decide +kernel) ⟨Nat.le_of_ble_eq_true rfl, Nat.le_of_ble_eq_true rfl⟩) (qk_pvw (ci := 5) (q0 := 0) hK hPx hN hDx rfl hx0) rfl rfl hl.1 rfl (lv_room (Nat.le_of_ble_eq_true rfl)) dL_law_321 ⟨by show _ ≤ 600000; omega, by show _ ≤ 7302250; omega⟩) hS (fun q _ h => hFx q h) hFx (fun r1 u1 t9 H1 locs ht9 hvm w1 hB hz1 hk1 hS => ?_)
  obtain ⟨hP1, hK1, hD1⟩ := hB
  rw [ht9] at hP1
  obtain ⟨hP, hD⟩ := qk_joinA hP hD hk1 hFx hP1 hD1
  obtain ⟨z1, wX1⟩ := u1
  obtain ⟨e1, ez, hXr⟩ := w1
  have ez : z1 = _ := ez
  subst ez
  have hP : va_P G.1 vwCl (wX1 ++ (kw ++ wM)) H1 := hP
  have hD : va_D (fun q : Nat => s.heap.size ≤ q) (wX1 ++ (kw ++ wM)) := hD
  refine lv_aload_n hx hb dL_law_324 rfl (lv_at hl 1 rfl) ?_
  refine lv_aload_n hx hb dL_law_325 rfl (lv_at hl 3 rfl) ?_
  refine lv_iload_n hx hb dL_law_326 rfl (lv_at hl 0 rfl) ?_
  refine lv_iconst (v := nI 1) hx hb dL_law_327 (by decide) ?_
  refine lv_iadd hx hb dL_law_328 ?_
  refine qk_topi (t := nI (i + 1)) ((nI_add _ _).trans rfl) ?_
  refine va_sld hx hb hX hbl hbA hS (vp_in_nI (n := (i + 1)) (by omega) (by omega)) dL_law_329 ?_
  refine qk_topi (t := xs (i + 1)) (by rw [nI_clamp (by omega)]) ?_
  refine lv_i2l (v := (xs (i + 1)).toInt64) hx hb dL_law_330 rfl ?_
  refine lv_bipush (v := nI 32) hx hb dL_law_331 (by decide) ?_
  refine lv_lshl (v := (xs (i + 1)).toInt64 <<< ((nI 32).toInt64 &&& 63)) hx hb dL_law_333 rfl ?_
  refine lv_aload_n hx hb dL_law_334 rfl (lv_at hl 3 rfl) ?_
  refine lv_iload_n hx hb dL_law_335 rfl (lv_at hl 0 rfl) ?_
  refine lv_iconst (v := nI 2) hx hb dL_law_336 (by decide) ?_
  refine lv_iadd hx hb dL_law_337 ?_
  refine qk_topi (t := nI (i + 2)) ((nI_add _ _).trans rfl) ?_
  refine va_sld hx hb hX hbl hbA hS (vp_in_nI (n := (i + 2)) (by omega) (by omega)) dL_law_338 ?_
  refine qk_topi (t := xs (i + 2)) (by rw [nI_clamp (by omega)]) ?_
  refine lv_i2l (v := (xs (i + 2)).toInt64) hx hb dL_law_339 rfl ?_
  refine lv_ldc2 (v := 4294967295) hx hb hown (htb _ qw_590) dL_law_340 ?_
  refine qk_topl (t := lN 4294967295) (by decide) ?_
  refine lv_land hx hb dL_law_343 ?_
  refine lv_lor hx hb dL_law_344 ?_
  refine lv_aload_n hx hb dL_law_345 rfl (lv_at hl 3 rfl) ?_
  refine lv_iload_n hx hb dL_law_346 rfl (lv_at hl 0 rfl) ?_
  refine lv_iconst (v := nI 3) hx hb dL_law_347 (by decide) ?_
  refine lv_iadd hx hb dL_law_348 ?_
  refine qk_topi (t := nI (i + 3)) ((nI_add _ _).trans rfl) ?_
  refine va_sld hx hb hX hbl hbA hS (vp_in_nI (n := (i + 3)) (by omega) (by omega)) dL_law_349 ?_
  refine qk_topi (t := xs (i + 3)) (by rw [nI_clamp (by omega)]) ?_
  refine lv_i2l (v := (xs (i + 3)).toInt64) hx hb dL_law_350 rfl ?_
  refine lv_bipush (v := nI 32) hx hb dL_law_351 (by decide) ?_
  refine lv_lshl (v := (xs (i + 3)).toInt64 <<< ((nI 32).toInt64 &&& 63)) hx hb dL_law_353 rfl ?_
  refine lv_aload_n hx hb dL_law_354 rfl (lv_at hl 3 rfl) ?_
  refine lv_iload_n hx hb dL_law_355 rfl (lv_at hl 0 rfl) ?_
  refine lv_iconst (v := nI 4) hx hb dL_law_356 (by decide) ?_
  refine lv_iadd hx hb dL_law_357 ?_
  refine qk_topi (t := nI (i + 4)) ((nI_add _ _).trans rfl) ?_
  refine va_sld hx hb hX hbl hbA hS (vp_in_nI (n := (i + 4)) (by omega) (by omega)) dL_law_358 ?_
  refine qk_topi (t := xs (i + 4)) (by rw [nI_clamp (by omega)]) ?_
  refine lv_i2l (v := (xs (i + 4)).toInt64) hx hb dL_law_359 rfl ?_
  refine lv_ldc2 (v := 4294967295) hx hb hown (htb _ qw_590) dL_law_360 ?_
  refine qk_topl (t := lN 4294967295) (by decide) ?_
  refine lv_land hx hb dL_law_363 ?_
  refine lv_lor hx hb dL_law_364 ?_
  obtain ⟨hP, hD⟩ := qk_turn hP hD
  have hPm := qk_mem (wc := wM) hP (fun q h => List.mem_append_left _ h)
  have hDm := qk_left hD
  have hFm := qk_freeA hD hS hA
  refine va_calli (va_runV (As := [.long (((xs (i + 1)).toInt64 <<< ((nI 32).toInt64 &&& 63)) ||| ((xs (i + 2)).toInt64 &&& (lN 4294967295))), .long (((xs (i + 3)).toInt64 <<< ((nI 32).toInt64 &&& 63)) ||| ((xs (i + 4)).toInt64 &&& (lN 4294967295)))]) (rest := [.int r1]) ⟨hx, hb, hml, hown, htb⟩ (qc_M_cls l G am nr w x sz0 st nc lo hi kn cur wM (((xs (i + 1)).toInt64 <<< ((nI 32).toInt64 &&& 63)) ||| ((xs (i + 2)).toInt64 &&& (lN 4294967295))) (((xs (i + 3)).toInt64 <<< ((nI 32).toInt64 &&& 63)) ||| ((xs (i + 4)).toInt64 &&& (lN 4294967295))) H1.size hok hMr) (cwV 2 htb (qW_V qw_526 qw_527 qw_528 qw_18 qw_529) rfl rfl rfl (by decide +kernel) ⟨Nat.le_of_ble_eq_true rfl, Nat.le_of_ble_eq_true rfl⟩) (qk_pvw (ci := 6) (q0 := 0) hK hPm hN hDm rfl hm0) rfl rfl hl.1 rfl (lv_room (Nat.le_of_ble_eq_true rfl)) dL_law_365 ⟨by show _ ≤ 600000; omega, by show _ ≤ 7302250; omega⟩) hS (fun q _ h => hFm q h) hFm (fun r2 u2 t8 H2 locs ht8 hvm2 w2 hB2 hz2 hk2 hS => ?_)
  obtain ⟨hP2, hK2, hD2⟩ := hB2
  rw [ht8] at hP2
  obtain ⟨hP, hD⟩ := qk_joinA hP hD hk2 hFm hP2 hD2
  obtain ⟨z2, wM1⟩ := u2
  obtain ⟨e2, ez2, hMr⟩ := w2
  have ez2 : z2 = _ := ez2
  subst ez2
  have hP : va_P G.1 vwCl (wM1 ++ (wX1 ++ kw)) H2 := hP
  have hD : va_D (fun q : Nat => s.heap.size ≤ q) (wM1 ++ (wX1 ++ kw)) := hD
  obtain ⟨hP, hD⟩ := qk_back hP hD
  refine lv_icmp_eq (tgt := 607) hx hb dL_law_368 (by decide) (fun cq => ?_) (fun cq => ?_)
  · refine W.widen (k := C + 5) (n := S + 407) (by omega) (by omega) ?_
    exact kk _ (qo_cls (qZt nr w x sz0 st nc lo hi kn cur) (((xs (i + 1)).toInt64 <<< ((nI 32).toInt64 &&& 63)) ||| ((xs (i + 2)).toInt64 &&& (lN 4294967295))) (((xs (i + 3)).toInt64 <<< ((nI 32).toInt64 &&& 63)) ||| ((xs (i + 4)).toInt64 &&& (lN 4294967295)))).2 _ _ _ _ _ ⟨qo_cls_ok hok (((xs (i + 1)).toInt64 <<< ((nI 32).toInt64 &&& 63)) ||| ((xs (i + 2)).toInt64 &&& (lN 4294967295))) (((xs (i + 3)).toInt64 <<< ((nI 32).toInt64 &&& 63)) ||| ((xs (i + 4)).toInt64 &&& (lN 4294967295))), hXr, qo_cls_K hok hKr (((xs (i + 1)).toInt64 <<< ((nI 32).toInt64 &&& 63)) ||| ((xs (i + 2)).toInt64 &&& (lN 4294967295))) (((xs (i + 3)).toInt64 <<< ((nI 32).toInt64 &&& 63)) ||| ((xs (i + 4)).toInt64 &&& (lN 4294967295))), hMr, hP, hD, hS⟩
  · exact absurd (e1.trans e2.symm) cq

set_option maxHeartbeats 4000000 in
set_option maxRecDepth 100000 in
theorem ql_c7 {p : Program} {l : Launch} {e : Env} {s : State} {m : MethodId} {below : List Frame} {meth : Method} {c : Code} {b0 L : Nat} {xs : Nat → Int32} (G : qG) (Q : State → Prop) (hx : p.tables.exec = Jvm.exec) (hb : c.code = code) (hml : c.maxLocals = 4) (hown : s.vm.findClass "GradeRowsLaw" = some m.cls) (htb : ∀ w ∈ qTb, w.before #[Value.ref b0] s = true) (hN : qNw s) (hK : va_K G.1 vwCl (qTy G) s) (hX : va_X b0 L xs s s.heap) (hbl : b0 < s.heap.size) (hL : L ≤ 2560) {i C S : Nat} (hi : i + 5 ≤ L) (hC : C + 5 ≤ 600000) (hS0 : S + 407 ≤ 7302250) {ax am : Nat} {fk : Nat → Option Nat} {z : qZ} {wX kw wM : va_W} {H : Heap} {locs : List Loc} (I : qInv G s ax am fk z wX kw wM H locs) {ls : Array Slot} (hl : lv_has ls 4 [(3, .int (nI i)), (2, .ref am), (1, .ref ax), (0, .ref b0)]) (kk : ∀ (fk : Nat → Option Nat) (z : qZ) (wX kw wM : va_W) (H : Heap) (locs : List Loc), qInv G s ax am fk z wX kw wM H locs → W p l e room_1 s m #[Value.ref b0] below meth c H locs (C + 5) (S + 407) Q (F0 m 607 ls [])) : W p l e room_1 s m #[Value.ref b0] below meth c H locs C S Q (F0 m 373 ls []) := by
  obtain ⟨⟨nr, w, x⟩, ⟨sz0, st⟩, ⟨nc, lo, hi⟩, kn, cur⟩ := z
  obtain ⟨hok, hXr, hKr, hMr, hP, hD, hS⟩ := I
  have hA : ∀ q : Nat, s.heap.size ≤ q → (fun q : Nat => s.heap.size ≤ q) q := fun _ h => h
  have hbA : ¬ (fun q : Nat => s.heap.size ≤ q) b0 := Nat.not_le.mpr hbl
  obtain ⟨fsx, hx0⟩ := qX_head hXr
  obtain ⟨fsm, hm0⟩ := qM_head hMr
  refine lv_aload_n hx hb dL_law_373 rfl (lv_at hl 2 rfl) ?_
  have hPx := qk_mem (wc := wX) hP (fun q h => List.mem_append_left _ h)
  refine vp_callSi (va_runV (As := []) (rest := []) ⟨hx, hb, hml, hown, htb⟩ (qc_X_grade l G ax fk nr w x sz0 st nc lo hi kn cur wX hok hXr) (cwV 0 htb (qW_V qw_268 qw_269 qw_270 qw_13 qw_271) rfl rfl rfl (by decide +kernel) ⟨Nat.le_of_ble_eq_true rfl, Nat.le_of_ble_eq_true rfl⟩) (qk_pv (ci := 5) (q0 := 0) hK hPx hN rfl hx0) rfl rfl hl.1 rfl (lv_room (Nat.le_of_ble_eq_true rfl)) dL_law_374 ⟨by show _ ≤ 600000; omega, by show _ ≤ 7302250; omega⟩).run (fun r1 e1 => ?_)
  refine lv_aload_n hx hb dL_law_377 rfl (lv_at hl 1 rfl) ?_
  obtain ⟨hP, hD⟩ := qk_turn hP hD
  have hPm := qk_mem (wc := wM) hP (fun q h => List.mem_append_left _ h)
  have hDm := qk_left hD
  have hFm := qk_freeA hD hS hA
  refine va_calli (va_runV (As := []) (rest := [.int r1]) ⟨hx, hb, hml, hown, htb⟩ (qc_M_grade l G am nr w x sz0 st nc lo hi kn cur wM H.size hok hMr) (cwV 0 htb (qW_V qw_531 qw_532 qw_533 qw_18 qw_534) rfl rfl rfl (by decide +kernel) ⟨Nat.le_of_ble_eq_true rfl, Nat.le_of_ble_eq_true rfl⟩) (qk_pvw (ci := 6) (q0 := 0) hK hPm hN hDm rfl hm0) rfl rfl hl.1 rfl (lv_room (Nat.le_of_ble_eq_true rfl)) dL_law_378 ⟨by show _ ≤ 600000; omega, by show _ ≤ 7302250; omega⟩) hS (fun q _ h => hFm q h) hFm (fun r2 u2 t8 H2 locs ht8 hvm2 w2 hB2 hz2 hk2 hS => ?_)
  obtain ⟨hP2, hK2, hD2⟩ := hB2
  rw [ht8] at hP2
  obtain ⟨hP, hD⟩ := qk_joinA hP hD hk2 hFm hP2 hD2
  obtain ⟨z2, wM1⟩ := u2
  obtain ⟨e2, ez2, hMr⟩ := w2
  have ez2 : z2 = _ := ez2
  subst ez2
  have hP : va_P G.1 vwCl (wM1 ++ (wX ++ kw)) H2 := hP
  have hD : va_D (fun q : Nat => s.heap.size ≤ q) (wM1 ++ (wX ++ kw)) := hD
  obtain ⟨hP, hD⟩ := qk_back hP hD
  refine lv_icmp_eq (tgt := 607) hx hb dL_law_381 (by decide) (fun cq => ?_) (fun cq => ?_)
  · refine W.widen (k := C + 5) (n := S + 407) (by omega) (by omega) ?_
    exact kk _ (qZt nr w x sz0 st nc lo hi kn cur) _ _ _ _ _ ⟨hok, hXr, hKr, hMr, hP, hD, hS⟩
  · exact absurd (e1.trans e2.symm) cq

set_option maxHeartbeats 4000000 in
set_option maxRecDepth 100000 in
theorem ql_c8 {p : Program} {l : Launch} {e : Env} {s : State} {m : MethodId} {below : List Frame} {meth : Method} {c : Code} {b0 L : Nat} {xs : Nat → Int32} (G : qG) (Q : State → Prop) (hx : p.tables.exec = Jvm.exec) (hb : c.code = code) (hml : c.maxLocals = 4) (hown : s.vm.findClass "GradeRowsLaw" = some m.cls) (htb : ∀ w ∈ qTb, w.before #[Value.ref b0] s = true) (hN : qNw s) (hK : va_K G.1 vwCl (qTy G) s) (hX : va_X b0 L xs s s.heap) (hbl : b0 < s.heap.size) (hL : L ≤ 2560) {i C S : Nat} (hi : i + 5 ≤ L) (hC : C + 5 ≤ 600000) (hS0 : S + 407 ≤ 7302250) {ax am : Nat} {fk : Nat → Option Nat} {z : qZ} {wX kw wM : va_W} {H : Heap} {locs : List Loc} (I : qInv G s ax am fk z wX kw wM H locs) {ls : Array Slot} (hl : lv_has ls 4 [(3, .int (nI i)), (2, .ref am), (1, .ref ax), (0, .ref b0)]) (kk : ∀ (fk : Nat → Option Nat) (z : qZ) (wX kw wM : va_W) (H : Heap) (locs : List Loc), qInv G s ax am fk z wX kw wM H locs → W p l e room_1 s m #[Value.ref b0] below meth c H locs (C + 5) (S + 407) Q (F0 m 607 ls [])) : W p l e room_1 s m #[Value.ref b0] below meth c H locs C S Q (F0 m 386 ls []) := by
  obtain ⟨⟨nr, w, x⟩, ⟨sz0, st⟩, ⟨nc, lo, hi⟩, kn, cur⟩ := z
  obtain ⟨hok, hXr, hKr, hMr, hP, hD, hS⟩ := I
  have hA : ∀ q : Nat, s.heap.size ≤ q → (fun q : Nat => s.heap.size ≤ q) q := fun _ h => h
  have hbA : ¬ (fun q : Nat => s.heap.size ≤ q) b0 := Nat.not_le.mpr hbl
  obtain ⟨fsx, hx0⟩ := qX_head hXr
  obtain ⟨fsm, hm0⟩ := qM_head hMr
  refine lv_aload_n hx hb dL_law_386 rfl (lv_at hl 2 rfl) ?_
  have hPx := qk_mem (wc := wX) hP (fun q h => List.mem_append_left _ h)
  refine vp_callSi (va_runV (As := []) (rest := []) ⟨hx, hb, hml, hown, htb⟩ (qc_X_rank l G ax fk nr w x sz0 st nc lo hi kn cur wX hok hXr) (cwV 0 htb (qW_V qw_277 qw_278 qw_279 qw_13 qw_280) rfl rfl rfl (by decide +kernel) ⟨Nat.le_of_ble_eq_true rfl, Nat.le_of_ble_eq_true rfl⟩) (qk_pv (ci := 5) (q0 := 0) hK hPx hN rfl hx0) rfl rfl hl.1 rfl (lv_room (Nat.le_of_ble_eq_true rfl)) dL_law_387 ⟨by show _ ≤ 600000; omega, by show _ ≤ 7302250; omega⟩).run (fun r1 e1 => ?_)
  refine lv_aload_n hx hb dL_law_390 rfl (lv_at hl 1 rfl) ?_
  obtain ⟨hP, hD⟩ := qk_turn hP hD
  have hPm := qk_mem (wc := wM) hP (fun q h => List.mem_append_left _ h)
  have hDm := qk_left hD
  have hFm := qk_freeA hD hS hA
  refine va_calli (va_runV (As := []) (rest := [.int r1]) ⟨hx, hb, hml, hown, htb⟩ (qc_M_rank l G am nr w x sz0 st nc lo hi kn cur wM H.size hok hMr) (cwV 0 htb (qW_V qw_543 qw_544 qw_545 qw_18 qw_546) rfl rfl rfl (by decide +kernel) ⟨Nat.le_of_ble_eq_true rfl, Nat.le_of_ble_eq_true rfl⟩) (qk_pvw (ci := 6) (q0 := 0) hK hPm hN hDm rfl hm0) rfl rfl hl.1 rfl (lv_room (Nat.le_of_ble_eq_true rfl)) dL_law_391 ⟨by show _ ≤ 600000; omega, by show _ ≤ 7302250; omega⟩) hS (fun q _ h => hFm q h) hFm (fun r2 u2 t8 H2 locs ht8 hvm2 w2 hB2 hz2 hk2 hS => ?_)
  obtain ⟨hP2, hK2, hD2⟩ := hB2
  rw [ht8] at hP2
  obtain ⟨hP, hD⟩ := qk_joinA hP hD hk2 hFm hP2 hD2
  obtain ⟨z2, wM1⟩ := u2
  obtain ⟨e2, ez2, hMr⟩ := w2
  have ez2 : z2 = _ := ez2
  subst ez2
  have hP : va_P G.1 vwCl (wM1 ++ (wX ++ kw)) H2 := hP
  have hD : va_D (fun q : Nat => s.heap.size ≤ q) (wM1 ++ (wX ++ kw)) := hD
  obtain ⟨hP, hD⟩ := qk_back hP hD
  refine lv_icmp_eq (tgt := 607) hx hb dL_law_394 (by decide) (fun cq => ?_) (fun cq => ?_)
  · refine W.widen (k := C + 5) (n := S + 407) (by omega) (by omega) ?_
    exact kk _ (qZt nr w x sz0 st nc lo hi kn cur) _ _ _ _ _ ⟨hok, hXr, hKr, hMr, hP, hD, hS⟩
  · exact absurd (e1.trans e2.symm) cq

set_option maxHeartbeats 4000000 in
set_option maxRecDepth 100000 in
theorem ql_c9 {p : Program} {l : Launch} {e : Env} {s : State} {m : MethodId} {below : List Frame} {meth : Method} {c : Code} {b0 L : Nat} {xs : Nat → Int32} (G : qG) (Q : State → Prop) (hx : p.tables.exec = Jvm.exec) (hb : c.code = code) (hml : c.maxLocals = 4) (hown : s.vm.findClass "GradeRowsLaw" = some m.cls) (htb : ∀ w ∈ qTb, w.before #[Value.ref b0] s = true) (hN : qNw s) (hK : va_K G.1 vwCl (qTy G) s) (hX : va_X b0 L xs s s.heap) (hbl : b0 < s.heap.size) (hL : L ≤ 2560) {i C S : Nat} (hi : i + 5 ≤ L) (hC : C + 5 ≤ 600000) (hS0 : S + 407 ≤ 7302250) {ax am : Nat} {fk : Nat → Option Nat} {z : qZ} {wX kw wM : va_W} {H : Heap} {locs : List Loc} (I : qInv G s ax am fk z wX kw wM H locs) {ls : Array Slot} (hl : lv_has ls 4 [(3, .int (nI i)), (2, .ref am), (1, .ref ax), (0, .ref b0)]) (kk : ∀ (fk : Nat → Option Nat) (z : qZ) (wX kw wM : va_W) (H : Heap) (locs : List Loc), qInv G s ax am fk z wX kw wM H locs → W p l e room_1 s m #[Value.ref b0] below meth c H locs (C + 5) (S + 407) Q (F0 m 607 ls [])) : W p l e room_1 s m #[Value.ref b0] below meth c H locs C S Q (F0 m 399 ls []) := by
  obtain ⟨⟨nr, w, x⟩, ⟨sz0, st⟩, ⟨nc, lo, hi⟩, kn, cur⟩ := z
  obtain ⟨hok, hXr, hKr, hMr, hP, hD, hS⟩ := I
  have hA : ∀ q : Nat, s.heap.size ≤ q → (fun q : Nat => s.heap.size ≤ q) q := fun _ h => h
  have hbA : ¬ (fun q : Nat => s.heap.size ≤ q) b0 := Nat.not_le.mpr hbl
  obtain ⟨fsx, hx0⟩ := qX_head hXr
  obtain ⟨fsm, hm0⟩ := qM_head hMr
  refine lv_aload_n hx hb dL_law_399 rfl (lv_at hl 2 rfl) ?_
  refine lv_aload_n hx hb dL_law_400 rfl (lv_at hl 3 rfl) ?_
  refine lv_iload_n hx hb dL_law_401 rfl (lv_at hl 0 rfl) ?_
  refine lv_iconst (v := nI 1) hx hb dL_law_402 (by decide) ?_
  refine lv_iadd hx hb dL_law_403 ?_
  refine qk_topi (t := nI (i + 1)) ((nI_add _ _).trans rfl) ?_
  refine va_sld hx hb hX hbl hbA hS (vp_in_nI (n := (i + 1)) (by omega) (by omega)) dL_law_404 ?_
  refine qk_topi (t := xs (i + 1)) (by rw [nI_clamp (by omega)]) ?_
  refine lv_i2l (v := (xs (i + 1)).toInt64) hx hb dL_law_405 rfl ?_
  refine lv_bipush (v := nI 32) hx hb dL_law_406 (by decide) ?_
  refine lv_lshl (v := (xs (i + 1)).toInt64 <<< ((nI 32).toInt64 &&& 63)) hx hb dL_law_408 rfl ?_
  refine lv_aload_n hx hb dL_law_409 rfl (lv_at hl 3 rfl) ?_
  refine lv_iload_n hx hb dL_law_410 rfl (lv_at hl 0 rfl) ?_
  refine lv_iconst (v := nI 2) hx hb dL_law_411 (by decide) ?_
  refine lv_iadd hx hb dL_law_412 ?_
  refine qk_topi (t := nI (i + 2)) ((nI_add _ _).trans rfl) ?_
  refine va_sld hx hb hX hbl hbA hS (vp_in_nI (n := (i + 2)) (by omega) (by omega)) dL_law_413 ?_
  refine qk_topi (t := xs (i + 2)) (by rw [nI_clamp (by omega)]) ?_
  refine lv_i2l (v := (xs (i + 2)).toInt64) hx hb dL_law_414 rfl ?_
  refine lv_ldc2 (v := 4294967295) hx hb hown (htb _ qw_590) dL_law_415 ?_
  refine qk_topl (t := lN 4294967295) (by decide) ?_
  refine lv_land hx hb dL_law_418 ?_
  refine lv_lor hx hb dL_law_419 ?_
  have hPx := qk_mem (wc := wX) hP (fun q h => List.mem_append_left _ h)
  refine vp_callSl (va_runV (As := [.long (((xs (i + 1)).toInt64 <<< ((nI 32).toInt64 &&& 63)) ||| ((xs (i + 2)).toInt64 &&& (lN 4294967295)))]) (rest := []) ⟨hx, hb, hml, hown, htb⟩ (qc_X_gap l G ax fk nr w x sz0 st nc lo hi kn cur wX (((xs (i + 1)).toInt64 <<< ((nI 32).toInt64 &&& 63)) ||| ((xs (i + 2)).toInt64 &&& (lN 4294967295))) hok hXr) (cwV 1 htb (qW_V qw_285 qw_286 qw_287 qw_13 qw_288) rfl rfl rfl (by decide +kernel) ⟨Nat.le_of_ble_eq_true rfl, Nat.le_of_ble_eq_true rfl⟩) (qk_pv (ci := 5) (q0 := 0) hK hPx hN rfl hx0) rfl rfl hl.1 rfl (lv_room (Nat.le_of_ble_eq_true rfl)) dL_law_420 ⟨by show _ ≤ 600000; omega, by show _ ≤ 7302250; omega⟩).run (fun r1 e1 => ?_)
  refine lv_aload_n hx hb dL_law_423 rfl (lv_at hl 1 rfl) ?_
  refine lv_aload_n hx hb dL_law_424 rfl (lv_at hl 3 rfl) ?_
  refine lv_iload_n hx hb dL_law_425 rfl (lv_at hl 0 rfl) ?_
  refine lv_iconst (v := nI 1) hx hb dL_law_426 (by decide) ?_
  refine lv_iadd hx hb dL_law_427 ?_
  refine qk_topi (t := nI (i + 1)) ((nI_add _ _).trans rfl) ?_
  refine va_sld hx hb hX hbl hbA hS (vp_in_nI (n := (i + 1)) (by omega) (by omega)) dL_law_428 ?_
  refine qk_topi (t := xs (i + 1)) (by rw [nI_clamp (by omega)]) ?_
  refine lv_i2l (v := (xs (i + 1)).toInt64) hx hb dL_law_429 rfl ?_
  refine lv_bipush (v := nI 32) hx hb dL_law_430 (by decide) ?_
  refine lv_lshl (v := (xs (i + 1)).toInt64 <<< ((nI 32).toInt64 &&& 63)) hx hb dL_law_432 rfl ?_
  refine lv_aload_n hx hb dL_law_433 rfl (lv_at hl 3 rfl) ?_
  refine lv_iload_n hx hb dL_law_434 rfl (lv_at hl 0 rfl) ?_
  refine lv_iconst (v := nI 2) hx hb dL_law_435 (by decide) ?_
  refine lv_iadd hx hb dL_law_436 ?_
  refine qk_topi (t := nI (i + 2)) ((nI_add _ _).trans rfl) ?_
  refine va_sld hx hb hX hbl hbA hS (vp_in_nI (n := (i + 2)) (by omega) (by omega)) dL_law_437 ?_
  refine qk_topi (t := xs (i + 2)) (by rw [nI_clamp (by omega)]) ?_
  refine lv_i2l (v := (xs (i + 2)).toInt64) hx hb dL_law_438 rfl ?_
  refine lv_ldc2 (v := 4294967295) hx hb hown (htb _ qw_590) dL_law_439 ?_
  refine qk_topl (t := lN 4294967295) (by decide) ?_
  refine lv_land hx hb dL_law_442 ?_
  refine lv_lor hx hb dL_law_443 ?_
  obtain ⟨hP, hD⟩ := qk_turn hP hD
  have hPm := qk_mem (wc := wM) hP (fun q h => List.mem_append_left _ h)
  have hDm := qk_left hD
  have hFm := qk_freeA hD hS hA
  refine va_calll (va_runV (As := [.long (((xs (i + 1)).toInt64 <<< ((nI 32).toInt64 &&& 63)) ||| ((xs (i + 2)).toInt64 &&& (lN 4294967295)))]) (rest := [.long r1]) ⟨hx, hb, hml, hown, htb⟩ (qc_M_gap l G am nr w x sz0 st nc lo hi kn cur wM (((xs (i + 1)).toInt64 <<< ((nI 32).toInt64 &&& 63)) ||| ((xs (i + 2)).toInt64 &&& (lN 4294967295))) H.size hok hMr) (cwV 1 htb (qW_V qw_547 qw_548 qw_549 qw_18 qw_550) rfl rfl rfl (by decide +kernel) ⟨Nat.le_of_ble_eq_true rfl, Nat.le_of_ble_eq_true rfl⟩) (qk_pvw (ci := 6) (q0 := 0) hK hPm hN hDm rfl hm0) rfl rfl hl.1 rfl (lv_room (Nat.le_of_ble_eq_true rfl)) dL_law_444 ⟨by show _ ≤ 600000; omega, by show _ ≤ 7302250; omega⟩) hS (fun q _ h => hFm q h) hFm (fun r2 u2 t8 H2 locs ht8 hvm2 w2 hB2 hz2 hk2 hS => ?_)
  obtain ⟨hP2, hK2, hD2⟩ := hB2
  rw [ht8] at hP2
  obtain ⟨hP, hD⟩ := qk_joinA hP hD hk2 hFm hP2 hD2
  obtain ⟨z2, wM1⟩ := u2
  obtain ⟨e2, ez2, hMr⟩ := w2
  have ez2 : z2 = _ := ez2
  subst ez2
  have hP : va_P G.1 vwCl (wM1 ++ (wX ++ kw)) H2 := hP
  have hD : va_D (fun q : Nat => s.heap.size ≤ q) (wM1 ++ (wX ++ kw)) := hD
  obtain ⟨hP, hD⟩ := qk_back hP hD
  refine W.lcmp hx hb dL_law_447 ?_
  refine lv_if_eq (tgt := 607) hx hb dL_law_448 (by decide) (fun cq => ?_) (fun cq => ?_)
  · have cq : r1 = r2 := (lg_cmp_eq _ _).mp cq
    refine W.widen (k := C + 5) (n := S + 407) (by omega) (by omega) ?_
    exact kk _ (qZt nr w x sz0 st nc lo hi kn cur) _ _ _ _ _ ⟨hok, hXr, hKr, hMr, hP, hD, hS⟩
  · have cq : ¬ (r1 = r2) := fun q9 => cq ((lg_cmp_eq _ _).mpr q9)
    exact absurd (e1.trans e2.symm) cq

set_option maxHeartbeats 4000000 in
set_option maxRecDepth 100000 in
theorem ql_c10 {p : Program} {l : Launch} {e : Env} {s : State} {m : MethodId} {below : List Frame} {meth : Method} {c : Code} {b0 L : Nat} {xs : Nat → Int32} (G : qG) (Q : State → Prop) (hx : p.tables.exec = Jvm.exec) (hb : c.code = code) (hml : c.maxLocals = 4) (hown : s.vm.findClass "GradeRowsLaw" = some m.cls) (htb : ∀ w ∈ qTb, w.before #[Value.ref b0] s = true) (hN : qNw s) (hK : va_K G.1 vwCl (qTy G) s) (hX : va_X b0 L xs s s.heap) (hbl : b0 < s.heap.size) (hL : L ≤ 2560) {i C S : Nat} (hi : i + 5 ≤ L) (hC : C + 5 ≤ 600000) (hS0 : S + 407 ≤ 7302250) {ax am : Nat} {fk : Nat → Option Nat} {z : qZ} {wX kw wM : va_W} {H : Heap} {locs : List Loc} (I : qInv G s ax am fk z wX kw wM H locs) {ls : Array Slot} (hl : lv_has ls 4 [(3, .int (nI i)), (2, .ref am), (1, .ref ax), (0, .ref b0)]) (kk : ∀ (fk : Nat → Option Nat) (z : qZ) (wX kw wM : va_W) (H : Heap) (locs : List Loc), qInv G s ax am fk z wX kw wM H locs → W p l e room_1 s m #[Value.ref b0] below meth c H locs (C + 5) (S + 407) Q (F0 m 607 ls [])) : W p l e room_1 s m #[Value.ref b0] below meth c H locs C S Q (F0 m 453 ls []) := by
  obtain ⟨⟨nr, w, x⟩, ⟨sz0, st⟩, ⟨nc, lo, hi⟩, kn, cur⟩ := z
  obtain ⟨hok, hXr, hKr, hMr, hP, hD, hS⟩ := I
  have hA : ∀ q : Nat, s.heap.size ≤ q → (fun q : Nat => s.heap.size ≤ q) q := fun _ h => h
  have hbA : ¬ (fun q : Nat => s.heap.size ≤ q) b0 := Nat.not_le.mpr hbl
  obtain ⟨fsx, hx0⟩ := qX_head hXr
  obtain ⟨fsm, hm0⟩ := qM_head hMr
  refine lv_aload_n hx hb dL_law_453 rfl (lv_at hl 2 rfl) ?_
  refine lv_aload_n hx hb dL_law_454 rfl (lv_at hl 3 rfl) ?_
  refine lv_iload_n hx hb dL_law_455 rfl (lv_at hl 0 rfl) ?_
  refine lv_iconst (v := nI 1) hx hb dL_law_456 (by decide) ?_
  refine lv_iadd hx hb dL_law_457 ?_
  refine qk_topi (t := nI (i + 1)) ((nI_add _ _).trans rfl) ?_
  refine va_sld hx hb hX hbl hbA hS (vp_in_nI (n := (i + 1)) (by omega) (by omega)) dL_law_458 ?_
  refine qk_topi (t := xs (i + 1)) (by rw [nI_clamp (by omega)]) ?_
  have hPx := qk_mem (wc := wX) hP (fun q h => List.mem_append_left _ h)
  refine vp_callSi (va_runV (As := [.int (xs (i + 1))]) (rest := []) ⟨hx, hb, hml, hown, htb⟩ (qc_X_stuck l G ax fk nr w x sz0 st nc lo hi kn cur wX (xs (i + 1)) hok hXr) (cwV 1 htb (qW_V qw_294 qw_295 qw_296 qw_13 qw_297) rfl rfl rfl (by decide +kernel) ⟨Nat.le_of_ble_eq_true rfl, Nat.le_of_ble_eq_true rfl⟩) (qk_pv (ci := 5) (q0 := 0) hK hPx hN rfl hx0) rfl rfl hl.1 rfl (lv_room (Nat.le_of_ble_eq_true rfl)) dL_law_459 ⟨by show _ ≤ 600000; omega, by show _ ≤ 7302250; omega⟩).run (fun r1 e1 => ?_)
  refine lv_aload_n hx hb dL_law_462 rfl (lv_at hl 1 rfl) ?_
  refine lv_aload_n hx hb dL_law_463 rfl (lv_at hl 3 rfl) ?_
  refine lv_iload_n hx hb dL_law_464 rfl (lv_at hl 0 rfl) ?_
  refine lv_iconst (v := nI 1) hx hb dL_law_465 (by decide) ?_
  refine lv_iadd hx hb dL_law_466 ?_
  refine qk_topi (t := nI (i + 1)) ((nI_add _ _).trans rfl) ?_
  refine va_sld hx hb hX hbl hbA hS (vp_in_nI (n := (i + 1)) (by omega) (by omega)) dL_law_467 ?_
  refine qk_topi (t := xs (i + 1)) (by rw [nI_clamp (by omega)]) ?_
  obtain ⟨hP, hD⟩ := qk_turn hP hD
  have hPm := qk_mem (wc := wM) hP (fun q h => List.mem_append_left _ h)
  have hDm := qk_left hD
  have hFm := qk_freeA hD hS hA
  refine va_calli (va_runV (As := [.int (xs (i + 1))]) (rest := [.int r1]) ⟨hx, hb, hml, hown, htb⟩ (qc_M_stuck l G am nr w x sz0 st nc lo hi kn cur wM (xs (i + 1)) H.size hok hMr) (cwV 1 htb (qW_V qw_551 qw_552 qw_553 qw_18 qw_554) rfl rfl rfl (by decide +kernel) ⟨Nat.le_of_ble_eq_true rfl, Nat.le_of_ble_eq_true rfl⟩) (qk_pvw (ci := 6) (q0 := 0) hK hPm hN hDm rfl hm0) rfl rfl hl.1 rfl (lv_room (Nat.le_of_ble_eq_true rfl)) dL_law_468 ⟨by show _ ≤ 600000; omega, by show _ ≤ 7302250; omega⟩) hS (fun q _ h => hFm q h) hFm (fun r2 u2 t8 H2 locs ht8 hvm2 w2 hB2 hz2 hk2 hS => ?_)
  obtain ⟨hP2, hK2, hD2⟩ := hB2
  rw [ht8] at hP2
  obtain ⟨hP, hD⟩ := qk_joinA hP hD hk2 hFm hP2 hD2
  obtain ⟨z2, wM1⟩ := u2
  obtain ⟨e2, ez2, hMr⟩ := w2
  have ez2 : z2 = _ := ez2
  subst ez2
  have hP : va_P G.1 vwCl (wM1 ++ (wX ++ kw)) H2 := hP
  have hD : va_D (fun q : Nat => s.heap.size ≤ q) (wM1 ++ (wX ++ kw)) := hD
  obtain ⟨hP, hD⟩ := qk_back hP hD
  refine lv_icmp_eq (tgt := 607) hx hb dL_law_471 (by decide) (fun cq => ?_) (fun cq => ?_)
  · refine W.widen (k := C + 5) (n := S + 407) (by omega) (by omega) ?_
    exact kk _ (qZt nr w x sz0 st nc lo hi kn cur) _ _ _ _ _ ⟨hok, hXr, hKr, hMr, hP, hD, hS⟩
  · exact absurd (e1.trans e2.symm) cq

set_option maxHeartbeats 4000000 in
set_option maxRecDepth 100000 in
theorem ql_c11 {p : Program} {l : Launch} {e : Env} {s : State} {m : MethodId} {below : List Frame} {meth : Method} {c : Code} {b0 L : Nat} {xs : Nat → Int32} (G : qG) (Q : State → Prop) (hx : p.tables.exec = Jvm.exec) (hb : c.code = code) (hml : c.maxLocals = 4) (hown : s.vm.findClass "GradeRowsLaw" = some m.cls) (htb : ∀ w ∈ qTb, w.before #[Value.ref b0] s = true) (hN : qNw s) (hK : va_K G.1 vwCl (qTy G) s) (hX : va_X b0 L xs s s.heap) (hbl : b0 < s.heap.size) (hL : L ≤ 2560) {i C S : Nat} (hi : i + 5 ≤ L) (hC : C + 5 ≤ 600000) (hS0 : S + 407 ≤ 7302250) {ax am : Nat} {fk : Nat → Option Nat} {z : qZ} {wX kw wM : va_W} {H : Heap} {locs : List Loc} (I : qInv G s ax am fk z wX kw wM H locs) {ls : Array Slot} (hl : lv_has ls 4 [(3, .int (nI i)), (2, .ref am), (1, .ref ax), (0, .ref b0)]) (kk : ∀ (fk : Nat → Option Nat) (z : qZ) (wX kw wM : va_W) (H : Heap) (locs : List Loc), qInv G s ax am fk z wX kw wM H locs → W p l e room_1 s m #[Value.ref b0] below meth c H locs (C + 5) (S + 407) Q (F0 m 607 ls [])) : W p l e room_1 s m #[Value.ref b0] below meth c H locs C S Q (F0 m 476 ls []) := by
  obtain ⟨⟨nr, w, x⟩, ⟨sz0, st⟩, ⟨nc, lo, hi⟩, kn, cur⟩ := z
  obtain ⟨hok, hXr, hKr, hMr, hP, hD, hS⟩ := I
  have hA : ∀ q : Nat, s.heap.size ≤ q → (fun q : Nat => s.heap.size ≤ q) q := fun _ h => h
  have hbA : ¬ (fun q : Nat => s.heap.size ≤ q) b0 := Nat.not_le.mpr hbl
  obtain ⟨fsx, hx0⟩ := qX_head hXr
  obtain ⟨fsm, hm0⟩ := qM_head hMr
  refine lv_aload_n hx hb dL_law_476 rfl (lv_at hl 2 rfl) ?_
  have hPx := qk_mem (wc := wX) hP (fun q h => List.mem_append_left _ h)
  refine vp_callSi (va_runV (As := []) (rest := []) ⟨hx, hb, hml, hown, htb⟩ (qc_X_run l G ax fk nr w x sz0 st nc lo hi kn cur wX hok hXr) (cwV 0 htb (qW_V qw_302 qw_303 qw_304 qw_13 qw_305) rfl rfl rfl (by decide +kernel) ⟨Nat.le_of_ble_eq_true rfl, Nat.le_of_ble_eq_true rfl⟩) (qk_pv (ci := 5) (q0 := 0) hK hPx hN rfl hx0) rfl rfl hl.1 rfl (lv_room (Nat.le_of_ble_eq_true rfl)) dL_law_477 ⟨by show _ ≤ 600000; omega, by show _ ≤ 7302250; omega⟩).run (fun r1 e1 => ?_)
  refine lv_aload_n hx hb dL_law_480 rfl (lv_at hl 1 rfl) ?_
  obtain ⟨hP, hD⟩ := qk_turn hP hD
  have hPm := qk_mem (wc := wM) hP (fun q h => List.mem_append_left _ h)
  have hDm := qk_left hD
  have hFm := qk_freeA hD hS hA
  refine va_calli (va_runV (As := []) (rest := [.int r1]) ⟨hx, hb, hml, hown, htb⟩ (qc_M_run l G am nr w x sz0 st nc lo hi kn cur wM H.size hok hMr) (cwV 0 htb (qW_V qw_555 qw_556 qw_557 qw_18 qw_558) rfl rfl rfl (by decide +kernel) ⟨Nat.le_of_ble_eq_true rfl, Nat.le_of_ble_eq_true rfl⟩) (qk_pvw (ci := 6) (q0 := 0) hK hPm hN hDm rfl hm0) rfl rfl hl.1 rfl (lv_room (Nat.le_of_ble_eq_true rfl)) dL_law_481 ⟨by show _ ≤ 600000; omega, by show _ ≤ 7302250; omega⟩) hS (fun q _ h => hFm q h) hFm (fun r2 u2 t8 H2 locs ht8 hvm2 w2 hB2 hz2 hk2 hS => ?_)
  obtain ⟨hP2, hK2, hD2⟩ := hB2
  rw [ht8] at hP2
  obtain ⟨hP, hD⟩ := qk_joinA hP hD hk2 hFm hP2 hD2
  obtain ⟨z2, wM1⟩ := u2
  obtain ⟨e2, ez2, hMr⟩ := w2
  have ez2 : z2 = _ := ez2
  subst ez2
  have hP : va_P G.1 vwCl (wM1 ++ (wX ++ kw)) H2 := hP
  have hD : va_D (fun q : Nat => s.heap.size ≤ q) (wM1 ++ (wX ++ kw)) := hD
  obtain ⟨hP, hD⟩ := qk_back hP hD
  refine lv_icmp_eq (tgt := 607) hx hb dL_law_484 (by decide) (fun cq => ?_) (fun cq => ?_)
  · refine W.widen (k := C + 5) (n := S + 407) (by omega) (by omega) ?_
    exact kk _ (qZt nr w x sz0 st nc lo hi kn cur) _ _ _ _ _ ⟨hok, hXr, hKr, hMr, hP, hD, hS⟩
  · exact absurd (e1.trans e2.symm) cq

set_option maxHeartbeats 4000000 in
set_option maxRecDepth 100000 in
theorem ql_c12 {p : Program} {l : Launch} {e : Env} {s : State} {m : MethodId} {below : List Frame} {meth : Method} {c : Code} {b0 L : Nat} {xs : Nat → Int32} (G : qG) (Q : State → Prop) (hx : p.tables.exec = Jvm.exec) (hb : c.code = code) (hml : c.maxLocals = 4) (hown : s.vm.findClass "GradeRowsLaw" = some m.cls) (htb : ∀ w ∈ qTb, w.before #[Value.ref b0] s = true) (hN : qNw s) (hK : va_K G.1 vwCl (qTy G) s) (hX : va_X b0 L xs s s.heap) (hbl : b0 < s.heap.size) (hL : L ≤ 2560) {i C S : Nat} (hi : i + 5 ≤ L) (hC : C + 5 ≤ 600000) (hS0 : S + 407 ≤ 7302250) {ax am : Nat} {fk : Nat → Option Nat} {z : qZ} {wX kw wM : va_W} {H : Heap} {locs : List Loc} (I : qInv G s ax am fk z wX kw wM H locs) {ls : Array Slot} (hl : lv_has ls 4 [(3, .int (nI i)), (2, .ref am), (1, .ref ax), (0, .ref b0)]) (kk : ∀ (fk : Nat → Option Nat) (z : qZ) (wX kw wM : va_W) (H : Heap) (locs : List Loc), qInv G s ax am fk z wX kw wM H locs → W p l e room_1 s m #[Value.ref b0] below meth c H locs (C + 5) (S + 407) Q (F0 m 607 ls [])) : W p l e room_1 s m #[Value.ref b0] below meth c H locs C S Q (F0 m 489 ls []) := by
  obtain ⟨⟨nr, w, x⟩, ⟨sz0, st⟩, ⟨nc, lo, hi⟩, kn, cur⟩ := z
  obtain ⟨hok, hXr, hKr, hMr, hP, hD, hS⟩ := I
  have hA : ∀ q : Nat, s.heap.size ≤ q → (fun q : Nat => s.heap.size ≤ q) q := fun _ h => h
  have hbA : ¬ (fun q : Nat => s.heap.size ≤ q) b0 := Nat.not_le.mpr hbl
  obtain ⟨fsx, hx0⟩ := qX_head hXr
  obtain ⟨fsm, hm0⟩ := qM_head hMr
  refine lv_aload_n hx hb dL_law_489 rfl (lv_at hl 2 rfl) ?_
  have hPx := qk_mem (wc := wX) hP (fun q h => List.mem_append_left _ h)
  refine vp_callSi (va_runV (As := []) (rest := []) ⟨hx, hb, hml, hown, htb⟩ (qc_X_hard l G ax fk nr w x sz0 st nc lo hi kn cur wX hok hXr) (cwV 0 htb (qW_V qw_313 qw_314 qw_315 qw_13 qw_316) rfl rfl rfl (by decide +kernel) ⟨Nat.le_of_ble_eq_true rfl, Nat.le_of_ble_eq_true rfl⟩) (qk_pv (ci := 5) (q0 := 0) hK hPx hN rfl hx0) rfl rfl hl.1 rfl (lv_room (Nat.le_of_ble_eq_true rfl)) dL_law_490 ⟨by show _ ≤ 600000; omega, by show _ ≤ 7302250; omega⟩).run (fun r1 e1 => ?_)
  refine lv_aload_n hx hb dL_law_493 rfl (lv_at hl 1 rfl) ?_
  obtain ⟨hP, hD⟩ := qk_turn hP hD
  have hPm := qk_mem (wc := wM) hP (fun q h => List.mem_append_left _ h)
  have hDm := qk_left hD
  have hFm := qk_freeA hD hS hA
  refine va_calli (va_runV (As := []) (rest := [.int r1]) ⟨hx, hb, hml, hown, htb⟩ (qc_M_hard l G am nr w x sz0 st nc lo hi kn cur wM H.size hok hMr) (cwV 0 htb (qW_V qw_559 qw_560 qw_561 qw_18 qw_562) rfl rfl rfl (by decide +kernel) ⟨Nat.le_of_ble_eq_true rfl, Nat.le_of_ble_eq_true rfl⟩) (qk_pvw (ci := 6) (q0 := 0) hK hPm hN hDm rfl hm0) rfl rfl hl.1 rfl (lv_room (Nat.le_of_ble_eq_true rfl)) dL_law_494 ⟨by show _ ≤ 600000; omega, by show _ ≤ 7302250; omega⟩) hS (fun q _ h => hFm q h) hFm (fun r2 u2 t8 H2 locs ht8 hvm2 w2 hB2 hz2 hk2 hS => ?_)
  obtain ⟨hP2, hK2, hD2⟩ := hB2
  rw [ht8] at hP2
  obtain ⟨hP, hD⟩ := qk_joinA hP hD hk2 hFm hP2 hD2
  obtain ⟨z2, wM1⟩ := u2
  obtain ⟨e2, ez2, hMr⟩ := w2
  have ez2 : z2 = _ := ez2
  subst ez2
  have hP : va_P G.1 vwCl (wM1 ++ (wX ++ kw)) H2 := hP
  have hD : va_D (fun q : Nat => s.heap.size ≤ q) (wM1 ++ (wX ++ kw)) := hD
  obtain ⟨hP, hD⟩ := qk_back hP hD
  refine lv_icmp_eq (tgt := 607) hx hb dL_law_497 (by decide) (fun cq => ?_) (fun cq => ?_)
  · refine W.widen (k := C + 5) (n := S + 407) (by omega) (by omega) ?_
    exact kk _ (qZt nr w x sz0 st nc lo hi kn cur) _ _ _ _ _ ⟨hok, hXr, hKr, hMr, hP, hD, hS⟩
  · exact absurd (e1.trans e2.symm) cq

set_option maxHeartbeats 4000000 in
set_option maxRecDepth 100000 in
theorem ql_c13 {p : Program} {l : Launch} {e : Env} {s : State} {m : MethodId} {below : List Frame} {meth : Method} {c : Code} {b0 L : Nat} {xs : Nat → Int32} (G : qG) (Q : State → Prop) (hx : p.tables.exec = Jvm.exec) (hb : c.code = code) (hml : c.maxLocals = 4) (hown : s.vm.findClass "GradeRowsLaw" = some m.cls) (htb : ∀ w ∈ qTb, w.before #[Value.ref b0] s = true) (hN : qNw s) (hK : va_K G.1 vwCl (qTy G) s) (hX : va_X b0 L xs s s.heap) (hbl : b0 < s.heap.size) (hL : L ≤ 2560) {i C S : Nat} (hi : i + 5 ≤ L) (hC : C + 5 ≤ 600000) (hS0 : S + 407 ≤ 7302250) {ax am : Nat} {fk : Nat → Option Nat} {z : qZ} {wX kw wM : va_W} {H : Heap} {locs : List Loc} (I : qInv G s ax am fk z wX kw wM H locs) {ls : Array Slot} (hl : lv_has ls 4 [(3, .int (nI i)), (2, .ref am), (1, .ref ax), (0, .ref b0)]) (kk : ∀ (fk : Nat → Option Nat) (z : qZ) (wX kw wM : va_W) (H : Heap) (locs : List Loc), qInv G s ax am fk z wX kw wM H locs → W p l e room_1 s m #[Value.ref b0] below meth c H locs (C + 5) (S + 407) Q (F0 m 607 ls [])) : W p l e room_1 s m #[Value.ref b0] below meth c H locs C S Q (F0 m 502 ls []) := by
  obtain ⟨⟨nr, w, x⟩, ⟨sz0, st⟩, ⟨nc, lo, hi⟩, kn, cur⟩ := z
  obtain ⟨hok, hXr, hKr, hMr, hP, hD, hS⟩ := I
  have hA : ∀ q : Nat, s.heap.size ≤ q → (fun q : Nat => s.heap.size ≤ q) q := fun _ h => h
  have hbA : ¬ (fun q : Nat => s.heap.size ≤ q) b0 := Nat.not_le.mpr hbl
  obtain ⟨fsx, hx0⟩ := qX_head hXr
  obtain ⟨fsm, hm0⟩ := qM_head hMr
  refine lv_aload_n hx hb dL_law_502 rfl (lv_at hl 2 rfl) ?_
  refine lv_aload_n hx hb dL_law_503 rfl (lv_at hl 3 rfl) ?_
  refine lv_iload_n hx hb dL_law_504 rfl (lv_at hl 0 rfl) ?_
  refine lv_iconst (v := nI 1) hx hb dL_law_505 (by decide) ?_
  refine lv_iadd hx hb dL_law_506 ?_
  refine qk_topi (t := nI (i + 1)) ((nI_add _ _).trans rfl) ?_
  refine va_sld hx hb hX hbl hbA hS (vp_in_nI (n := (i + 1)) (by omega) (by omega)) dL_law_507 ?_
  refine qk_topi (t := xs (i + 1)) (by rw [nI_clamp (by omega)]) ?_
  have hPx := qk_mem (wc := wX) hP (fun q h => List.mem_append_left _ h)
  have hDx := qk_left hD
  have hFx := qk_freeA hD hS hA
  refine va_calli (va_runV (As := [.int (xs (i + 1))]) (rest := []) ⟨hx, hb, hml, hown, htb⟩ (qc_X_go l G ax fk nr w x sz0 st nc lo hi kn cur wX (xs (i + 1)) H.size hok hXr) (cwV 1 htb (qW_V qw_322 qw_323 qw_324 qw_13 qw_325) rfl rfl rfl (by decide +kernel) ⟨Nat.le_of_ble_eq_true rfl, Nat.le_of_ble_eq_true rfl⟩) (qk_pvw (ci := 5) (q0 := 0) hK hPx hN hDx rfl hx0) rfl rfl hl.1 rfl (lv_room (Nat.le_of_ble_eq_true rfl)) dL_law_508 ⟨by show _ ≤ 600000; omega, by show _ ≤ 7302250; omega⟩) hS (fun q _ h => hFx q h) hFx (fun r1 u1 t9 H1 locs ht9 hvm w1 hB hz1 hk1 hS => ?_)
  obtain ⟨hP1, hK1, hD1⟩ := hB
  rw [ht9] at hP1
  obtain ⟨hP, hD⟩ := qk_joinA hP hD hk1 hFx hP1 hD1
  obtain ⟨z1, wX1⟩ := u1
  obtain ⟨e1, ez, hXr⟩ := w1
  have ez : z1 = _ := ez
  subst ez
  have hP : va_P G.1 vwCl (wX1 ++ (kw ++ wM)) H1 := hP
  have hD : va_D (fun q : Nat => s.heap.size ≤ q) (wX1 ++ (kw ++ wM)) := hD
  refine lv_aload_n hx hb dL_law_511 rfl (lv_at hl 1 rfl) ?_
  refine lv_aload_n hx hb dL_law_512 rfl (lv_at hl 3 rfl) ?_
  refine lv_iload_n hx hb dL_law_513 rfl (lv_at hl 0 rfl) ?_
  refine lv_iconst (v := nI 1) hx hb dL_law_514 (by decide) ?_
  refine lv_iadd hx hb dL_law_515 ?_
  refine qk_topi (t := nI (i + 1)) ((nI_add _ _).trans rfl) ?_
  refine va_sld hx hb hX hbl hbA hS (vp_in_nI (n := (i + 1)) (by omega) (by omega)) dL_law_516 ?_
  refine qk_topi (t := xs (i + 1)) (by rw [nI_clamp (by omega)]) ?_
  obtain ⟨hP, hD⟩ := qk_turn hP hD
  have hPm := qk_mem (wc := wM) hP (fun q h => List.mem_append_left _ h)
  have hDm := qk_left hD
  have hFm := qk_freeA hD hS hA
  refine va_calli (va_runV (As := [.int (xs (i + 1))]) (rest := [.int r1]) ⟨hx, hb, hml, hown, htb⟩ (qc_M_go l G am nr w x sz0 st nc lo hi kn cur wM (xs (i + 1)) H1.size hok hMr) (cwV 1 htb (qW_V qw_563 qw_564 qw_565 qw_18 qw_566) rfl rfl rfl (by decide +kernel) ⟨Nat.le_of_ble_eq_true rfl, Nat.le_of_ble_eq_true rfl⟩) (qk_pvw (ci := 6) (q0 := 0) hK hPm hN hDm rfl hm0) rfl rfl hl.1 rfl (lv_room (Nat.le_of_ble_eq_true rfl)) dL_law_517 ⟨by show _ ≤ 600000; omega, by show _ ≤ 7302250; omega⟩) hS (fun q _ h => hFm q h) hFm (fun r2 u2 t8 H2 locs ht8 hvm2 w2 hB2 hz2 hk2 hS => ?_)
  obtain ⟨hP2, hK2, hD2⟩ := hB2
  rw [ht8] at hP2
  obtain ⟨hP, hD⟩ := qk_joinA hP hD hk2 hFm hP2 hD2
  obtain ⟨z2, wM1⟩ := u2
  obtain ⟨e2, ez2, hMr⟩ := w2
  have ez2 : z2 = _ := ez2
  subst ez2
  have hP : va_P G.1 vwCl (wM1 ++ (wX1 ++ kw)) H2 := hP
  have hD : va_D (fun q : Nat => s.heap.size ≤ q) (wM1 ++ (wX1 ++ kw)) := hD
  obtain ⟨hP, hD⟩ := qk_back hP hD
  refine lv_icmp_eq (tgt := 607) hx hb dL_law_520 (by decide) (fun cq => ?_) (fun cq => ?_)
  · refine W.widen (k := C + 5) (n := S + 407) (by omega) (by omega) ?_
    exact kk _ (qo_go (qZt nr w x sz0 st nc lo hi kn cur) (xs (i + 1))).2 _ _ _ _ _ ⟨qo_go_ok hok (xs (i + 1)), hXr, qo_go_K hok hKr (xs (i + 1)), hMr, hP, hD, hS⟩
  · exact absurd (e1.trans e2.symm) cq

set_option maxHeartbeats 4000000 in
set_option maxRecDepth 100000 in
theorem ql_c14 {p : Program} {l : Launch} {e : Env} {s : State} {m : MethodId} {below : List Frame} {meth : Method} {c : Code} {b0 L : Nat} {xs : Nat → Int32} (G : qG) (Q : State → Prop) (hx : p.tables.exec = Jvm.exec) (hb : c.code = code) (hml : c.maxLocals = 4) (hown : s.vm.findClass "GradeRowsLaw" = some m.cls) (htb : ∀ w ∈ qTb, w.before #[Value.ref b0] s = true) (hN : qNw s) (hK : va_K G.1 vwCl (qTy G) s) (hX : va_X b0 L xs s s.heap) (hbl : b0 < s.heap.size) (hL : L ≤ 2560) {i C S : Nat} (hi : i + 5 ≤ L) (hC : C + 5 ≤ 600000) (hS0 : S + 407 ≤ 7302250) {ax am : Nat} {fk : Nat → Option Nat} {z : qZ} {wX kw wM : va_W} {H : Heap} {locs : List Loc} (I : qInv G s ax am fk z wX kw wM H locs) {ls : Array Slot} (hl : lv_has ls 4 [(3, .int (nI i)), (2, .ref am), (1, .ref ax), (0, .ref b0)]) (kk : ∀ (fk : Nat → Option Nat) (z : qZ) (wX kw wM : va_W) (H : Heap) (locs : List Loc), qInv G s ax am fk z wX kw wM H locs → W p l e room_1 s m #[Value.ref b0] below meth c H locs (C + 5) (S + 407) Q (F0 m 607 ls [])) : W p l e room_1 s m #[Value.ref b0] below meth c H locs C S Q (F0 m 525 ls []) := by
  obtain ⟨⟨nr, w, x⟩, ⟨sz0, st⟩, ⟨nc, lo, hi⟩, kn, cur⟩ := z
  obtain ⟨hok, hXr, hKr, hMr, hP, hD, hS⟩ := I
  have hA : ∀ q : Nat, s.heap.size ≤ q → (fun q : Nat => s.heap.size ≤ q) q := fun _ h => h
  have hbA : ¬ (fun q : Nat => s.heap.size ≤ q) b0 := Nat.not_le.mpr hbl
  obtain ⟨fsx, hx0⟩ := qX_head hXr
  obtain ⟨fsm, hm0⟩ := qM_head hMr
  refine lv_aload_n hx hb dL_law_525 rfl (lv_at hl 2 rfl) ?_
  refine lv_aload_n hx hb dL_law_526 rfl (lv_at hl 3 rfl) ?_
  refine lv_iload_n hx hb dL_law_527 rfl (lv_at hl 0 rfl) ?_
  refine lv_iconst (v := nI 1) hx hb dL_law_528 (by decide) ?_
  refine lv_iadd hx hb dL_law_529 ?_
  refine qk_topi (t := nI (i + 1)) ((nI_add _ _).trans rfl) ?_
  refine va_sld hx hb hX hbl hbA hS (vp_in_nI (n := (i + 1)) (by omega) (by omega)) dL_law_530 ?_
  refine qk_topi (t := xs (i + 1)) (by rw [nI_clamp (by omega)]) ?_
  have hPx := qk_mem (wc := wX) hP (fun q h => List.mem_append_left _ h)
  have hDx := qk_left hD
  have hFx := qk_freeA hD hS hA
  refine va_calli (va_runV (As := [.int (xs (i + 1))]) (rest := []) ⟨hx, hb, hml, hown, htb⟩ (qc_X_hint l G ax fk nr w x sz0 st nc lo hi kn cur wX (xs (i + 1)) H.size hok hXr) (cwV 1 htb (qW_V qw_326 qw_327 qw_328 qw_13 qw_329) rfl rfl rfl (by decide +kernel) ⟨Nat.le_of_ble_eq_true rfl, Nat.le_of_ble_eq_true rfl⟩) (qk_pvw (ci := 5) (q0 := 0) hK hPx hN hDx rfl hx0) rfl rfl hl.1 rfl (lv_room (Nat.le_of_ble_eq_true rfl)) dL_law_531 ⟨by show _ ≤ 600000; omega, by show _ ≤ 7302250; omega⟩) hS (fun q _ h => hFx q h) hFx (fun r1 u1 t9 H1 locs ht9 hvm w1 hB hz1 hk1 hS => ?_)
  obtain ⟨hP1, hK1, hD1⟩ := hB
  rw [ht9] at hP1
  obtain ⟨hP, hD⟩ := qk_joinA hP hD hk1 hFx hP1 hD1
  obtain ⟨z1, wX1⟩ := u1
  obtain ⟨e1, ez, hXr⟩ := w1
  have ez : z1 = _ := ez
  subst ez
  have hP : va_P G.1 vwCl (wX1 ++ (kw ++ wM)) H1 := hP
  have hD : va_D (fun q : Nat => s.heap.size ≤ q) (wX1 ++ (kw ++ wM)) := hD
  refine lv_aload_n hx hb dL_law_534 rfl (lv_at hl 1 rfl) ?_
  refine lv_aload_n hx hb dL_law_535 rfl (lv_at hl 3 rfl) ?_
  refine lv_iload_n hx hb dL_law_536 rfl (lv_at hl 0 rfl) ?_
  refine lv_iconst (v := nI 1) hx hb dL_law_537 (by decide) ?_
  refine lv_iadd hx hb dL_law_538 ?_
  refine qk_topi (t := nI (i + 1)) ((nI_add _ _).trans rfl) ?_
  refine va_sld hx hb hX hbl hbA hS (vp_in_nI (n := (i + 1)) (by omega) (by omega)) dL_law_539 ?_
  refine qk_topi (t := xs (i + 1)) (by rw [nI_clamp (by omega)]) ?_
  obtain ⟨hP, hD⟩ := qk_turn hP hD
  have hPm := qk_mem (wc := wM) hP (fun q h => List.mem_append_left _ h)
  have hDm := qk_left hD
  have hFm := qk_freeA hD hS hA
  refine va_calli (va_runV (As := [.int (xs (i + 1))]) (rest := [.int r1]) ⟨hx, hb, hml, hown, htb⟩ (qc_M_hint l G am nr w x sz0 st nc lo hi kn cur wM (xs (i + 1)) H1.size hok hMr) (cwV 1 htb (qW_V qw_567 qw_568 qw_569 qw_18 qw_570) rfl rfl rfl (by decide +kernel) ⟨Nat.le_of_ble_eq_true rfl, Nat.le_of_ble_eq_true rfl⟩) (qk_pvw (ci := 6) (q0 := 0) hK hPm hN hDm rfl hm0) rfl rfl hl.1 rfl (lv_room (Nat.le_of_ble_eq_true rfl)) dL_law_540 ⟨by show _ ≤ 600000; omega, by show _ ≤ 7302250; omega⟩) hS (fun q _ h => hFm q h) hFm (fun r2 u2 t8 H2 locs ht8 hvm2 w2 hB2 hz2 hk2 hS => ?_)
  obtain ⟨hP2, hK2, hD2⟩ := hB2
  rw [ht8] at hP2
  obtain ⟨hP, hD⟩ := qk_joinA hP hD hk2 hFm hP2 hD2
  obtain ⟨z2, wM1⟩ := u2
  obtain ⟨e2, ez2, hMr⟩ := w2
  have ez2 : z2 = _ := ez2
  subst ez2
  have hP : va_P G.1 vwCl (wM1 ++ (wX1 ++ kw)) H2 := hP
  have hD : va_D (fun q : Nat => s.heap.size ≤ q) (wM1 ++ (wX1 ++ kw)) := hD
  obtain ⟨hP, hD⟩ := qk_back hP hD
  refine lv_icmp_eq (tgt := 607) hx hb dL_law_543 (by decide) (fun cq => ?_) (fun cq => ?_)
  · refine W.widen (k := C + 5) (n := S + 407) (by omega) (by omega) ?_
    exact kk _ (qo_hint (qZt nr w x sz0 st nc lo hi kn cur) (xs (i + 1))).2 _ _ _ _ _ ⟨qo_hint_ok hok (xs (i + 1)), hXr, qo_hint_K hok hKr (xs (i + 1)), hMr, hP, hD, hS⟩
  · exact absurd (e1.trans e2.symm) cq

set_option maxHeartbeats 4000000 in
set_option maxRecDepth 100000 in
theorem ql_c15 {p : Program} {l : Launch} {e : Env} {s : State} {m : MethodId} {below : List Frame} {meth : Method} {c : Code} {b0 L : Nat} {xs : Nat → Int32} (G : qG) (Q : State → Prop) (hx : p.tables.exec = Jvm.exec) (hb : c.code = code) (hml : c.maxLocals = 4) (hown : s.vm.findClass "GradeRowsLaw" = some m.cls) (htb : ∀ w ∈ qTb, w.before #[Value.ref b0] s = true) (hN : qNw s) (hK : va_K G.1 vwCl (qTy G) s) (hX : va_X b0 L xs s s.heap) (hbl : b0 < s.heap.size) (hL : L ≤ 2560) {i C S : Nat} (hi : i + 5 ≤ L) (hC : C + 5 ≤ 600000) (hS0 : S + 407 ≤ 7302250) {ax am : Nat} {fk : Nat → Option Nat} {z : qZ} {wX kw wM : va_W} {H : Heap} {locs : List Loc} (I : qInv G s ax am fk z wX kw wM H locs) {ls : Array Slot} (hl : lv_has ls 4 [(3, .int (nI i)), (2, .ref am), (1, .ref ax), (0, .ref b0)]) (kk : ∀ (fk : Nat → Option Nat) (z : qZ) (wX kw wM : va_W) (H : Heap) (locs : List Loc), qInv G s ax am fk z wX kw wM H locs → W p l e room_1 s m #[Value.ref b0] below meth c H locs (C + 5) (S + 407) Q (F0 m 607 ls [])) : W p l e room_1 s m #[Value.ref b0] below meth c H locs C S Q (F0 m 548 ls []) := by
  obtain ⟨⟨nr, w, x⟩, ⟨sz0, st⟩, ⟨nc, lo, hi⟩, kn, cur⟩ := z
  obtain ⟨hok, hXr, hKr, hMr, hP, hD, hS⟩ := I
  have hA : ∀ q : Nat, s.heap.size ≤ q → (fun q : Nat => s.heap.size ≤ q) q := fun _ h => h
  have hbA : ¬ (fun q : Nat => s.heap.size ≤ q) b0 := Nat.not_le.mpr hbl
  obtain ⟨fsx, hx0⟩ := qX_head hXr
  obtain ⟨fsm, hm0⟩ := qM_head hMr
  refine lv_aload_n hx hb dL_law_548 rfl (lv_at hl 2 rfl) ?_
  have hPx := qk_mem (wc := wX) hP (fun q h => List.mem_append_left _ h)
  have hDx := qk_left hD
  have hFx := qk_freeA hD hS hA
  refine va_calli (va_runV (As := []) (rest := []) ⟨hx, hb, hml, hown, htb⟩ (qc_X_keep l G ax fk nr w x sz0 st nc lo hi kn cur wX H.size hok hXr) (cwV 0 htb (qW_V qw_347 qw_348 qw_349 qw_13 qw_350) rfl rfl rfl (by decide +kernel) ⟨Nat.le_of_ble_eq_true rfl, Nat.le_of_ble_eq_true rfl⟩) (qk_pvw (ci := 5) (q0 := 0) hK hPx hN hDx rfl hx0) rfl rfl hl.1 rfl (lv_room (Nat.le_of_ble_eq_true rfl)) dL_law_549 ⟨by show _ ≤ 600000; omega, by show _ ≤ 7302250; omega⟩) hS (fun q _ h => hFx q h) hFx (fun r1 u1 t9 H1 locs ht9 hvm w1 hB hz1 hk1 hS => ?_)
  obtain ⟨hP1, hK1, hD1⟩ := hB
  rw [ht9] at hP1
  obtain ⟨hP, hD⟩ := qk_joinA hP hD hk1 hFx hP1 hD1
  obtain ⟨z1, fk1, wX1, kn1⟩ := u1
  obtain ⟨e1, ez, hXr, hKn⟩ := w1
  have ez : z1 = _ := ez
  subst ez
  have hKr := hKn kw hKr
  have hP : va_P G.1 vwCl ((wX1 ++ kn1) ++ (kw ++ wM)) H1 := hP
  have hD : va_D (fun q : Nat => s.heap.size ≤ q) ((wX1 ++ kn1) ++ (kw ++ wM)) := hD
  obtain ⟨hP, hD⟩ := qk_keepw hP hD
  refine lv_aload_n hx hb dL_law_552 rfl (lv_at hl 1 rfl) ?_
  obtain ⟨hP, hD⟩ := qk_turn hP hD
  have hPm := qk_mem (wc := wM) hP (fun q h => List.mem_append_left _ h)
  have hDm := qk_left hD
  have hFm := qk_freeA hD hS hA
  refine va_calli (va_runV (As := []) (rest := [.int r1]) ⟨hx, hb, hml, hown, htb⟩ (qc_M_keep l G am nr w x sz0 st nc lo hi kn cur wM H1.size hok hMr) (cwV 0 htb (qW_V qw_571 qw_572 qw_573 qw_18 qw_574) rfl rfl rfl (by decide +kernel) ⟨Nat.le_of_ble_eq_true rfl, Nat.le_of_ble_eq_true rfl⟩) (qk_pvw (ci := 6) (q0 := 0) hK hPm hN hDm rfl hm0) rfl rfl hl.1 rfl (lv_room (Nat.le_of_ble_eq_true rfl)) dL_law_553 ⟨by show _ ≤ 600000; omega, by show _ ≤ 7302250; omega⟩) hS (fun q _ h => hFm q h) hFm (fun r2 u2 t8 H2 locs ht8 hvm2 w2 hB2 hz2 hk2 hS => ?_)
  obtain ⟨hP2, hK2, hD2⟩ := hB2
  rw [ht8] at hP2
  obtain ⟨hP, hD⟩ := qk_joinA hP hD hk2 hFm hP2 hD2
  obtain ⟨z2, wM1⟩ := u2
  obtain ⟨e2, ez2, hMr⟩ := w2
  have ez2 : z2 = _ := ez2
  subst ez2
  have hP : va_P G.1 vwCl (wM1 ++ (wX1 ++ (kw ++ kn1))) H2 := hP
  have hD : va_D (fun q : Nat => s.heap.size ≤ q) (wM1 ++ (wX1 ++ (kw ++ kn1))) := hD
  obtain ⟨hP, hD⟩ := qk_back hP hD
  refine lv_icmp_eq (tgt := 607) hx hb dL_law_556 (by decide) (fun cq => ?_) (fun cq => ?_)
  · refine W.widen (k := C + 5) (n := S + 407) (by omega) (by omega) ?_
    exact kk _ (qo_keep (qZt nr w x sz0 st nc lo hi kn cur)).2 _ _ _ _ _ ⟨qo_keep_ok hok, hXr, hKr, hMr, hP, hD, hS⟩
  · exact absurd (e1.trans e2.symm) cq

set_option maxHeartbeats 4000000 in
set_option maxRecDepth 100000 in
theorem ql_c16 {p : Program} {l : Launch} {e : Env} {s : State} {m : MethodId} {below : List Frame} {meth : Method} {c : Code} {b0 L : Nat} {xs : Nat → Int32} (G : qG) (Q : State → Prop) (hx : p.tables.exec = Jvm.exec) (hb : c.code = code) (hml : c.maxLocals = 4) (hown : s.vm.findClass "GradeRowsLaw" = some m.cls) (htb : ∀ w ∈ qTb, w.before #[Value.ref b0] s = true) (hN : qNw s) (hK : va_K G.1 vwCl (qTy G) s) (hX : va_X b0 L xs s s.heap) (hbl : b0 < s.heap.size) (hL : L ≤ 2560) {i C S : Nat} (hi : i + 5 ≤ L) (hC : C + 5 ≤ 600000) (hS0 : S + 407 ≤ 7302250) {ax am : Nat} {fk : Nat → Option Nat} {z : qZ} {wX kw wM : va_W} {H : Heap} {locs : List Loc} (I : qInv G s ax am fk z wX kw wM H locs) {ls : Array Slot} (hl : lv_has ls 4 [(3, .int (nI i)), (2, .ref am), (1, .ref ax), (0, .ref b0)]) (kk : ∀ (fk : Nat → Option Nat) (z : qZ) (wX kw wM : va_W) (H : Heap) (locs : List Loc), qInv G s ax am fk z wX kw wM H locs → W p l e room_1 s m #[Value.ref b0] below meth c H locs (C + 5) (S + 407) Q (F0 m 607 ls [])) : W p l e room_1 s m #[Value.ref b0] below meth c H locs C S Q (F0 m 561 ls []) := by
  obtain ⟨⟨nr, w, x⟩, ⟨sz0, st⟩, ⟨nc, lo, hi⟩, kn, cur⟩ := z
  obtain ⟨hok, hXr, hKr, hMr, hP, hD, hS⟩ := I
  have hA : ∀ q : Nat, s.heap.size ≤ q → (fun q : Nat => s.heap.size ≤ q) q := fun _ h => h
  have hbA : ¬ (fun q : Nat => s.heap.size ≤ q) b0 := Nat.not_le.mpr hbl
  obtain ⟨fsx, hx0⟩ := qX_head hXr
  obtain ⟨fsm, hm0⟩ := qM_head hMr
  refine lv_aload_n hx hb dL_law_561 rfl (lv_at hl 2 rfl) ?_
  refine lv_aload_n hx hb dL_law_562 rfl (lv_at hl 3 rfl) ?_
  refine lv_iload_n hx hb dL_law_563 rfl (lv_at hl 0 rfl) ?_
  refine lv_iconst (v := nI 1) hx hb dL_law_564 (by decide) ?_
  refine lv_iadd hx hb dL_law_565 ?_
  refine qk_topi (t := nI (i + 1)) ((nI_add _ _).trans rfl) ?_
  refine va_sld hx hb hX hbl hbA hS (vp_in_nI (n := (i + 1)) (by omega) (by omega)) dL_law_566 ?_
  refine qk_topi (t := xs (i + 1)) (by rw [nI_clamp (by omega)]) ?_
  have hPx := qk_mem (wc := wX ++ kw) hP (fun q h => by simp only [List.mem_append] at h ⊢; rcases h with h | h; exact Or.inl h; exact Or.inr (Or.inl h))
  refine vp_callSi (va_runV (As := [.int (xs (i + 1))]) (rest := []) ⟨hx, hb, hml, hown, htb⟩ (qc_X_cmp l G ax fk nr w x sz0 st nc lo hi kn cur wX kw (xs (i + 1)) hok hXr hKr) (cwV 1 htb (qW_V qw_394 qw_395 qw_396 qw_13 qw_397) rfl rfl rfl (by decide +kernel) ⟨Nat.le_of_ble_eq_true rfl, Nat.le_of_ble_eq_true rfl⟩) (qk_pv (ci := 5) (q0 := 0) hK hPx hN rfl (qk_app0 hx0)) rfl rfl hl.1 rfl (lv_room (Nat.le_of_ble_eq_true rfl)) dL_law_567 ⟨by show _ ≤ 600000; omega, by show _ ≤ 7302250; omega⟩).run (fun r1 e1 => ?_)
  refine lv_aload_n hx hb dL_law_570 rfl (lv_at hl 1 rfl) ?_
  refine lv_aload_n hx hb dL_law_571 rfl (lv_at hl 3 rfl) ?_
  refine lv_iload_n hx hb dL_law_572 rfl (lv_at hl 0 rfl) ?_
  refine lv_iconst (v := nI 1) hx hb dL_law_573 (by decide) ?_
  refine lv_iadd hx hb dL_law_574 ?_
  refine qk_topi (t := nI (i + 1)) ((nI_add _ _).trans rfl) ?_
  refine va_sld hx hb hX hbl hbA hS (vp_in_nI (n := (i + 1)) (by omega) (by omega)) dL_law_575 ?_
  refine qk_topi (t := xs (i + 1)) (by rw [nI_clamp (by omega)]) ?_
  obtain ⟨hP, hD⟩ := qk_turn hP hD
  have hPm := qk_mem (wc := wM) hP (fun q h => List.mem_append_left _ h)
  have hDm := qk_left hD
  have hFm := qk_freeA hD hS hA
  refine va_calli (va_runV (As := [.int (xs (i + 1))]) (rest := [.int r1]) ⟨hx, hb, hml, hown, htb⟩ (qc_M_cmp l G am nr w x sz0 st nc lo hi kn cur wM (xs (i + 1)) H.size hok hMr) (cwV 1 htb (qW_V qw_575 qw_576 qw_577 qw_18 qw_578) rfl rfl rfl (by decide +kernel) ⟨Nat.le_of_ble_eq_true rfl, Nat.le_of_ble_eq_true rfl⟩) (qk_pvw (ci := 6) (q0 := 0) hK hPm hN hDm rfl hm0) rfl rfl hl.1 rfl (lv_room (Nat.le_of_ble_eq_true rfl)) dL_law_576 ⟨by show _ ≤ 600000; omega, by show _ ≤ 7302250; omega⟩) hS (fun q _ h => hFm q h) hFm (fun r2 u2 t8 H2 locs ht8 hvm2 w2 hB2 hz2 hk2 hS => ?_)
  obtain ⟨hP2, hK2, hD2⟩ := hB2
  rw [ht8] at hP2
  obtain ⟨hP, hD⟩ := qk_joinA hP hD hk2 hFm hP2 hD2
  obtain ⟨z2, wM1⟩ := u2
  obtain ⟨e2, ez2, hMr⟩ := w2
  have ez2 : z2 = _ := ez2
  subst ez2
  have hP : va_P G.1 vwCl (wM1 ++ (wX ++ kw)) H2 := hP
  have hD : va_D (fun q : Nat => s.heap.size ≤ q) (wM1 ++ (wX ++ kw)) := hD
  obtain ⟨hP, hD⟩ := qk_back hP hD
  refine lv_icmp_eq (tgt := 607) hx hb dL_law_579 (by decide) (fun cq => ?_) (fun cq => ?_)
  · refine W.widen (k := C + 5) (n := S + 407) (by omega) (by omega) ?_
    exact kk _ (qZt nr w x sz0 st nc lo hi kn cur) _ _ _ _ _ ⟨hok, hXr, hKr, hMr, hP, hD, hS⟩
  · exact absurd (qo_cmp_one e1 e2) cq

set_option maxHeartbeats 4000000 in
set_option maxRecDepth 100000 in
theorem ql_c17 {p : Program} {l : Launch} {e : Env} {s : State} {m : MethodId} {below : List Frame} {meth : Method} {c : Code} {b0 L : Nat} {xs : Nat → Int32} (G : qG) (Q : State → Prop) (hx : p.tables.exec = Jvm.exec) (hb : c.code = code) (hml : c.maxLocals = 4) (hown : s.vm.findClass "GradeRowsLaw" = some m.cls) (htb : ∀ w ∈ qTb, w.before #[Value.ref b0] s = true) (hN : qNw s) (hK : va_K G.1 vwCl (qTy G) s) (hX : va_X b0 L xs s s.heap) (hbl : b0 < s.heap.size) (hL : L ≤ 2560) {i C S : Nat} (hi : i + 5 ≤ L) (hC : C + 5 ≤ 600000) (hS0 : S + 407 ≤ 7302250) {ax am : Nat} {fk : Nat → Option Nat} {z : qZ} {wX kw wM : va_W} {H : Heap} {locs : List Loc} (I : qInv G s ax am fk z wX kw wM H locs) {ls : Array Slot} (hl : lv_has ls 4 [(3, .int (nI i)), (2, .ref am), (1, .ref ax), (0, .ref b0)]) (kk : ∀ (fk : Nat → Option Nat) (z : qZ) (wX kw wM : va_W) (H : Heap) (locs : List Loc), qInv G s ax am fk z wX kw wM H locs → W p l e room_1 s m #[Value.ref b0] below meth c H locs (C + 5) (S + 407) Q (F0 m 607 ls [])) : W p l e room_1 s m #[Value.ref b0] below meth c H locs C S Q (F0 m 584 ls []) := by
  obtain ⟨⟨nr, w, x⟩, ⟨sz0, st⟩, ⟨nc, lo, hi⟩, kn, cur⟩ := z
  obtain ⟨hok, hXr, hKr, hMr, hP, hD, hS⟩ := I
  have hA : ∀ q : Nat, s.heap.size ≤ q → (fun q : Nat => s.heap.size ≤ q) q := fun _ h => h
  have hbA : ¬ (fun q : Nat => s.heap.size ≤ q) b0 := Nat.not_le.mpr hbl
  obtain ⟨fsx, hx0⟩ := qX_head hXr
  obtain ⟨fsm, hm0⟩ := qM_head hMr
  refine lv_aload_n hx hb dL_law_584 rfl (lv_at hl 2 rfl) ?_
  refine lv_aload_n hx hb dL_law_585 rfl (lv_at hl 3 rfl) ?_
  refine lv_iload_n hx hb dL_law_586 rfl (lv_at hl 0 rfl) ?_
  refine lv_iconst (v := nI 1) hx hb dL_law_587 (by decide) ?_
  refine lv_iadd hx hb dL_law_588 ?_
  refine qk_topi (t := nI (i + 1)) ((nI_add _ _).trans rfl) ?_
  refine va_sld hx hb hX hbl hbA hS (vp_in_nI (n := (i + 1)) (by omega) (by omega)) dL_law_589 ?_
  refine qk_topi (t := xs (i + 1)) (by rw [nI_clamp (by omega)]) ?_
  have hPx := qk_mem (wc := wX ++ kw) hP (fun q h => by simp only [List.mem_append] at h ⊢; rcases h with h | h; exact Or.inl h; exact Or.inr (Or.inl h))
  refine vp_callSi (va_runV (As := [.int (xs (i + 1))]) (rest := []) ⟨hx, hb, hml, hown, htb⟩ (qc_X_same l G ax fk nr w x sz0 st nc lo hi kn cur wX kw (xs (i + 1)) hok hXr hKr) (cwV 1 htb (qW_V qw_419 qw_420 qw_421 qw_13 qw_422) rfl rfl rfl (by decide +kernel) ⟨Nat.le_of_ble_eq_true rfl, Nat.le_of_ble_eq_true rfl⟩) (qk_pv (ci := 5) (q0 := 0) hK hPx hN rfl (qk_app0 hx0)) rfl rfl hl.1 rfl (lv_room (Nat.le_of_ble_eq_true rfl)) dL_law_590 ⟨by show _ ≤ 600000; omega, by show _ ≤ 7302250; omega⟩).run (fun r1 e1 => ?_)
  refine lv_aload_n hx hb dL_law_593 rfl (lv_at hl 1 rfl) ?_
  refine lv_aload_n hx hb dL_law_594 rfl (lv_at hl 3 rfl) ?_
  refine lv_iload_n hx hb dL_law_595 rfl (lv_at hl 0 rfl) ?_
  refine lv_iconst (v := nI 1) hx hb dL_law_596 (by decide) ?_
  refine lv_iadd hx hb dL_law_597 ?_
  refine qk_topi (t := nI (i + 1)) ((nI_add _ _).trans rfl) ?_
  refine va_sld hx hb hX hbl hbA hS (vp_in_nI (n := (i + 1)) (by omega) (by omega)) dL_law_598 ?_
  refine qk_topi (t := xs (i + 1)) (by rw [nI_clamp (by omega)]) ?_
  obtain ⟨hP, hD⟩ := qk_turn hP hD
  have hPm := qk_mem (wc := wM) hP (fun q h => List.mem_append_left _ h)
  have hDm := qk_left hD
  have hFm := qk_freeA hD hS hA
  refine va_calli (va_runV (As := [.int (xs (i + 1))]) (rest := [.int r1]) ⟨hx, hb, hml, hown, htb⟩ (qc_M_same l G am nr w x sz0 st nc lo hi kn cur wM (xs (i + 1)) H.size hok hMr) (cwV 1 htb (qW_V qw_582 qw_583 qw_584 qw_18 qw_585) rfl rfl rfl (by decide +kernel) ⟨Nat.le_of_ble_eq_true rfl, Nat.le_of_ble_eq_true rfl⟩) (qk_pvw (ci := 6) (q0 := 0) hK hPm hN hDm rfl hm0) rfl rfl hl.1 rfl (lv_room (Nat.le_of_ble_eq_true rfl)) dL_law_599 ⟨by show _ ≤ 600000; omega, by show _ ≤ 7302250; omega⟩) hS (fun q _ h => hFm q h) hFm (fun r2 u2 t8 H2 locs ht8 hvm2 w2 hB2 hz2 hk2 hS => ?_)
  obtain ⟨hP2, hK2, hD2⟩ := hB2
  rw [ht8] at hP2
  obtain ⟨hP, hD⟩ := qk_joinA hP hD hk2 hFm hP2 hD2
  obtain ⟨z2, wM1⟩ := u2
  obtain ⟨e2, ez2, hMr⟩ := w2
  have ez2 : z2 = _ := ez2
  subst ez2
  have hP : va_P G.1 vwCl (wM1 ++ (wX ++ kw)) H2 := hP
  have hD : va_D (fun q : Nat => s.heap.size ≤ q) (wM1 ++ (wX ++ kw)) := hD
  obtain ⟨hP, hD⟩ := qk_back hP hD
  refine lv_icmp_eq (tgt := 607) hx hb dL_law_602 (by decide) (fun cq => ?_) (fun cq => ?_)
  · refine W.widen (k := C + 5) (n := S + 407) (by omega) (by omega) ?_
    exact kk _ (qZt nr w x sz0 st nc lo hi kn cur) _ _ _ _ _ ⟨hok, hXr, hKr, hMr, hP, hD, hS⟩
  · exact absurd (qo_same_one e1 e2) cq
