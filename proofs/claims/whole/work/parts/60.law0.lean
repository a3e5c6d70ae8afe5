/-! THE LAW: what holds between two calls; frames of worlds that are lists of any length -/
theorem qNs_in : ∀ w ∈ qNs, w ∈ lw_tbl ∧ w.onTables = true := by decide +kernel
theorem qk_rot {A : Nat → Prop} {x y : va_W} (h : va_D A (x ++ y)) : va_D A (y ++ x) := by
  refine va_D.by h (fun k => if k < y.length then x.length + k else k - y.length) (fun k q hk => ?_) (fun i j hi hj e => ?_)
  · by_cases c : k < y.length
    · rw [List.getElem?_append_left c] at hk
      simp only [c, if_true]
      rw [List.getElem?_append_right (by omega), show x.length + k - x.length = k by omega]; exact hk
    · rw [List.getElem?_append_right (by omega)] at hk
      simp only [c, if_false]
      have hlt := (List.getElem?_eq_some_iff.mp hk).1
      rw [List.getElem?_append_left hlt]; exact hk
  · rw [List.length_append] at hi hj
    by_cases c : i < y.length <;> by_cases d : j < y.length <;> simp only [c, d, if_true, if_false] at e <;> omega
theorem qk_left {A : Nat → Prop} {x y : va_W} (h : va_D A (x ++ y)) : va_D A x :=
  va_D.by h (fun k => k) (fun k q hk => by rw [List.getElem?_append_left (List.getElem?_eq_some_iff.mp hk).1]; exact hk) (fun i j _ _ e => e)
theorem qk_right {A : Nat → Prop} {x y : va_W} (h : va_D A (x ++ y)) : va_D A y := qk_left (qk_rot h)
theorem qk_apart {A : Nat → Prop} {x y : va_W} (h : va_D A (x ++ y)) {p q : Nat × va_E} (hp : p ∈ x) (hq : q ∈ y) : p.1 ≠ q.1 := by
  intro e
  obtain ⟨i, hi⟩ := List.getElem?_of_mem hp
  obtain ⟨j, hj⟩ := List.getElem?_of_mem hq
  have hlt := (List.getElem?_eq_some_iff.mp hi).1
  have a : (x ++ y)[i]? = some p := by rw [List.getElem?_append_left hlt]; exact hi
  have b : (x ++ y)[x.length + j]? = some q := by rw [List.getElem?_append_right (by omega), show x.length + j - x.length = j by omega]; exact hj
  have := h.1 i (x.length + j) p q a b e
  omega
theorem qk_freeA {A : Nat → Prop} {x y : va_W} {H0 H : Heap} {locs : List Loc} (hD : va_D A (x ++ y)) (hS : va_S A H0 H locs) (hA : ∀ q, H0.size ≤ q → A q) : ∀ q, va_A x H.size q → A q := fun q h => by
  rcases h with ⟨k, e, hk⟩ | h
  · exact (qk_left hD).2 k _ hk
  · exact hA q (Nat.le_trans hS.1 h)
theorem qk_joinA {A : Nat → Prop} {D : va_G} {cl : List vw_C} {x y w1 : va_W} {H H1 : Heap} (hP : va_P D cl (x ++ y) H) (hD : va_D A (x ++ y)) (hk : ∀ q : Nat, q < H.size → ¬ va_A x H.size q → H1[q]? = H[q]?) (hF : ∀ q, va_A x H.size q → A q) (hP1 : va_P D cl w1 H1) (hD1 : va_D (va_A x H.size) w1) : va_P D cl (w1 ++ y) H1 ∧ va_D A (w1 ++ y) := by
  have hPy : va_P D cl y H := qk_mem hP (fun q h => List.mem_append_right _ h)
  have nin : ∀ (k : Nat) (q : Nat × va_E), y[k]? = some q → ¬ va_A x H.size q.1 := fun k q hq h => by
    rcases h with ⟨j, e, hj⟩ | h
    · exact qk_apart hD (List.mem_of_getElem? hj) (List.mem_of_getElem? hq) rfl
    · have := (hPy k q hq).lt; omega
  refine ⟨hP1.app (hPy.kept (fun k q hq => hk q.1 ((hPy k q hq).lt) (nin k q hq))), va_D.app (hD1.weaken (fun k q _ h => hF q.1 h)) (qk_right hD) (fun i j p q hp hq e => ?_)⟩
  have a := hD1.2 i p hp
  rw [e] at a
  exact nin j q hq a
theorem qk_app0 {x y : va_W} {k : Nat} {q : Nat × va_E} (h : x[k]? = some q) : (x ++ y)[k]? = some q := by
  rw [List.getElem?_append_left (List.getElem?_eq_some_iff.mp h).1]; exact h
theorem qX_head {G : qG} {h0 : Nat} {fk : Nat → Option Nat} {z : qZ} {ws : va_W} (h : qX_rep G h0 fk z ws) : ∃ fs, ws[0]? = some (h0, .inr (5, fs)) := by
  unfold qX_rep qX_rp at h
  obtain ⟨_, _, _, _, _, _, _, _, _, _, _, _, _, _, _, _, _, _, _, _, _, _, _, _, _, _, _, _, _, _, _, _, rfl, _⟩ := h
  exact ⟨_, rfl⟩
theorem qM_head {G : qG} {h0 : Nat} {z : qZ} {ws : va_W} (h : qM_rep G h0 z ws) : ∃ fs, ws[0]? = some (h0, .inr (6, fs)) := by
  unfold qM_rep qM_rp at h
  obtain ⟨_, _, _, _, _, _, _, _, _, _, _, _, _, _, _, _, _, _, _, _, _, rfl, _⟩ := h
  exact ⟨_, rfl⟩
/-- between two calls -/
def qInv (G : qG) (s : State) (ax am : Nat) (fk : Nat → Option Nat) (z : qZ) (wX kw wM : va_W) (H : Heap) (locs : List Loc) : Prop :=
  qm_okz z ∧ qX_rep G ax fk z wX ∧ qK_rep G fk z kw ∧ qM_rep G am z wM ∧ va_P G.1 vwCl (wX ++ (kw ++ wM)) H ∧ va_D (fun q : Nat => s.heap.size ≤ q) (wX ++ (kw ++ wM)) ∧ va_S (fun q : Nat => s.heap.size ≤ q) s.heap H locs
theorem qk_turn {D : va_G} {cl : List vw_C} {A : Nat → Prop} {x y z : va_W} {H : Heap} (hP : va_P D cl (x ++ (y ++ z)) H) (hD : va_D A (x ++ (y ++ z))) : va_P D cl (z ++ (x ++ y)) H ∧ va_D A (z ++ (x ++ y)) := by
  refine ⟨qk_mem hP (fun q h => ?_), ?_⟩
  · simp only [List.mem_append] at h ⊢
    rcases h with h | h | h
    · exact Or.inr (Or.inr h)
    · exact Or.inl h
    · exact Or.inr (Or.inl h)
  · rw [← List.append_assoc] at hD
    exact qk_rot hD
theorem qk_back {D : va_G} {cl : List vw_C} {A : Nat → Prop} {x y z : va_W} {H : Heap} (hP : va_P D cl (z ++ (x ++ y)) H) (hD : va_D A (z ++ (x ++ y))) : va_P D cl (x ++ (y ++ z)) H ∧ va_D A (x ++ (y ++ z)) := by
  refine ⟨qk_mem hP (fun q h => ?_), ?_⟩
  · simp only [List.mem_append] at h ⊢
    rcases h with h | h | h
    · exact Or.inr (Or.inl h)
    · exact Or.inr (Or.inr h)
    · exact Or.inl h
  · rw [← List.append_assoc]; exact qk_rot hD
/-! what the calls keep -/
theorem qo_push_ok {z : qZ} (h : qm_okz z) (hn : z.2.1.1 10 < 200) {t : qS} (ht : qm_okS z.1.1 t) : qm_okz (qo_push z t) := by
  obtain ⟨h1, h2, h3, h4, h5, h6⟩ := h
  refine ⟨h1, h2, fun r hr => ?_, ?_, h5, h6⟩
  · have q := h3 r hr
    show qu z.2.1.1 10 (z.2.1.1 10 + 1) r ≤ 200 ∧ ∀ j, j < qu z.2.1.1 10 (z.2.1.1 10 + 1) r → qm_okS z.1.1 (qu z.2.1.2 10 (qu (z.2.1.2 10) (z.2.1.1 10) t) r j)
    by_cases e : r = 10
    · rw [e, qu_s, qu_s]
      refine ⟨by omega, fun j hj => ?_⟩
      by_cases e2 : j = z.2.1.1 10
      · rw [e2, qu_s]; exact ht
      · rw [qu_n _ _ e2]; rw [e] at q; exact q.2 j (by omega)
    · rw [qu_n _ _ e, qu_n _ _ e]; exact q
  · show z.2.2.2.2 ≤ qu z.2.1.1 10 (z.2.1.1 10 + 1) 10
    rw [qu_s]; omega
theorem qo_push_K {G : qG} {fk : Nat → Option Nat} {z : qZ} {kw : va_W} (h : qK_rep G fk z kw) (hk : z.2.2.2.1 ≤ 10) {t : qS} : qK_rep G fk (qo_push z t) kw :=
  qK_same h (fun i hi => ⟨qu_n _ _ (by have hi : i < z.2.2.2.1 := hi; omega), qu_n _ _ (by have hi : i < z.2.2.2.1 := hi; omega)⟩) (fun _ _ _ _ => rfl)
theorem qo_rule_ok {z : qZ} (h : qm_okz z) (a b : Int32) : qm_okz (qo_rule z a b).2 := by
  unfold qo_rule
  by_cases c : (nI 0 ≤ a ∧ a ≤ nI 10000) ∧ (nI 0 ≤ b ∧ b ≤ nI 100000) ∧ z.1.1 < 40
  · rw [if_pos c]
    obtain ⟨a1, -, ha1, rfl⟩ := qm_within c.1 (by omega) (by omega)
    obtain ⟨b1, -, hb1, rfl⟩ := qm_within c.2.1 (by omega) (by omega)
    rw [nI_clamp (show a1 < 2 ^ 31 by omega), nI_clamp (show b1 < 2 ^ 31 by omega)]
    obtain ⟨h1, h2, h3, h4, h5, h6⟩ := h
    refine ⟨⟨by show z.1.1 + 1 ≤ 40; omega, fun i hi => ?_⟩, h2, fun r hr => ⟨(h3 r hr).1, fun j hj => qm_okS_mono ((h3 r hr).2 j hj) (Nat.le_succ _)⟩, h4, h5, h6⟩
    show qu z.1.2.1 z.1.1 a1 i ≤ 10000 ∧ qu z.1.2.2 z.1.1 b1 i ≤ 100000
    by_cases e : i = z.1.1
    · rw [e, qu_s, qu_s]; exact ⟨ha1, hb1⟩
    · rw [qu_n _ _ e, qu_n _ _ e]; exact h1.2 i (by have : i < z.1.1 + 1 := hi; omega)
  · rw [if_neg c]; exact h
theorem qo_rule_K {G : qG} {fk : Nat → Option Nat} {z : qZ} {kw : va_W} (ho : qm_okz z) (h : qK_rep G fk z kw) (a b : Int32) : qK_rep G fk (qo_rule z a b).2 kw := by
  unfold qo_rule
  split
  · exact qK_same h (fun _ _ => ⟨rfl, rfl⟩) (fun i hi j hj => qX_ruleC ((ho.2.2.1 i (Or.inl hi)).2 j hj))
  · exact h
theorem qo_used_ok {z : qZ} (h : qm_okz z) (a b d : Int32) : qm_okz (qo_used z a b d).2 := by
  unfold qo_used
  by_cases c : (¬ a < 0 ∧ a < nI z.1.1) ∧ (nI 0 ≤ b ∧ b ≤ nI 255) ∧ (nI 1 ≤ d ∧ d ≤ nI 9) ∧ z.2.1.1 10 < 200
  · rw [if_pos c]
    have hr := h.1.1
    obtain ⟨a1, ha1, rfl⟩ := qm_below c.1 (by omega)
    obtain ⟨b1, -, hb1, rfl⟩ := qm_within c.2.1 (by omega) (by omega)
    obtain ⟨d1, hd0, hd1, rfl⟩ := qm_within c.2.2.1 (by omega) (by omega)
    rw [nI_clamp (show a1 < 2 ^ 31 by omega), nI_clamp (show b1 < 2 ^ 31 by omega), nI_clamp (show d1 < 2 ^ 31 by omega)]
    exact qo_push_ok h c.2.2.2 (Or.inr ⟨by show 1 ≤ a1 + 1; omega, by show a1 + 1 ≤ z.1.1; omega, hb1, hd0, hd1⟩)
  · rw [if_neg c]; exact h
theorem qo_used_K {G : qG} {fk : Nat → Option Nat} {z : qZ} {kw : va_W} (ho : qm_okz z) (h : qK_rep G fk z kw) (a b d : Int32) : qK_rep G fk (qo_used z a b d).2 kw := by
  unfold qo_used
  split
  · exact qo_push_K h ho.2.1
  · exact h
theorem qo_guess_ok {z : qZ} (h : qm_okz z) (d : Int32) : qm_okz (qo_guess z d).2 := by
  unfold qo_guess
  by_cases c : (nI 1 ≤ d ∧ d ≤ nI 20) ∧ z.2.1.1 10 < 200
  · rw [if_pos c]
    obtain ⟨d1, hd0, hd1, rfl⟩ := qm_within c.1 (by omega) (by omega)
    rw [nI_clamp (show d1 < 2 ^ 31 by omega)]
    exact qo_push_ok h c.2 (Or.inl ⟨rfl, hd0, hd1, rfl⟩)
  · rw [if_neg c]; exact h
theorem qo_guess_K {G : qG} {fk : Nat → Option Nat} {z : qZ} {kw : va_W} (ho : qm_okz z) (h : qK_rep G fk z kw) (d : Int32) : qK_rep G fk (qo_guess z d).2 kw := by
  unfold qo_guess
  split
  · exact qo_push_K h ho.2.1
  · exact h
theorem qo_drop_ok {z : qZ} (h : qm_okz z) : qm_okz (qo_drop z).2 := by
  unfold qo_drop
  by_cases c : 0 < z.2.1.1 10
  · rw [if_pos c]
    obtain ⟨h1, h2, h3, h4, h5, h6⟩ := h
    refine ⟨h1, h2, fun r hr => ?_, ?_, h5, h6⟩
    · have q := h3 r hr
      show qu z.2.1.1 10 (z.2.1.1 10 - 1) r ≤ 200 ∧ ∀ j, j < qu z.2.1.1 10 (z.2.1.1 10 - 1) r → qm_okS z.1.1 (z.2.1.2 r j)
      by_cases e : r = 10
      · rw [e] at q; rw [e, qu_s]; exact ⟨by omega, fun j hj => q.2 j (by omega)⟩
      · rw [qu_n _ _ e]; exact q
    · show (if z.2.2.2.2 = z.2.1.1 10 then z.2.2.2.2 - 1 else z.2.2.2.2) ≤ qu z.2.1.1 10 (z.2.1.1 10 - 1) 10
      rw [qu_s]; split <;> omega
  · rw [if_neg c]; exact h
theorem qo_drop_K {G : qG} {fk : Nat → Option Nat} {z : qZ} {kw : va_W} (ho : qm_okz z) (h : qK_rep G fk z kw) : qK_rep G fk (qo_drop z).2 kw := by
  unfold qo_drop
  have h2 := ho.2.1
  split
  · exact qK_same h (fun i hi => ⟨qu_n _ _ (by have hi : i < z.2.2.2.1 := hi; omega), rfl⟩) (fun _ _ _ _ => rfl)
  · exact h
theorem qo_cls_ok {z : qZ} (h : qm_okz z) (a b : Int64) : qm_okz (qo_cls z a b).2 := by
  unfold qo_cls
  by_cases c : ¬ a < lN 0 ∧ ¬ b < a ∧ ¬ lN 100000000 < b ∧ z.2.2.1.1 < 20 ∧ ¬ qm_ovl z.2.2.1.2.1 z.2.2.1.2.2 a b z.2.2.1.1 0 = true
  · rw [if_pos c]
    obtain ⟨h1, h2, h3, h4, h5, h6⟩ := h
    refine ⟨h1, h2, h3, h4, by show z.2.2.1.1 + 1 ≤ 20; omega, fun i hi => ?_⟩
    show lN 0 ≤ vp_updL z.2.2.1.2.1 z.2.2.1.1 a i ∧ vp_updL z.2.2.1.2.1 z.2.2.1.1 a i ≤ vp_updL z.2.2.1.2.2 z.2.2.1.1 b i ∧ vp_updL z.2.2.1.2.2 z.2.2.1.1 b i ≤ lN 100000000
    by_cases e : i = z.2.2.1.1
    · rw [e, pk_uLs, pk_uLs]; exact ⟨qm_lnlt c.1, qm_lnlt c.2.1, qm_lnlt c.2.2.1⟩
    · rw [pk_uLn e, pk_uLn e]; exact h6 i (by have : i < z.2.2.1.1 + 1 := hi; omega)
  · rw [if_neg c]; exact h
theorem qo_cls_K {G : qG} {fk : Nat → Option Nat} {z : qZ} {kw : va_W} (_ : qm_okz z) (h : qK_rep G fk z kw) (a b : Int64) : qK_rep G fk (qo_cls z a b).2 kw := by
  unfold qo_cls
  split
  · exact h
  · exact h
theorem qo_go_ok {z : qZ} (h : qm_okz z) (k : Int32) : qm_okz (qo_go z k).2 := by
  unfold qo_go
  by_cases c : ¬ k < 0 ∧ k ≤ nI (z.2.1.1 10)
  · rw [if_pos c]
    obtain ⟨h1, h2, h3, h4, h5, h6⟩ := h
    have hz := (h3 10 (Or.inr rfl)).1
    obtain ⟨k1, hk1, rfl⟩ := nI_of c.1
    refine ⟨h1, h2, h3, ?_, h5, h6⟩
    show (nI k1).toNatClampNeg ≤ z.2.1.1 10
    rw [nI_clamp hk1]; exact (nI_leI hk1 (by omega)).mp c.2
  · rw [if_neg c]; exact h
theorem qo_go_K {G : qG} {fk : Nat → Option Nat} {z : qZ} {kw : va_W} (_ : qm_okz z) (h : qK_rep G fk z kw) (k : Int32) : qK_rep G fk (qo_go z k).2 kw := by
  unfold qo_go
  split
  · exact h
  · exact h
theorem qo_hint_ok {z : qZ} (h : qm_okz z) (d : Int32) : qm_okz (qo_hint z d).2 := by
  unfold qo_hint
  by_cases c : (nI 1 ≤ d ∧ d ≤ nI 4) ∧ z.2.2.2.2 < z.2.1.1 10
  · rw [if_pos c]
    obtain ⟨h1, h2, h3, h4, h5, h6⟩ := h
    refine ⟨h1, h2, h3, ?_, h5, h6⟩
    show (if d = nI 4 then z.2.2.2.2 + 1 else z.2.2.2.2) ≤ z.2.1.1 10
    split <;> omega
  · rw [if_neg c]; exact h
theorem qo_hint_K {G : qG} {fk : Nat → Option Nat} {z : qZ} {kw : va_W} (_ : qm_okz z) (h : qK_rep G fk z kw) (d : Int32) : qK_rep G fk (qo_hint z d).2 kw := by
  unfold qo_hint
  split
  · exact h
  · exact h
theorem qo_keep_ok {z : qZ} (h : qm_okz z) : qm_okz (qo_keep z).2 := by
  unfold qo_keep
  by_cases c : z.2.2.2.1 < 10
  · rw [if_pos c]
    obtain ⟨h1, h2, h3, h4, h5, h6⟩ := h
    refine ⟨h1, by show z.2.2.2.1 + 1 ≤ 10; omega, fun r hr => ?_, ?_, h5, h6⟩
    · show qu z.2.1.1 z.2.2.2.1 (z.2.1.1 10) r ≤ 200 ∧ ∀ j, j < qu z.2.1.1 z.2.2.2.1 (z.2.1.1 10) r → qm_okS z.1.1 (qu z.2.1.2 z.2.2.2.1 (z.2.1.2 10) r j)
      by_cases e : r = z.2.2.2.1
      · rw [e, qu_s, qu_s]; exact h3 10 (Or.inr rfl)
      · rw [qu_n _ _ e, qu_n _ _ e]
        have hr : r < z.2.2.2.1 + 1 ∨ r = 10 := hr
        exact h3 r (by omega)
    · show z.2.2.2.2 ≤ qu z.2.1.1 z.2.2.2.1 (z.2.1.1 10) 10
      rw [qu_n _ _ (by omega)]; exact h4
  · rw [if_neg c]; exact h
theorem qz_0_ok : qm_okz qz_0 := ⟨⟨by decide, fun i hi => absurd hi (Nat.not_lt_zero i)⟩, by decide, fun r _ => ⟨Nat.zero_le 200, fun j hj => absurd hj (Nat.not_lt_zero j)⟩, by decide, by decide, fun i hi => absurd hi (Nat.not_lt_zero i)⟩
theorem q_row {s : State} (h : va_AO "GradeRows$Row" s) : ∃ (cA : ClassId) (kA : Class) (comp : ClassId), s.vm.findClass ("[" ++ (FieldType.object "GradeRows$Row").toString) = some cA ∧ s.vm.classes[cA]? = some kA ∧ kA.kind = .array comp (.object "GradeRows$Row") ∧ s.vm.findClass "GradeRows$Row" = some comp := by
  obtain ⟨comp, c, k, h1, h2, h3, h4, h5⟩ := Cond.arrayOver_spec h
  exact ⟨c, k, comp, h5, h3, h4, h1⟩
