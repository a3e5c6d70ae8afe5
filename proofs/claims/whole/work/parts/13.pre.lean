/-! WHAT A METHOD TAKES AND LEAVES -/
theorem qNw_warm {s U : State} (hW : s.WarmedH U.vm) (h : qNw s) : qNw U := by
  refine ⟨fun w hw => ?_, va_AO.moved hW.alike h.2⟩
  have hz := h.1 w hw
  simp only [qNs, List.mem_cons, List.not_mem_nil, or_false] at hw
  rcases hw with rfl | rfl | rfl | rfl | rfl | rfl | rfl | rfl | rfl
  all_goals first | exact va_Nw.warmF hW hz | exact va_Nw.warmM hW hz | exact va_Nw.warmC hW hz
theorem qNw_same {u U : State} (hv : u.vm = U.vm) (h : qNw u) : qNw U := by
  refine ⟨fun w hw => ?_, va_AO.moved (by rw [hv]; exact Vm.Alike.refl U.vm) h.2⟩
  have hz := h.1 w hw
  simp only [qNs, List.mem_cons, List.not_mem_nil, or_false] at hw
  rcases hw with rfl | rfl | rfl | rfl | rfl | rfl | rfl | rfl | rfl
  all_goals exact va_Nw.same rfl hv hz
/-- what a reading method takes: the cells that it reads -/
def qk_pre (G : qG) (cl : List vw_C) (ws : va_W) : State → Prop := fun U => va_P G.1 cl ws U.heap ∧ va_K G.1 cl (qTy G) U ∧ qNw U
/-- what a writing method takes -/
def qk_prw (G : qG) (cl : List vw_C) (ws : va_W) (sz : Nat) : State → Prop := fun U => U.heap.size = sz ∧ va_P G.1 cl ws U.heap ∧ va_K G.1 cl (qTy G) U ∧ va_D (fun _ => True) ws ∧ qNw U
/-- what a writing method leaves -/
def qk_B {S : Type} (G : qG) (cl : List vw_C) (A : Nat → Prop) (w : S → va_W) : S → State → Prop := fun u t => va_P G.1 cl (w u) t.heap ∧ va_K G.1 cl (qTy G) t ∧ va_D A (w u)
theorem qk_blind (G : qG) (cl : List vw_C) (ws : va_W) (av : List Value) : FrameBlind (va_Pc av (qk_pre G cl ws)) := fun a U g mk q => ⟨q.1, q.2.1, va_K.moved (u := U) (U := U.calling g mk a) (Vm.Alike.refl U.vm) q.2.2.1, qNw_same (u := U) (U := U.calling g mk a) rfl q.2.2.2⟩
theorem qk_blindw (G : qG) (cl : List vw_C) (ws : va_W) (sz : Nat) (av : List Value) : FrameBlind (va_Pc av (qk_prw G cl ws sz)) := fun a U g mk q => ⟨q.1, q.2.1, q.2.2.1, va_K.moved (u := U) (U := U.calling g mk a) (Vm.Alike.refl U.vm) q.2.2.2.1, q.2.2.2.2.1, qNw_same (u := U) (U := U.calling g mk a) rfl q.2.2.2.2.2⟩
theorem qk_pv {G : qG} {cl : List vw_C} {ws : va_W} {s : State} {H : Heap} {b q0 ci : Nat} {fs : List Value} {As : List Value} {r : vw_C} (hK : va_K G.1 cl (qTy G) s) (hP : va_P G.1 cl ws H) (hN : qNw s) (hc : cl[ci]? = some r) (he : ws[q0]? = some (b, .inr (ci, fs))) : PreV s H r.1 b (va_Pc (.ref b :: As) (qk_pre G cl ws)) As :=
  ⟨qk_blind G cl ws _, va_recv hK hP hc he, fun U hU hW => ⟨rfl, by rw [hU]; exact hP, va_K.moved hW.alike hK, qNw_warm hW hN⟩⟩
theorem qk_ps {G : qG} {cl : List vw_C} {ws : va_W} {s : State} {H : Heap} {As : List Value} (hK : va_K G.1 cl (qTy G) s) (hP : va_P G.1 cl ws H) (hN : qNw s) : PreS s H (va_Pc As (qk_pre G cl ws)) As :=
  ⟨qk_blind G cl ws _, fun U hU hW => ⟨rfl, by rw [hU]; exact hP, va_K.moved hW.alike hK, qNw_warm hW hN⟩⟩
theorem qk_pvw {G : qG} {cl : List vw_C} {ws : va_W} {s : State} {H : Heap} {A : Nat → Prop} {b q0 ci : Nat} {fs : List Value} {As : List Value} {r : vw_C} (hK : va_K G.1 cl (qTy G) s) (hP : va_P G.1 cl ws H) (hN : qNw s) (hD : va_D A ws) (hc : cl[ci]? = some r) (he : ws[q0]? = some (b, .inr (ci, fs))) : PreV s H r.1 b (va_Pc (.ref b :: As) (qk_prw G cl ws H.size)) As :=
  ⟨qk_blindw G cl ws _ _, va_recv hK hP hc he, fun U hU hW => ⟨rfl, by rw [hU], by rw [hU]; exact hP, va_K.moved hW.alike hK, hD.weaken (fun _ _ _ _ => trivial), qNw_warm hW hN⟩⟩
theorem qk_psw {G : qG} {cl : List vw_C} {ws : va_W} {s : State} {H : Heap} {A : Nat → Prop} {As : List Value} (hK : va_K G.1 cl (qTy G) s) (hP : va_P G.1 cl ws H) (hN : qNw s) (hD : va_D A ws) : PreS s H (va_Pc As (qk_prw G cl ws H.size)) As :=
  ⟨qk_blindw G cl ws _ _, fun U hU hW => ⟨rfl, by rw [hU], by rw [hU]; exact hP, va_K.moved hW.alike hK, hD.weaken (fun _ _ _ _ => trivial), qNw_warm hW hN⟩⟩
