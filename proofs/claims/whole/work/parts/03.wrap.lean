/-! WRAPPERS: rows of the kit in the words of this claim: numbers by their Nat, arrays by a Nat place, worlds by one G. -/
/-- the classes' numbers and slots, and the numbers of the array classes int[], long[], boolean[], Row[] -/
abbrev qG : Type := va_G × ClassId × ClassId × ClassId × ClassId
abbrev qTy (G : qG) : List (ClassId × FieldType) := [(G.2.1, .int), (G.2.2.1, .long), (G.2.2.2.1, .boolean), (G.2.2.2.2, .object "GradeRows$Row")]
/-- a rule's number one up, 0 for none -/
def nM (n : Nat) : Int32 := nI n - 1
theorem nM_0 : nM 0 = -1 := by decide
theorem nM_s (n : Nat) : nM (n + 1) = nI n := nI_pred n
theorem nM_p {n : Nat} (h : 0 < n) : nM n = nI (n - 1) := by
  obtain ⟨k, rfl⟩ : ∃ k, n = k + 1 := ⟨n - 1, by omega⟩
  exact nM_s k
theorem nM_toInt {n : Nat} (h : n < 2 ^ 31) : (nM n).toInt = (n : Int) - 1 := by
  rcases Nat.eq_zero_or_pos n with q | q
  · subst q; rw [nM_0]; decide
  · rw [nM_p q, nI_toInt (by omega)]; omega
theorem nM_eq {a b : Nat} (ha : a < 2 ^ 31) (hb : b < 2 ^ 31) : nM a = nM b ↔ a = b := by
  rw [← Int32.toInt_inj, nM_toInt ha, nM_toInt hb]; omega
theorem nM_eq1 {a : Nat} (ha : a < 2 ^ 31) : nM a = -1 ↔ a = 0 := by
  rw [← nM_0]; exact nM_eq ha (by omega)
theorem nM_eqI {a b : Nat} (ha : a < 2 ^ 31) (hb : b < 2 ^ 31) : nM a = nI b ↔ a = b + 1 := by
  rw [← nM_s b, ← Int32.toInt_inj, nM_toInt ha]
  rw [nM_s b, nI_toInt hb]; omega
/-- a long one up, 0 for -1 -/
def lM (n : Nat) : Int64 := lN n - 1
theorem lM_toInt {n : Nat} (h : n < 2 ^ 31) : (lM n).toInt = (n : Int) - 1 := by
  rcases Nat.eq_zero_or_pos n with q | q
  · subst q; decide
  · obtain ⟨k, rfl⟩ : ∃ k, n = k + 1 := ⟨n - 1, by omega⟩
    have e : lM (k + 1) = lN k := by unfold lM; rw [← lN_1 k]; exact Int64.add_sub_cancel _ _
    rw [e, lN_toInt (by omega)]; omega
theorem lM_0 : lM 0 = -1 := by decide
theorem lM_s (n : Nat) : lM (n + 1) = lN n := by unfold lM; rw [← lN_1 n]; exact Int64.add_sub_cancel _ _
theorem lM_lt {a b : Nat} (ha : a < 2 ^ 31) (hb : b < 2 ^ 31) : lM a < lM b ↔ a < b := by
  rw [Int64.lt_iff_toInt_lt, lM_toInt ha, lM_toInt hb]; omega
theorem lM_le {a b : Nat} (ha : a < 2 ^ 31) (hb : b < 2 ^ 31) : lM a ≤ lM b ↔ a ≤ b := by
  rw [Int64.le_iff_toInt_le, lM_toInt ha, lM_toInt hb]; omega
theorem lM_eq {a b : Nat} (ha : a < 2 ^ 31) (hb : b < 2 ^ 31) : lM a = lM b ↔ a = b := by
  rw [← Int64.toInt_inj, lM_toInt ha, lM_toInt hb]; omega
theorem z0lt {a : Nat} (h : a < 2 ^ 31) : nI a < 0 ↔ a < 0 := by rw [← nI_0]; exact nI_ltI h (by omega)
theorem z0le {a : Nat} (h : a < 2 ^ 31) : nI a ≤ 0 ↔ a ≤ 0 := by rw [← nI_0]; exact nI_leI h (by omega)
theorem z0ge {a : Nat} (h : a < 2 ^ 31) : 0 ≤ nI a ↔ 0 ≤ a := by rw [← nI_0]; exact nI_leI (by omega) h
theorem z0gt {a : Nat} (h : a < 2 ^ 31) : 0 < nI a ↔ 0 < a := by rw [← nI_0]; exact nI_ltI (by omega) h
theorem z0eq {a : Nat} (h : a < 2 ^ 31) : nI a = 0 ↔ a = 0 := by rw [← nI_0]; exact nI_eq h (by omega)
/-- a truth value, not 0 -/
theorem qk_ite0 {P : Prop} [Decidable P] : (¬ (if P then nI 1 else nI 0) = 0) ↔ P := by
  by_cases h : P
  · rw [if_pos h]; exact ⟨fun _ => h, fun _ => by decide⟩
  · rw [if_neg h]; exact ⟨fun q => absurd nI_0 q, fun q => absurd q h⟩
section QW
variable {p : Program} {l : Launch} {e : Env} {R : Room} {s : State} {m : MethodId} {args : Array Value} {below : List Frame} {meth : Method} {c : Code} {H : Heap} {locs : List Loc} {cells slots : Nat} {Q : State → Prop}
variable {cc : ByteArray} {pc : Nat} {ls : Array Slot} {rest : List Value} {D : va_G} {cl : List vw_C} {A : Nat → Prop} {a : Nat} {tys : List (ClassId × FieldType)} {ws : va_W} {H0 : Heap}
theorem qk_topi {x t : Int32} (h : x = t) (k : W p l e R s m args below meth c H locs cells slots Q (F0 m pc ls (.int t :: rest))) : W p l e R s m args below meth c H locs cells slots Q (F0 m pc ls (.int x :: rest)) := by subst h; exact k
theorem qk_topl {x t : Int64} (h : x = t) (k : W p l e R s m args below meth c H locs cells slots Q (F0 m pc ls (.long t :: rest))) : W p l e R s m args below meth c H locs cells slots Q (F0 m pc ls (.long x :: rest)) := by subst h; exact k
theorem qk_iald (hexec : p.tables.exec = Jvm.exec) (hb : c.code = cc) (hK : va_K D cl tys s) (hP : va_P D cl ws H) (q0 t0 : Nat) {cA : ClassId} {n : Nat} {f : Nat → Int32} (ha : ws[q0]? = some (a, .inl (cA, n, .inl f))) (ht : tys[t0]? = some (cA, .int)) {i : Nat} (hi : i < n) (hn : n < 2 ^ 31) {v : Int32} (hv : f i = v) (hdg : decode cc pc = .ok (.iaload, 1))
    (kk : W p l e R s m args below meth c H locs cells slots Q (F0 m (pc + 1) ls (.int v :: rest))) : W p l e R s m args below meth c H locs cells slots Q (F0 m pc ls (.int (nI i) :: .ref a :: rest)) := by
  refine va_iald hexec hb hK hP q0 t0 ha ht (vp_in_nI hi hn) hdg ?_
  rw [nI_clamp (by omega), hv]; exact kk
theorem qk_zald (hexec : p.tables.exec = Jvm.exec) (hb : c.code = cc) (hK : va_K D cl tys s) (hP : va_P D cl ws H) (q0 t0 : Nat) {cA : ClassId} {n : Nat} {f : Nat → Int32} (ha : ws[q0]? = some (a, .inl (cA, n, .inl f))) (ht : tys[t0]? = some (cA, .boolean)) {i : Nat} (hi : i < n) (hn : n < 2 ^ 31) {v : Int32} (hv : f i = v) (hdg : decode cc pc = .ok (.baload, 1))
    (kk : W p l e R s m args below meth c H locs cells slots Q (F0 m (pc + 1) ls (.int v :: rest))) : W p l e R s m args below meth c H locs cells slots Q (F0 m pc ls (.int (nI i) :: .ref a :: rest)) := by
  refine va_zald hexec hb hK hP q0 t0 ha ht (vp_in_nI hi hn) hdg ?_
  rw [nI_clamp (by omega), hv]; exact kk
theorem qk_lald (hexec : p.tables.exec = Jvm.exec) (hb : c.code = cc) (hK : va_K D cl tys s) (hP : va_P D cl ws H) (q0 t0 : Nat) {cA : ClassId} {n : Nat} {f : Nat → Int64} (ha : ws[q0]? = some (a, .inl (cA, n, .inr (.inl f)))) (ht : tys[t0]? = some (cA, .long)) {i : Nat} (hi : i < n) (hn : n < 2 ^ 31) {v : Int64} (hv : f i = v) (hdg : decode cc pc = .ok (.laload, 1))
    (kk : W p l e R s m args below meth c H locs cells slots Q (F0 m (pc + 1) ls (.long v :: rest))) : W p l e R s m args below meth c H locs cells slots Q (F0 m pc ls (.int (nI i) :: .ref a :: rest)) := by
  refine va_lald hexec hb hK hP q0 t0 ha ht (vp_in_nI hi hn) hdg ?_
  rw [nI_clamp (by omega), hv]; exact kk
theorem qk_aald (hexec : p.tables.exec = Jvm.exec) (hb : c.code = cc) (hK : va_K D cl tys s) (hP : va_P D cl ws H) (q0 t0 : Nat) {cA : ClassId} {C : String} {n : Nat} {f : Nat → Option Nat} (ha : ws[q0]? = some (a, .inl (cA, n, .inr (.inr (.inr (.inr f)))))) (ht : tys[t0]? = some (cA, .object C)) {i : Nat} (hi : i < n) (hn : n < 2 ^ 31) {v : Nat} (hv : f i = some v) (hdg : decode cc pc = .ok (.aaload, 1))
    (kk : W p l e R s m args below meth c H locs cells slots Q (F0 m (pc + 1) ls (.ref v :: rest))) : W p l e R s m args below meth c H locs cells slots Q (F0 m pc ls (.int (nI i) :: .ref a :: rest)) := by
  refine va_aldq hexec hb hK hP q0 t0 ha ht (vp_in_nI hi hn) hdg ?_
  rw [nI_clamp (by omega), hv]; exact kk
theorem qk_iast (hexec : p.tables.exec = Jvm.exec) (hb : c.code = cc) (hK : va_K D cl tys s) (hP : va_P D cl ws H) (hD : va_D A ws) (hS : va_S A H0 H locs) (q0 t0 : Nat) {cA : ClassId} {n : Nat} {f : Nat → Int32} (ha : ws[q0]? = some (a, .inl (cA, n, .inl f))) (ht : tys[t0]? = some (cA, .int)) {i : Nat} {x : Int32} (hi : i < n) (hn : n < 2 ^ 31) (hdg : decode cc pc = .ok (.iastore, 1))
    (kk : ∀ (H1 : Heap) (locs1 : List Loc), va_P D cl (ws.set q0 (a, .inl (cA, n, .inl (upd f i x)))) H1 → va_D A (ws.set q0 (a, .inl (cA, n, .inl (upd f i x)))) → va_S A H0 H1 locs1 → W p l e R s m args below meth c H1 locs1 cells slots Q (F0 m (pc + 1) ls rest)) : W p l e R s m args below meth c H locs cells slots Q (F0 m pc ls (.int x :: .int (nI i) :: .ref a :: rest)) := by
  have e : (nI i).toNatClampNeg = i := nI_clamp (by omega)
  refine va_iast hexec hb hK hP hD hS q0 t0 ha ht (vp_in_nI hi hn) hdg ?_
  rw [e]; exact kk
theorem qk_zast (hexec : p.tables.exec = Jvm.exec) (hb : c.code = cc) (hK : va_K D cl tys s) (hP : va_P D cl ws H) (hD : va_D A ws) (hS : va_S A H0 H locs) (q0 t0 : Nat) {cA : ClassId} {n : Nat} {f : Nat → Int32} (ha : ws[q0]? = some (a, .inl (cA, n, .inl f))) (ht : tys[t0]? = some (cA, .boolean)) {i : Nat} {x : Int32} (hx : vp_nar .boolean x = x) (hi : i < n) (hn : n < 2 ^ 31) (hdg : decode cc pc = .ok (.bastore, 1))
    (kk : ∀ (H1 : Heap) (locs1 : List Loc), va_P D cl (ws.set q0 (a, .inl (cA, n, .inl (upd f i x)))) H1 → va_D A (ws.set q0 (a, .inl (cA, n, .inl (upd f i x)))) → va_S A H0 H1 locs1 → W p l e R s m args below meth c H1 locs1 cells slots Q (F0 m (pc + 1) ls rest)) : W p l e R s m args below meth c H locs cells slots Q (F0 m pc ls (.int x :: .int (nI i) :: .ref a :: rest)) := by
  have e : (nI i).toNatClampNeg = i := nI_clamp (by omega)
  refine va_zast hexec hb hK hP hD hS q0 t0 ha ht (vp_in_nI hi hn) hdg ?_
  rw [e, hx]; exact kk
theorem qk_last (hexec : p.tables.exec = Jvm.exec) (hb : c.code = cc) (hK : va_K D cl tys s) (hP : va_P D cl ws H) (hD : va_D A ws) (hS : va_S A H0 H locs) (q0 t0 : Nat) {cA : ClassId} {n : Nat} {f : Nat → Int64} (ha : ws[q0]? = some (a, .inl (cA, n, .inr (.inl f)))) (ht : tys[t0]? = some (cA, .long)) {i : Nat} {x : Int64} (hi : i < n) (hn : n < 2 ^ 31) (hdg : decode cc pc = .ok (.lastore, 1))
    (kk : ∀ (H1 : Heap) (locs1 : List Loc), va_P D cl (ws.set q0 (a, .inl (cA, n, .inr (.inl (vp_updL f i x))))) H1 → va_D A (ws.set q0 (a, .inl (cA, n, .inr (.inl (vp_updL f i x))))) → va_S A H0 H1 locs1 → W p l e R s m args below meth c H1 locs1 cells slots Q (F0 m (pc + 1) ls rest)) : W p l e R s m args below meth c H locs cells slots Q (F0 m pc ls (.long x :: .int (nI i) :: .ref a :: rest)) := by
  have e : (nI i).toNatClampNeg = i := nI_clamp (by omega)
  refine va_last hexec hb hK hP hD hS q0 t0 ha ht (vp_in_nI hi hn) hdg ?_
  rw [e]; exact kk
end QW
/-- cells out of a world, by membership -/
theorem qk_mem {D : va_G} {cl : List vw_C} {ws wc : va_W} {H : Heap} (h : va_P D cl ws H) (hm : ∀ q ∈ wc, q ∈ ws) : va_P D cl wc H := fun k q hk => by
  obtain ⟨j, hj⟩ := List.getElem?_of_mem (hm q (List.mem_of_getElem? hk))
  exact h j q hj
/-- one array class a type -/
theorem qk_one {D : va_G} {cl : List vw_C} {tys : List (ClassId × FieldType)} {s : State} (hK : va_K D cl tys s) {i j : Nat} {c1 c2 : ClassId} {ty : FieldType} (h1 : tys[i]? = some (c1, ty)) (h2 : tys[j]? = some (c2, ty)) : c1 = c2 := by
  have a := (hK.2 i _ h1).2
  have b := (hK.2 j _ h2).2
  unfold va_RA at a b
  cases ty <;> simp only at a b
  all_goals first
    | exact Option.some.inj (a.symm.trans b)
    | (obtain ⟨_, _, _, _, _, a⟩ := a; obtain ⟨_, _, _, _, _, b⟩ := b; exact Option.some.inj (a.symm.trans b))
