/-! KEPT ROWS: their cells, what they hold -/
section QA
variable {p : Program} {l : Launch} {e : Env} {R : Room} {s : State} {m : MethodId} {args : Array Value} {below : List Frame} {meth : Method} {c : Code} {H : Heap} {locs : List Loc} {cells slots : Nat} {Q : State → Prop}
variable {cc : ByteArray} {pc : Nat} {ls : Array Slot} {rest : List Value} {D : va_G} {cl : List vw_C} {A : Nat → Prop} {a : Nat} {tys : List (ClassId × FieldType)} {ws : va_W} {H0 : Heap}
theorem qk_aast (hexec : p.tables.exec = Jvm.exec) (hb : c.code = cc) (hK : va_K D cl tys s) (hP : va_P D cl ws H) (hD : va_D A ws) (hS : va_S A H0 H locs) (q0 t0 qk ci : Nat) {cA : ClassId} {r : vw_C} {n v : Nat} {vs : List Value} {f : Nat → Option Nat} (ha : ws[q0]? = some (a, .inl (cA, n, .inr (.inr (.inr (.inr f)))))) (ht : tys[t0]? = some (cA, .object r.1)) (hv : ws[qk]? = some (v, .inr (ci, vs))) (hc : cl[ci]? = some r) {i : Nat} (hi : i < n) (hn : n < 2 ^ 31) (hdg : decode cc pc = .ok (.aastore, 1))
    (kk : ∀ (H1 : Heap) (locs1 : List Loc), va_P D cl (ws.set q0 (a, .inl (cA, n, .inr (.inr (.inr (.inr (va_up f i (some v)))))))) H1 → va_D A (ws.set q0 (a, .inl (cA, n, .inr (.inr (.inr (.inr (va_up f i (some v)))))))) → va_S A H0 H1 locs1 → W p l e R s m args below meth c H1 locs1 cells slots Q (F0 m (pc + 1) ls rest)) : W p l e R s m args below meth c H locs cells slots Q (F0 m pc ls (.ref v :: .int (nI i) :: .ref a :: rest)) := by
  have e : (nI i).toNatClampNeg = i := nI_clamp (by omega)
  refine va_astq hexec hb hK hP hD hS q0 t0 qk ci ha ht hv hc (vp_in_nI hi hn) hdg ?_
  rw [e]; exact kk
end QA
abbrev qK_cells (G : qG) (ro s1 a1 s2 a2 : Nat) (g1 g2 : Nat → Int32) (t : Int64) (n : Nat) : va_W := [(ro, .inr (1, [.long t, .ref s1, .ref s2])), (s1, .inr (3, [.ref a1, .int (nI n)])), (a1, .inl (G.2.1, n, .inl g1)), (s2, .inr (3, [.ref a2, .int (nI n)])), (a2, .inl (G.2.1, n, .inl g2))]
def qK_rp (G : qG) (fk : Nat → Option Nat) (w x : Nat → Nat) (sz0 : Nat → Nat) (st : Nat → Nat → qS) (kn : Nat) (kw : va_W) : Prop :=
  ∀ i, i < kn → ∃ (ro s1 a1 s2 a2 : Nat) (g1 g2 : Nat → Int32), fk i = some ro ∧ (∀ q ∈ qK_cells G ro s1 a1 s2 a2 g1 g2 (lN (qm_sum (qm_cost w x (st i)) (sz0 i))) (sz0 i), q ∈ kw) ∧ qm_of g1 (fun j => nI (qm_cost w x (st i) j)) (sz0 i) ∧ qm_of g2 (fun j => qm_cd (st i j)) (sz0 i)
def qK_rep (G : qG) (fk : Nat → Option Nat) (z : qZ) (kw : va_W) : Prop := qK_rp G fk z.1.2.1 z.1.2.2 z.2.1.1 z.2.1.2 z.2.2.2.1 kw
theorem qm_of_f {f h g : Nat → Int32} {n : Nat} (a : qm_of f g n) (e : ∀ j, j < n → h j = f j) : qm_of h g n := ⟨qm_srt_congr a.1 e, fun v => (qm_cnt_congr e).trans (a.2 v)⟩
theorem qK_add {G : qG} {fk : Nat → Option Nat} {w x : Nat → Nat} {sz0 : Nat → Nat} {st : Nat → Nat → qS} {kn : Nat} {kw : va_W} {ro s1 a1 s2 a2 : Nat} {g1 g2 : Nat → Int32} (h : qK_rp G fk w x sz0 st kn kw) (h1 : qm_of g1 (fun j => nI (qm_cost w x (st 10) j)) (sz0 10)) (h2 : qm_of g2 (fun j => qm_cd (st 10 j)) (sz0 10)) :
    qK_rp G (va_up fk kn (some ro)) w x (qu sz0 kn (sz0 10)) (qu st kn (st 10)) (kn + 1) (kw ++ qK_cells G ro s1 a1 s2 a2 g1 g2 (lN (qm_sum (qm_cost w x (st 10)) (sz0 10))) (sz0 10)) := by
  intro i hi
  by_cases e : i = kn
  · rw [e, qu_s, qu_s, va_up_self]
    exact ⟨ro, s1, a1, s2, a2, g1, g2, rfl, fun q hq => List.mem_append_right _ hq, h1, h2⟩
  · rw [qu_n _ _ e, qu_n _ _ e, va_up_ne _ _ e]
    obtain ⟨ro, s1, a1, s2, a2, g1, g2, p1, p2, p3⟩ := h i (by omega)
    exact ⟨ro, s1, a1, s2, a2, g1, g2, p1, fun q hq => List.mem_append_left _ (p2 q hq), p3⟩
/-- rows that stay as they are -/
theorem qK_same {G : qG} {fk : Nat → Option Nat} {w x w2 x2 : Nat → Nat} {sz0 sz2 : Nat → Nat} {st st2 : Nat → Nat → qS} {kn : Nat} {kw : va_W} (h : qK_rp G fk w x sz0 st kn kw) (e1 : ∀ i, i < kn → sz2 i = sz0 i ∧ st2 i = st i) (e2 : ∀ i, i < kn → ∀ j, j < sz0 i → qm_cost w2 x2 (st i) j = qm_cost w x (st i) j) : qK_rp G fk w2 x2 sz2 st2 kn kw := by
  intro i hi
  obtain ⟨ro, s1, a1, s2, a2, g1, g2, p1, p2, p3, p4⟩ := h i hi
  rw [(e1 i hi).1, (e1 i hi).2]
  refine ⟨ro, s1, a1, s2, a2, g1, g2, p1, ?_, qm_of_congr p3 (fun j hj => by show nI _ = nI _; rw [e2 i hi j hj]), p4⟩
  rw [qm_sum_congr (c := qm_cost w2 x2 (st i)) (d := qm_cost w x (st i)) (fun k hk => e2 i hi k hk)]
  exact p2
theorem qo_same_rel {z : qZ} {k : Nat} {r : Int32} {nr : Nat} (hn : nr ≤ 40) (hk : k < z.2.2.2.1) (hz : z.2.2.2.1 < 2 ^ 31) {f2 g2 : Nat → Int32} (hf : qm_of f2 (fun j => qm_cd (z.2.1.2 10 j)) (z.2.1.1 10)) (hg : qm_of g2 (fun j => qm_cd (z.2.1.2 k j)) (z.2.1.1 k)) (o1 : ∀ j, j < z.2.1.1 10 → qm_okS nr (z.2.1.2 10 j)) (o2 : ∀ j, j < z.2.1.1 k → qm_okS nr (z.2.1.2 k j))
    (h : (z.2.1.1 10 = z.2.1.1 k ∧ (∀ v, qm_cnt f2 (z.2.1.1 10) v = qm_cnt g2 (z.2.1.1 10) v) ∧ r = nI 1) ∨ (¬ (z.2.1.1 10 = z.2.1.1 k ∧ ∀ v, qm_cnt f2 (z.2.1.1 10) v = qm_cnt g2 (z.2.1.1 10) v) ∧ r = nI 0)) : qo_same z (nI k) r := by
  have iff : z.2.1.1 10 = z.2.1.1 k → ((∀ v, qm_cnt f2 (z.2.1.1 10) v = qm_cnt g2 (z.2.1.1 10) v) ↔ ∀ v, qm_cnt (z.2.1.2 k) (z.2.1.1 10) v = qm_cnt (z.2.1.2 10) (z.2.1.1 10) v) := fun e => by
    rw [← e] at hg o2
    rw [← qm_same_cd hn o1 o2]
    exact ⟨fun q v => by rw [← hf.2, ← hg.2]; exact q v, fun q v => by rw [hf.2, hg.2]; exact q v⟩
  rcases h with ⟨e, a, b⟩ | ⟨a, b⟩
  · rw [b]; exact qo_same_yes hk hz e.symm ((iff e).mp a)
  · rw [b]
    refine qo_same_no (fun q => a ?_)
    have q2 := q.2
    rw [nI_clamp (by omega)] at q2
    exact ⟨q2.1.symm, (iff q2.1.symm).mpr q2.2⟩
theorem qo_cmp_rel {z : qZ} {k : Nat} {r : Int32} (hk : k < z.2.2.2.1) (hz : z.2.2.2.1 < 2 ^ 31) {f1 g1 : Nat → Int32} (hf : qm_of f1 (fun j => nI (qo_c z j)) (z.2.1.1 10)) (hg : qm_of g1 (fun j => nI (qm_cost z.1.2.1 z.1.2.2 (z.2.1.2 k) j)) (z.2.1.1 k)) (c1 : ∀ j, j < z.2.1.1 10 → qo_c z j ≤ 130000) (c2 : ∀ j, j < z.2.1.1 k → qm_cost z.1.2.1 z.1.2.2 (z.2.1.2 k) j ≤ 130000) (b1 : z.2.1.1 10 ≤ 200) (b2 : z.2.1.1 k ≤ 200)
    (h : ∃ q, qm_sg (qo_all z) (lN (qm_sum (qm_cost z.1.2.1 z.1.2.2 (z.2.1.2 k)) (z.2.1.1 k))) q ∧ ((¬ q = 0 ∧ r = q) ∨ (q = 0 ∧ ∃ q2, qm_sg (lN (z.2.1.1 10)) (lN (z.2.1.1 k)) q2 ∧ ((¬ q2 = 0 ∧ r = q2) ∨ (q2 = 0 ∧ qm_ord (fun a b : Int32 => a < b) (qm_cnt f1 (z.2.1.1 10)) (qm_cnt g1 (z.2.1.1 10)) r))))) : qo_cmp z (nI k) r := by
  unfold qo_cmp; rw [if_pos ⟨nI_pos (by omega), nI_lt hk hz⟩, nI_clamp (by omega)]
  obtain ⟨q, hq, h⟩ := h
  refine ⟨q, hq, ?_⟩
  rcases h with h | ⟨e, q2, hq2, h⟩
  · exact Or.inl h
  · refine Or.inr ⟨e, q2, hq2, ?_⟩
    rcases h with h | ⟨e2, h⟩
    · exact Or.inl h
    · have en : z.2.1.1 10 = z.2.1.1 k := (lN_eq (by omega) (by omega)).mp (qm_sg_0 hq2 e2)
      rw [← en] at hg c2
      exact Or.inr ⟨e2, qm_ord_nat c1 c2 hf.2 hg.2 h⟩
