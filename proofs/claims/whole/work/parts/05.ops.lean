/-! THE CALLS AS FUNCTIONS of one state: rules (number, weights, extras), rows (sizes, steps; row 10 is the one at work, 0 .. 9 are kept), classes (number, lows, highs), how many rows are kept, the cursor. -/
abbrev qZ : Type := (Nat × (Nat → Nat) × (Nat → Nat)) × ((Nat → Nat) × (Nat → Nat → qS)) × (Nat × (Nat → Int64) × (Nat → Int64)) × Nat × Nat
def qu {α : Type} (f : Nat → α) (k : Nat) (v : α) : Nat → α := fun j => if j = k then v else f j
theorem qu_s {α : Type} (f : Nat → α) (k : Nat) (v : α) : qu f k v k = v := if_pos rfl
theorem qu_n {α : Type} (f : Nat → α) {k j : Nat} (v : α) (h : ¬ j = k) : qu f k v j = f j := if_neg h
abbrev qZt (nr : Nat) (w x : Nat → Nat) (sz : Nat → Nat) (st : Nat → Nat → qS) (nc : Nat) (lo hi : Nat → Int64) (kn cur : Nat) : qZ := ((nr, w, x), (sz, st), (nc, lo, hi), kn, cur)
/-- what holds of every state that is reached -/
def qm_ok (nr : Nat) (w x : Nat → Nat) (sz : Nat → Nat) (st : Nat → Nat → qS) (nc : Nat) (lo hi : Nat → Int64) (kn cur : Nat) : Prop :=
  qm_okR nr w x ∧ kn ≤ 10 ∧ (∀ r, (r < kn ∨ r = 10) → sz r ≤ 200 ∧ ∀ j, j < sz r → qm_okS nr (st r j)) ∧ cur ≤ sz 10 ∧ nc ≤ 20 ∧ ∀ i, i < nc → lN 0 ≤ lo i ∧ lo i ≤ hi i ∧ hi i ≤ lN 100000000
def qm_okz (z : qZ) : Prop := qm_ok z.1.1 z.1.2.1 z.1.2.2 z.2.1.1 z.2.1.2 z.2.2.1.1 z.2.2.1.2.1 z.2.2.1.2.2 z.2.2.2.1 z.2.2.2.2
/-- one step more -/
def qo_push (z : qZ) (t : qS) : qZ := (z.1, (qu z.2.1.1 10 (z.2.1.1 10 + 1), qu z.2.1.2 10 (qu (z.2.1.2 10) (z.2.1.1 10) t)), z.2.2)
def qo_rule (z : qZ) (a b : Int32) : Int32 × qZ :=
  if (nI 0 ≤ a ∧ a ≤ nI 10000) ∧ (nI 0 ≤ b ∧ b ≤ nI 100000) ∧ z.1.1 < 40 then (nI z.1.1, ((z.1.1 + 1, qu z.1.2.1 z.1.1 a.toNatClampNeg, qu z.1.2.2 z.1.1 b.toNatClampNeg), z.2)) else (-1, z)
def qo_used (z : qZ) (r p w : Int32) : Int32 × qZ :=
  if (¬ r < 0 ∧ r < nI z.1.1) ∧ (nI 0 ≤ p ∧ p ≤ nI 255) ∧ (nI 1 ≤ w ∧ w ≤ nI 9) ∧ z.2.1.1 10 < 200 then (nI (z.2.1.1 10), qo_push z (r.toNatClampNeg + 1, p.toNatClampNeg, w.toNatClampNeg)) else (-1, z)
def qo_guess (z : qZ) (d : Int32) : Int32 × qZ :=
  if (nI 1 ≤ d ∧ d ≤ nI 20) ∧ z.2.1.1 10 < 200 then (nI (z.2.1.1 10), qo_push z (0, d.toNatClampNeg, 0)) else (-1, z)
def qo_drop (z : qZ) : Int32 × qZ :=
  if 0 < z.2.1.1 10 then (nI 1, (z.1, (qu z.2.1.1 10 (z.2.1.1 10 - 1), z.2.1.2), z.2.2.1, z.2.2.2.1, if z.2.2.2.2 = z.2.1.1 10 then z.2.2.2.2 - 1 else z.2.2.2.2)) else (nI 0, z)
abbrev qo_c (z : qZ) : Nat → Nat := qm_cost z.1.2.1 z.1.2.2 (z.2.1.2 10)
def qo_cost (z : qZ) (k : Int32) : Int64 := if ¬ k < 0 ∧ k < nI (z.2.1.1 10) then lN (qo_c z k.toNatClampNeg) else -1
def qo_sum (z : qZ) (n : Int32) : Int64 := if n < 0 then -1 else lN (qm_sum (qo_c z) (if n.toNatClampNeg < z.2.1.1 10 then n.toNatClampNeg else z.2.1.1 10))
def qo_all (z : qZ) : Int64 := lN (qm_sum (qo_c z) (z.2.1.1 10))
def qo_cls (z : qZ) (a b : Int64) : Int32 × qZ :=
  if ¬ a < lN 0 ∧ ¬ b < a ∧ ¬ lN 100000000 < b ∧ z.2.2.1.1 < 20 ∧ ¬ qm_ovl z.2.2.1.2.1 z.2.2.1.2.2 a b z.2.2.1.1 0 = true then (nI z.2.2.1.1, (z.1, z.2.1, (z.2.2.1.1 + 1, vp_updL z.2.2.1.2.1 z.2.2.1.1 a, vp_updL z.2.2.1.2.2 z.2.2.1.1 b), z.2.2.2)) else (-1, z)
def qo_of (z : qZ) : Nat := qm_cof z.2.2.1.2.1 z.2.2.1.2.2 (qo_all z) z.2.2.1.1 0
def qo_grade (z : qZ) : Int32 := qm_ans z.2.2.1.1 (qo_of z)
def qo_rank (z : qZ) : Int32 := if qo_of z < z.2.2.1.1 then nI (qm_bel z.2.2.1.2.2 (qo_all z) z.2.2.1.1) else -1
def qo_gap (z : qZ) (v : Int64) : Int64 := if v < lN 0 then -1 else qm_gap z.2.2.1.2.1 z.2.2.1.2.2 z.2.2.1.1 z.2.2.1.1 v
def qo_stuck (z : qZ) (k : Int32) : Int32 := qm_stk (z.2.1.2 10) k (z.2.1.1 10) 0 0
def qo_run (z : qZ) : Int32 := nI (qm_run (qo_c z) (z.2.1.1 10)).2
def qo_u (z : qZ) : Nat → Nat := fun r => qm_cnt (qm_rs (z.2.1.2 10)) (z.2.1.1 10) (r + 1)
def qo_sp (z : qZ) : Nat → Nat := fun r => qm_sp (z.2.1.2 10) (qo_c z) r (z.2.1.1 10)
def qo_hard (z : qZ) : Int32 := nM (qm_hd (qo_u z) (qo_sp z) z.1.1).1
def qo_go (z : qZ) (k : Int32) : Int32 × qZ := if ¬ k < 0 ∧ k ≤ nI (z.2.1.1 10) then (nI 1, (z.1, z.2.1, z.2.2.1, z.2.2.2.1, k.toNatClampNeg)) else (nI 0, z)
def qo_hint (z : qZ) (d : Int32) : Int32 × qZ :=
  if (nI 1 ≤ d ∧ d ≤ nI 4) ∧ z.2.2.2.2 < z.2.1.1 10 then
    (if (z.2.1.2 10 z.2.2.2.2).1 = 0 then (if d = nI 4 then nI (z.2.1.2 10 z.2.2.2.2).2.1 else -2)
      else if d = nI 1 then nI ((z.2.1.2 10 z.2.2.2.2).2.1 / 16) else if d = nI 2 then nI (z.2.1.2 10 z.2.2.2.2).2.1 else if d = nI 3 then nM (z.2.1.2 10 z.2.2.2.2).1 else nI (z.2.1.2 10 z.2.2.2.2).2.2,
     (z.1, z.2.1, z.2.2.1, z.2.2.2.1, if d = nI 4 then z.2.2.2.2 + 1 else z.2.2.2.2))
  else (-1, z)
def qo_keep (z : qZ) : Int32 × qZ :=
  if z.2.2.2.1 < 10 then (nI z.2.2.2.1, (z.1, (qu z.2.1.1 z.2.2.2.1 (z.2.1.1 10), qu z.2.1.2 z.2.2.2.1 (z.2.1.2 10)), z.2.2.1, z.2.2.2.1 + 1, z.2.2.2.2)) else (-1, z)
/-- compare: what the answer is known by -/
def qo_cmp (z : qZ) (k : Int32) (r : Int32) : Prop :=
  if ¬ k < 0 ∧ k < nI z.2.2.2.1 then
    (∃ q, qm_sg (qo_all z) (lN (qm_sum (qm_cost z.1.2.1 z.1.2.2 (z.2.1.2 k.toNatClampNeg)) (z.2.1.1 k.toNatClampNeg))) q ∧ ((¬ q = 0 ∧ r = q) ∨ (q = 0 ∧
      ∃ q2, qm_sg (lN (z.2.1.1 10)) (lN (z.2.1.1 k.toNatClampNeg)) q2 ∧ ((¬ q2 = 0 ∧ r = q2) ∨ (q2 = 0 ∧
        qm_ord (fun a b : Nat => a < b) (qm_cnt (qo_c z) (z.2.1.1 10)) (qm_cnt (qm_cost z.1.2.1 z.1.2.2 (z.2.1.2 k.toNatClampNeg)) (z.2.1.1 10)) r)))))
  else r = -2
/-- same: what the answer is known by -/
def qo_same (z : qZ) (k : Int32) (r : Int32) : Prop :=
  ((¬ k < 0 ∧ k < nI z.2.2.2.1) ∧ z.2.1.1 k.toNatClampNeg = z.2.1.1 10 ∧ (∀ v, qm_cnt (z.2.1.2 k.toNatClampNeg) (z.2.1.1 10) v = qm_cnt (z.2.1.2 10) (z.2.1.1 10) v) ∧ r = nI 1) ∨
  (¬ ((¬ k < 0 ∧ k < nI z.2.2.2.1) ∧ z.2.1.1 k.toNatClampNeg = z.2.1.1 10 ∧ (∀ v, qm_cnt (z.2.1.2 k.toNatClampNeg) (z.2.1.1 10) v = qm_cnt (z.2.1.2 10) (z.2.1.1 10) v)) ∧ r = nI 0)
theorem qo_cmp_one {z : qZ} {k r q : Int32} (h : qo_cmp z k r) (h2 : qo_cmp z k q) : r = q := by
  unfold qo_cmp at h h2
  by_cases c : ¬ k < 0 ∧ k < nI z.2.2.2.1
  · rw [if_pos c] at h h2
    obtain ⟨a, ha, h⟩ := h
    obtain ⟨b, hb, h2⟩ := h2
    have e := qm_sg_one ha hb
    subst e
    rcases h with ⟨n1, e1⟩ | ⟨n1, h⟩ <;> rcases h2 with ⟨n2, e2⟩ | ⟨n2, h2⟩
    · rw [e1, e2]
    · exact absurd n2 n1
    · exact absurd n1 n2
    · obtain ⟨a2, ha2, h⟩ := h
      obtain ⟨b2, hb2, h2⟩ := h2
      have e := qm_sg_one ha2 hb2
      subst e
      rcases h with ⟨m1, e1⟩ | ⟨m1, h⟩ <;> rcases h2 with ⟨m2, e2⟩ | ⟨m2, h2⟩
      · rw [e1, e2]
      · exact absurd m2 m1
      · exact absurd m1 m2
      · exact qm_ord_one (fun a b => by omega) h h2
  · rw [if_neg c] at h h2
    rw [h, h2]
theorem qo_same_one {z : qZ} {k r q : Int32} (h : qo_same z k r) (h2 : qo_same z k q) : r = q := by
  rcases h with ⟨a, b, c, e⟩ | ⟨a, e⟩ <;> rcases h2 with ⟨a2, b2, c2, e2⟩ | ⟨a2, e2⟩
  · rw [e, e2]
  · exact absurd ⟨a, b, c⟩ a2
  · exact absurd ⟨a2, b2, c2⟩ a
  · rw [e, e2]
