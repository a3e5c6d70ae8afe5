/-! LEMMAS of the reference's compare (the greatest taken one by one) and same (like counts) -/
theorem qm_cnt_all {α : Type} [DecidableEq α] {f : Nat → α} {v : α} : ∀ {n : Nat}, (∀ j, j < n → f j = v) → qm_cnt f n v = n
  | 0, _ => rfl
  | n + 1, h => by
    show qm_cnt f n v + (if f n = v then 1 else 0) = n + 1
    rw [qm_cnt_all (n := n) (fun j hj => h j (by omega)), if_pos (h n (by omega))]
theorem qm_cnt_full {α : Type} [DecidableEq α] {f : Nat → α} {v : α} : ∀ {n : Nat}, qm_cnt f n v = n → ∀ j, j < n → f j = v
  | 0, _, j, hj => absurd hj (Nat.not_lt_zero j)
  | n + 1, h, j, hj => by
    have h1 : qm_cnt f n v + (if f n = v then 1 else 0) = n + 1 := h
    have h2 := qm_cnt_le (f := f) (v := v) (n := n)
    by_cases e : f n = v
    · rw [if_pos e] at h1
      by_cases q : j = n
      · rw [q]; exact e
      · exact qm_cnt_full (n := n) (by omega) j (by omega)
    · rw [if_neg e] at h1; omega
theorem qm_cnt_qu {α : Type} [DecidableEq α] {f : Nat → α} {x v : α} {a : Nat} : ∀ {n : Nat}, a < n → qm_cnt (qu f a x) n v + (if f a = v then 1 else 0) = qm_cnt f n v + (if x = v then 1 else 0)
  | 0, h => absurd h (Nat.not_lt_zero a)
  | n + 1, h => by
    show qm_cnt (qu f a x) n v + (if qu f a x n = v then 1 else 0) + (if f a = v then 1 else 0) = qm_cnt f n v + (if f n = v then 1 else 0) + (if x = v then 1 else 0)
    by_cases e : a = n
    · subst e
      rw [qu_s, qm_cnt_congr (f := qu f a x) (g := f) (fun k hk => qu_n _ _ (by omega))]
      omega
    · have q := qm_cnt_qu (f := f) (x := x) (v := v) (a := a) (n := n) (by omega)
      rw [qu_n _ _ (fun z => e z.symm)]
      omega
def qm_sel (c d : Nat → Nat) (n t : Nat) (A B : Nat → Nat) : Prop := (∀ j, j < n → A j ≤ 130001 ∧ B j ≤ 130001) ∧ (qm_cnt A n 0 = t ∧ qm_cnt B n 0 = t) ∧ ∃ R : Nat → Nat, ∀ v, qm_cnt c n v = qm_cnt A n (v + 1) + R v ∧ qm_cnt d n v = qm_cnt B n (v + 1) + R v
theorem qm_sel_0 {c d : Nat → Nat} {n : Nat} (hc : ∀ j, j < n → c j ≤ 130000 ∧ d j ≤ 130000) : qm_sel c d n 0 (fun j => c j + 1) (fun j => d j + 1) := by
  refine ⟨fun j hj => ⟨by have := hc j hj; show c j + 1 ≤ 130001; omega, by have := hc j hj; show d j + 1 ≤ 130001; omega⟩, ⟨qm_cnt_zero (fun k _ => Nat.succ_ne_zero _), qm_cnt_zero (fun k _ => Nat.succ_ne_zero _)⟩, fun _ => 0, fun v => ⟨?_, ?_⟩⟩
  · exact qm_cnt_map (fun k _ => ⟨fun h => by rw [h], fun h => Nat.succ.inj h⟩)
  · exact qm_cnt_map (fun k _ => ⟨fun h => by rw [h], fun h => Nat.succ.inj h⟩)
theorem qm_sel_pos {c d : Nat → Nat} {n t : Nat} {A B : Nat → Nat} (h : qm_sel c d n t A B) (ht : t < n) {a b : Nat} (hm : ∀ j, j < n → A j ≤ A a ∧ B j ≤ B b) : 0 < A a := by
  rcases Nat.eq_zero_or_pos (A a) with q | q
  · have := qm_cnt_all (f := A) (v := 0) (n := n) (fun j hj => by have := (hm j hj).1; omega)
    have := h.2.1.1
    omega
  · exact q
theorem qm_sel_next {c d : Nat → Nat} {n t : Nat} {A B : Nat → Nat} (h : qm_sel c d n t A B) (ht : t < n) {a b : Nat} (ha : a < n ∧ b < n) (hm : ∀ j, j < n → A j ≤ A a ∧ B j ≤ B b) (e : A a = B b) : qm_sel c d n (t + 1) (qu A a 0) (qu B b 0) := by
  have hp := qm_sel_pos h ht hm
  obtain ⟨hb, ⟨h1, h2⟩, R, hR⟩ := h
  refine ⟨fun j hj => ⟨?_, ?_⟩, ⟨?_, ?_⟩, fun v => R v + (if A a = v + 1 then 1 else 0), fun v => ⟨?_, ?_⟩⟩
  · by_cases q : j = a
    · rw [q, qu_s]; omega
    · rw [qu_n _ _ q]; exact (hb j hj).1
  · by_cases q : j = b
    · rw [q, qu_s]; omega
    · rw [qu_n _ _ q]; exact (hb j hj).2
  · have q := qm_cnt_qu (f := A) (x := 0) (v := 0) ha.1
    rw [if_neg (by omega), if_pos rfl] at q; omega
  · have q := qm_cnt_qu (f := B) (x := 0) (v := 0) ha.2
    rw [if_neg (by omega), if_pos rfl] at q; omega
  · have q := qm_cnt_qu (f := A) (x := 0) (v := v + 1) ha.1
    rw [if_neg (show ¬ 0 = v + 1 by omega)] at q
    have := (hR v).1
    show _ = _ + (R v + (if A a = v + 1 then 1 else 0))
    omega
  · have q := qm_cnt_qu (f := B) (x := 0) (v := v + 1) ha.2
    rw [if_neg (show ¬ 0 = v + 1 by omega), ← e] at q
    have := (hR v).2
    show _ = _ + (R v + (if A a = v + 1 then 1 else 0))
    omega
theorem qm_sel_end {c d : Nat → Nat} {n t : Nat} {A B : Nat → Nat} (h : qm_sel c d n t A B) (ht : t = n) : qm_ord (fun a b : Nat => a < b) (qm_cnt c n) (qm_cnt d n) (nI 0) := by
  obtain ⟨-, ⟨h1, h2⟩, R, hR⟩ := h
  refine Or.inl ⟨rfl, fun v => ?_⟩
  rw [(hR v).1, (hR v).2, qm_cnt_zero (f := A) (fun k hk => by rw [qm_cnt_full (h1.trans ht) k hk]; omega), qm_cnt_zero (f := B) (fun k hk => by rw [qm_cnt_full (h2.trans ht) k hk]; omega)]
theorem qm_sel_diff {c d : Nat → Nat} {n t : Nat} {A B : Nat → Nat} {r : Int32} (h : qm_sel c d n t A B) {a b : Nat} (ha : a < n ∧ b < n) (hm : ∀ j, j < n → A j ≤ A a ∧ B j ≤ B b) (e : ¬ A a = B b) (sg : qm_sg (lM (A a)) (lM (B b)) r) : qm_ord (fun a b : Nat => a < b) (qm_cnt c n) (qm_cnt d n) r := by
  obtain ⟨hb, -, R, hR⟩ := h
  have b1 := (hb a ha.1).1
  have b2 := (hb b ha.2).2
  rcases sg with ⟨g, er⟩ | ⟨g, er⟩ | ⟨g, er⟩
  · rw [lM_lt (by omega) (by omega)] at g
    refine Or.inr (Or.inr ⟨er, B b - 1, fun u hu => ?_, ?_⟩)
    · rw [(hR u).1, (hR u).2, qm_cnt_zero (f := A) (fun k hk => by have := (hm k hk).1; omega), qm_cnt_zero (f := B) (fun k hk => by have := (hm k hk).2; omega)]
    · rw [(hR _).1, (hR _).2, qm_cnt_zero (f := A) (fun k hk => by have := (hm k hk).1; omega)]
      have p : 0 < qm_cnt B n (B b - 1 + 1) := qm_cnt_of ha.2 (by omega)
      omega
  · exact absurd ((lM_eq (by omega) (by omega)).mp g) e
  · rw [lM_lt (by omega) (by omega)] at g
    refine Or.inr (Or.inl ⟨er, A a - 1, fun u hu => ?_, ?_⟩)
    · rw [(hR u).1, (hR u).2, qm_cnt_zero (f := A) (fun k hk => by have := (hm k hk).1; omega), qm_cnt_zero (f := B) (fun k hk => by have := (hm k hk).2; omega)]
    · rw [(hR _).1, (hR _).2, qm_cnt_zero (f := B) (fun k hk => by have := (hm k hk).2; omega)]
      have p : 0 < qm_cnt A n (A a - 1 + 1) := qm_cnt_of ha.1 (by omega)
      omega
theorem qm_updLM {g : Nat → Int64} {A : Nat → Nat} {n a : Nat} (hg : ∀ j, j < n → g j = lM (A j)) : ∀ j, j < n → vp_updL g a (lM 0) j = lM (qu A a 0 j) := fun j hj => by
  by_cases e : j = a
  · rw [e, pk_uLs, qu_s]
  · rw [pk_uLn e, qu_n _ _ e]; exact hg j hj
theorem qm_updLN {g : Nat → Int64} {c : Nat → Nat} {i : Nat} (hg : ∀ j, j < i → g j = lM (c j + 1)) : ∀ j, j < i + 1 → vp_updL g i (lM (c i + 1)) j = lM (c j + 1) := fun j hj => by
  by_cases e : j = i
  · rw [e, pk_uLs]
  · rw [pk_uLn e]; exact hg j (by omega)
/-- the three ways in which compare ends -/
theorem qo_cmp_0 {z : qZ} {k : Int32} (h : ¬ (¬ k < 0 ∧ k < nI z.2.2.2.1)) : qo_cmp z k (-2) := by unfold qo_cmp; rw [if_neg h]
theorem qo_cmp_1 {z : qZ} {k : Nat} {r : Int32} (hk : k < z.2.2.2.1) (hz : z.2.2.2.1 < 2 ^ 31) (sg : qm_sg (qo_all z) (lN (qm_sum (qm_cost z.1.2.1 z.1.2.2 (z.2.1.2 k)) (z.2.1.1 k))) r) (ne : ¬ r = 0) : qo_cmp z (nI k) r := by
  unfold qo_cmp; rw [if_pos ⟨nI_pos (by omega), nI_lt hk hz⟩, nI_clamp (by omega)]
  exact ⟨r, sg, Or.inl ⟨ne, rfl⟩⟩
theorem qo_cmp_2 {z : qZ} {k : Nat} {r : Int32} (hk : k < z.2.2.2.1) (hz : z.2.2.2.1 < 2 ^ 31) (e : qo_all z = lN (qm_sum (qm_cost z.1.2.1 z.1.2.2 (z.2.1.2 k)) (z.2.1.1 k))) (sg : qm_sg (lN (z.2.1.1 10)) (lN (z.2.1.1 k)) r) (ne : ¬ r = 0) : qo_cmp z (nI k) r := by
  unfold qo_cmp; rw [if_pos ⟨nI_pos (by omega), nI_lt hk hz⟩, nI_clamp (by omega)]
  exact ⟨nI 0, Or.inr (Or.inl ⟨e, rfl⟩), Or.inr ⟨nI_0, r, sg, Or.inl ⟨ne, rfl⟩⟩⟩
theorem qo_cmp_3 {z : qZ} {k : Nat} {r : Int32} (hk : k < z.2.2.2.1) (hz : z.2.2.2.1 < 2 ^ 31) (e : qo_all z = lN (qm_sum (qm_cost z.1.2.1 z.1.2.2 (z.2.1.2 k)) (z.2.1.1 k))) (e2 : z.2.1.1 10 = z.2.1.1 k) (o : qm_ord (fun a b : Nat => a < b) (qm_cnt (qo_c z) (z.2.1.1 10)) (qm_cnt (qm_cost z.1.2.1 z.1.2.2 (z.2.1.2 k)) (z.2.1.1 10)) r) : qo_cmp z (nI k) r := by
  unfold qo_cmp; rw [if_pos ⟨nI_pos (by omega), nI_lt hk hz⟩, nI_clamp (by omega)]
  exact ⟨nI 0, Or.inr (Or.inl ⟨e, rfl⟩), Or.inr ⟨nI_0, nI 0, Or.inr (Or.inl ⟨by rw [e2], rfl⟩), Or.inr ⟨nI_0, o⟩⟩⟩
/-- bags of one size, each element of the one as often in the other: one bag -/
theorem qm_pigL {α : Type} [DecidableEq α] : ∀ (l1 l2 : List α), l1.length = l2.length → (∀ x ∈ l1, l1.count x ≤ l2.count x) → ∀ v, l1.count v = l2.count v
  | [], l2, h, _, v => by
    have : l2 = [] := List.eq_nil_of_length_eq_zero h.symm
    rw [this]
  | x :: t, l2, h, hc, v => by
    have hx : x ∈ l2 := by
      have q := hc x List.mem_cons_self
      rw [List.count_cons_self] at q
      exact List.count_pos_iff.mp (by omega)
    have hl : (l2.erase x).length = t.length := by
      rw [List.length_erase_of_mem hx, ← h, List.length_cons]; omega
    have ih := qm_pigL t (l2.erase x) hl.symm (fun y hy => by
      have q := hc y (List.mem_cons_of_mem _ hy)
      rw [List.count_cons] at q
      rw [List.count_erase]
      have : (x == y) = (y == x) := by rw [Bool.beq_comm]
      by_cases e : x == y
      · rw [e] at q; simp only [if_true] at q; rw [e]; simp only [if_true]; omega
      · rw [Bool.not_eq_true] at e; rw [e] at q; rw [e]; simp at q ⊢; exact q)
    have a := ih v
    rw [List.count_erase] at a
    rw [List.count_cons]
    by_cases e : x == v
    · have p : 0 < l2.count v := by rw [← eq_of_beq e]; exact List.count_pos_iff.mpr hx
      rw [e] at a ⊢; simp only [if_true] at a ⊢; omega
    · rw [Bool.not_eq_true] at e; rw [e] at a ⊢; simp at a ⊢; exact a
theorem qm_cntL {α : Type} [DecidableEq α] (f : Nat → α) (v : α) : ∀ n, qm_cnt f n v = ((List.range n).map f).count v
  | 0 => rfl
  | n + 1 => by
    rw [List.range_succ, List.map_append, List.count_append, ← qm_cntL f v n]
    show qm_cnt f n v + (if f n = v then 1 else 0) = qm_cnt f n v + List.count v [f n]
    rw [List.count_singleton]
    by_cases e : f n = v
    · rw [if_pos e, e]; simp
    · rw [if_neg e]; simp [e]
theorem qm_pig {α : Type} [DecidableEq α] {f g : Nat → α} {n : Nat} (h : ∀ k, k < n → qm_cnt g n (f k) = qm_cnt f n (f k)) (v : α) : qm_cnt g n v = qm_cnt f n v := by
  rw [qm_cntL, qm_cntL]
  refine (qm_pigL _ _ (by simp) (fun x hx => ?_) v).symm
  obtain ⟨k, hk, rfl⟩ := List.mem_map.mp hx
  rw [← qm_cntL, ← qm_cntL, h k (List.mem_range.mp hk)]
  exact Nat.le_refl _
theorem qo_same_no {z : qZ} {k : Int32} (h : ¬ ((¬ k < 0 ∧ k < nI z.2.2.2.1) ∧ z.2.1.1 k.toNatClampNeg = z.2.1.1 10 ∧ (∀ v, qm_cnt (z.2.1.2 k.toNatClampNeg) (z.2.1.1 10) v = qm_cnt (z.2.1.2 10) (z.2.1.1 10) v))) : qo_same z k (nI 0) := Or.inr ⟨h, rfl⟩
theorem qo_same_yes {z : qZ} {k : Nat} (hk : k < z.2.2.2.1) (hz : z.2.2.2.1 < 2 ^ 31) (e : z.2.1.1 k = z.2.1.1 10) (h : ∀ v, qm_cnt (z.2.1.2 k) (z.2.1.1 10) v = qm_cnt (z.2.1.2 10) (z.2.1.1 10) v) : qo_same z (nI k) (nI 1) := by
  refine Or.inl ⟨⟨nI_pos (by omega), nI_lt hk hz⟩, ?_, ?_, rfl⟩
  · rw [nI_clamp (by omega)]; exact e
  · rw [nI_clamp (by omega)]; exact h
