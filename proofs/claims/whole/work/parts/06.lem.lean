/-! LEMMAS of the reference's loops and states -/
def qz_0 : qZ := qZt 0 (fun _ => 0) (fun _ => 0) (fun _ => 0) (fun _ _ => (0, 0, 0)) 0 (fun _ => 0) (fun _ => 0) 0 0
theorem qk_loc {ls : Array Slot} {nL : Nat} {l : List (Nat × Value)} {k i : Nat} {v0 v : Value} (hl : lv_has ls nL l) (hk : l[k]? = some (i, v0)) (e : v0 = v) : lv_has ls nL (l.set k (i, v)) := by
  subst e
  refine ⟨hl.1, hl.2.1, fun q hq => ?_⟩
  rcases List.mem_or_eq_of_mem_set hq with h | h
  · exact hl.2.2 q h
  · rw [h]; exact hl.2.2 _ (List.mem_of_getElem? hk)
theorem qm_ord_0 {α : Type} {lt : α → α → Prop} {cA cB : α → Nat} {r : Int32} (h : qm_ord lt cA cB r) (e : r = 0) : ∀ v, cA v = cB v := by
  rcases h with ⟨-, h⟩ | ⟨h, -⟩ | ⟨h, -⟩
  · exact h
  · rw [h] at e; exact absurd e (by decide)
  · rw [h] at e; exact absurd e (by decide)
theorem qm_ord_z {α : Type} {lt : α → α → Prop} {cA cB : α → Nat} {r : Int32} (h : qm_ord lt cA cB r) (e : ∀ v, cA v = cB v) : r = 0 := by
  rcases h with ⟨h, -⟩ | ⟨-, v, -, h⟩ | ⟨-, v, -, h⟩
  · rw [h]; exact nI_0
  · have := e v; omega
  · have := e v; omega
theorem qm_two {nr : Nat} {w x : Nat → Nat} {fw fx : Nat → Int32} {a b : Nat} (hw : ∀ i, i < nr → fw i = nI (w i) ∧ fx i = nI (x i)) {i : Nat} (hi : i < nr + 1) : upd fw nr (nI a) i = nI (qu w nr a i) ∧ upd fx nr (nI b) i = nI (qu x nr b i) := by
  by_cases e : i = nr
  · rw [e, pk_us, pk_us, qu_s, qu_s]; exact ⟨rfl, rfl⟩
  · rw [pk_un e, pk_un e, qu_n _ _ e, qu_n _ _ e]; exact hw i (by omega)
/-- the reference's rows -/
def qm_rw (kn : Nat) (sz0 : Nat → Nat) (st : Nat → Nat → qS) (fz fb fh fd : Nat → Int32) : Prop :=
  ∀ r, (r < kn ∨ r = 10) → fz r = nI (sz0 r) ∧ ∀ j, j < sz0 r → fb (200 * r + j) = nM (st r j).1 ∧ fh (200 * r + j) = nI (st r j).2.1 ∧ fd (200 * r + j) = nI (st r j).2.2
theorem qm_pushed {nr kn : Nat} {sz0 : Nat → Nat} {st : Nat → Nat → qS} {fz fb fh fd : Nat → Int32} {t : qS} (hkn : kn ≤ 10) (hn : sz0 10 < 200) (hrows : ∀ r, (r < kn ∨ r = 10) → sz0 r ≤ 200 ∧ ∀ j, j < sz0 r → qm_okS nr (st r j)) (hrw : qm_rw kn sz0 st fz fb fh fd) :
    qm_rw kn (qu sz0 10 (sz0 10 + 1)) (qu st 10 (qu (st 10) (sz0 10) t)) (upd fz 10 (nI (sz0 10 + 1))) (upd fb (2000 + sz0 10) (nM t.1)) (upd fh (2000 + sz0 10) (nI t.2.1)) (upd fd (2000 + sz0 10) (nI t.2.2)) := by
  intro r hr
  have q := hrw r hr
  by_cases e : r = 10
  · subst e
    refine ⟨by rw [pk_us, qu_s], fun j hj => ?_⟩
    rw [qu_s] at hj
    rw [qu_s]
    by_cases e2 : j = sz0 10
    · rw [e2, qu_s]
      exact ⟨pk_us, pk_us, pk_us⟩
    · rw [qu_n _ _ e2, pk_un (by omega), pk_un (by omega), pk_un (by omega)]
      exact q.2 j (by omega)
  · refine ⟨by rw [pk_un e, qu_n _ _ e]; exact q.1, fun j hj => ?_⟩
    rw [qu_n _ _ e] at hj
    have h1 := (hrows r hr).1
    rw [qu_n _ _ e, pk_un (by omega), pk_un (by omega), pk_un (by omega)]
    exact q.2 j hj
theorem qm_dropped {kn : Nat} {sz0 : Nat → Nat} {st : Nat → Nat → qS} {fz fb fh fd : Nat → Int32} (hrw : qm_rw kn sz0 st fz fb fh fd) :
    qm_rw kn (qu sz0 10 (sz0 10 - 1)) st (upd fz 10 (nI (sz0 10 - 1))) fb fh fd := by
  intro r hr
  have q := hrw r hr
  by_cases e : r = 10
  · subst e
    refine ⟨by rw [pk_us, qu_s], fun j hj => ?_⟩
    rw [qu_s] at hj
    exact q.2 j (by omega)
  · refine ⟨by rw [pk_un e, qu_n _ _ e]; exact q.1, fun j hj => ?_⟩
    rw [qu_n _ _ e] at hj
    exact q.2 j hj
/-- a row copied from place 2000 on to place a on, k of it -/
def qm_cp (f : Nat → Int32) (a k : Nat) : Nat → Int32 := fun i => if a ≤ i ∧ i < a + k then f (2000 + (i - a)) else f i
theorem qm_cp_0 (f : Nat → Int32) (a : Nat) : ∀ i, f i = qm_cp f a 0 i := fun i => by unfold qm_cp; rw [if_neg (by omega)]
theorem qm_cp_hi {f : Nat → Int32} {a k i : Nat} (h : a + k ≤ i) : qm_cp f a k i = f i := by unfold qm_cp; rw [if_neg (by omega)]
theorem qm_cp_s {f g : Nat → Int32} {a k : Nat} (h : ∀ i, g i = qm_cp f a k i) : ∀ i, upd g (a + k) (f (2000 + k)) i = qm_cp f a (k + 1) i := fun i => by
  by_cases e : i = a + k
  · rw [e, pk_us]; unfold qm_cp; rw [if_pos (by omega), show a + k - a = k by omega]
  · rw [pk_un e, h i]
    unfold qm_cp
    by_cases c : a ≤ i ∧ i < a + k
    · rw [if_pos c, if_pos (by omega)]
    · rw [if_neg c, if_neg (by omega)]
theorem qm_kept {nr kn k : Nat} {sz0 : Nat → Nat} {st : Nat → Nat → qS} {fz fb fh fd gb gh gd : Nat → Int32} (hk : kn < 10) (hk2 : k = 200) (hrows : ∀ r, (r < kn ∨ r = 10) → sz0 r ≤ 200 ∧ ∀ j, j < sz0 r → qm_okS nr (st r j)) (hb : ∀ i, gb i = qm_cp fb (200 * kn) k i) (hh : ∀ i, gh i = qm_cp fh (200 * kn) k i) (hd : ∀ i, gd i = qm_cp fd (200 * kn) k i) (hrw : qm_rw kn sz0 st fz fb fh fd) :
    qm_rw (kn + 1) (qu sz0 kn (sz0 10)) (qu st kn (st 10)) (upd fz kn (nI (sz0 10))) gb gh gd := by
  intro r hr
  have q10 := hrw 10 (Or.inr rfl)
  have z10 := (hrows 10 (Or.inr rfl)).1
  by_cases e : r = kn
  · subst e
    refine ⟨by rw [pk_us, qu_s], fun j hj => ?_⟩
    rw [qu_s] at hj
    rw [qu_s, hb, hh, hd]
    unfold qm_cp
    rw [if_pos (by omega), if_pos (by omega), if_pos (by omega), show 200 * r + j - 200 * r = j by omega]
    exact q10.2 j hj
  · have hr2 : r < kn ∨ r = 10 := by omega
    have q := hrw r hr2
    have z := (hrows r hr2).1
    refine ⟨by rw [pk_un e, qu_n _ _ e]; exact q.1, fun j hj => ?_⟩
    rw [qu_n _ _ e] at hj
    rw [qu_n _ _ e, hb, hh, hd]
    unfold qm_cp
    rw [if_neg (by omega), if_neg (by omega), if_neg (by omega)]
    exact q.2 j hj
theorem qm_gap_f {lo hi : Nat → Int64} {n f : Nat} {v : Int64} (h : 0 < f) (hc : qm_cof lo hi v n 0 < n) : qm_gap lo hi n f v = qm_gap lo hi n (f - 1) (hi (qm_cof lo hi v n 0) + lN 1) := by
  obtain ⟨d, rfl⟩ : ∃ d, f = d + 1 := ⟨f - 1, by omega⟩
  exact if_pos hc
theorem qm_ladd1 {a : Int64} (h1 : lN 0 ≤ a) (h2 : a ≤ lN 100000000) : (a + lN 1).toInt = a.toInt + 1 := by
  have e0 : (lN 0).toInt = 0 := by decide
  have e1 : (lN 100000000).toInt = 100000000 := by decide
  rw [Int64.le_iff_toInt_le] at h1 h2
  obtain ⟨k, hk, rfl⟩ := pk_lOf (x := a) (by rw [Int64.lt_iff_toInt_lt, show (0 : Int64).toInt = 0 from by decide]; omega)
  rw [pk_lT hk] at *
  rw [lN_add, pk_lT (by omega)]; omega
theorem qm_gap_up {lo hi : Nat → Int64} {n : Nat} {v : Int64} (hcl : ∀ i, i < n → lN 0 ≤ lo i ∧ lo i ≤ hi i ∧ hi i ≤ lN 100000000) (hc : qm_cof lo hi v n 0 < n) : qm_up hi (hi (qm_cof lo hi v n 0) + lN 1) n < qm_up hi v n := by
  have a := qm_cof_in (lo := lo) (hi := hi) (v := v) (f := n) (i := 0) (by omega)
  have b := hcl _ hc
  have e := qm_ladd1 (a := hi (qm_cof lo hi v n 0)) (by have h1 := b.1; have h2 := b.2.1; rw [Int64.le_iff_toInt_le] at *; omega) b.2.2
  refine qm_up_lt hi ?_ a.2 ?_ n hc
  · have h := a.2; rw [Int64.le_iff_toInt_le] at *; omega
  · rw [Int64.le_iff_toInt_le]; omega
theorem qm_fill {g : Nat → Int32} {i : Nat} (hg : ∀ j, j < i → g j = nI 0) : ∀ j, j < i + 1 → upd g i (nI 0) j = nI 0 := fun j hj => by
  by_cases e : j = i
  · rw [e, pk_us]
  · rw [pk_un e]; exact hg j (by omega)
theorem qm_nar_no1 {s : Nat → qS} {j : Nat} (h : (s j).1 = 0) : ¬ qm_nar s j = true := by unfold qm_nar; simp [h]
theorem qm_nar_no2 {s : Nat → qS} {j : Nat} (h : ¬ (s j).2.2 = 1) : ¬ qm_nar s j = true := by unfold qm_nar; simp [h]
theorem qm_nar_yes {s : Nat → qS} {j : Nat} (h : ¬ (s j).1 = 0) (h2 : (s j).2.2 = 1) : qm_nar s j = true := by unfold qm_nar; simp [h, h2]
theorem qm_fn_no {s : Nat → qS} {j : Nat} (h : ¬ qm_nar s j = true) : ¬ qm_fn s j = true := by unfold qm_fn; rw [Bool.not_eq_true] at h; rw [h]; simp
theorem qm_fn_yes {s : Nat → qS} {j : Nat} (h : qm_nar s j = true) (h2 : ¬ qm_was s (s j).2.1 j = true) : qm_fn s j = true := by unfold qm_fn; rw [Bool.not_eq_true] at h2; rw [h, h2]; rfl
theorem qm_fn_was {s : Nat → qS} {j : Nat} (h : qm_was s (s j).2.1 j = true) : ¬ qm_fn s j = true := by unfold qm_fn; rw [h]; simp
theorem qm_was_new {s : Nat → qS} {j : Nat} {g : Nat → Int32} (hg : ∀ i, i < 256 → g i = if qm_was s i j = true then nI 1 else nI 0) (hna : qm_nar s j = true) : ∀ i, i < 256 → upd g (s j).2.1 (nI 1) i = if qm_was s i (j + 1) = true then nI 1 else nI 0 := fun i hi => by
  show _ = if (qm_was s i j || (qm_nar s j && decide ((s j).2.1 = i))) = true then nI 1 else nI 0
  rw [hna, Bool.true_and]
  by_cases e : i = (s j).2.1
  · rw [e, pk_us, if_pos (by simp)]
  · rw [pk_un e, hg i hi, decide_eq_false (fun q => e q.symm), Bool.or_false]
theorem qm_was_old {s : Nat → qS} {j : Nat} {g : Nat → Int32} (hg : ∀ i, i < 256 → g i = if qm_was s i j = true then nI 1 else nI 0) (h : (¬ qm_nar s j = true) ∨ qm_was s (s j).2.1 j = true) : ∀ i, i < 256 → g i = if qm_was s i (j + 1) = true then nI 1 else nI 0 := fun i hi => by
  have e : qm_was s i (j + 1) = qm_was s i j := by
    show (qm_was s i j || (qm_nar s j && decide ((s j).2.1 = i))) = _
    rcases h with h | h
    · rw [Bool.not_eq_true] at h
      rw [h, Bool.false_and, Bool.or_false]
    · by_cases q : (s j).2.1 = i
      · rw [q] at h; rw [h, Bool.true_or]
      · rw [decide_eq_false q, Bool.and_false, Bool.or_false]
  rw [hg i hi, e]
/-- what the steps of a rule cost together, one up; 0 when it has none -/
def qm_su (s : Nat → qS) (c : Nat → Nat) (r k : Nat) : Nat := if qm_cnt (qm_rs s) k (r + 1) = 0 then 0 else qm_sp s c r k + 1
theorem qm_sp_none {s : Nat → qS} {c : Nat → Nat} {r : Nat} : ∀ {k : Nat}, qm_cnt (qm_rs s) k (r + 1) = 0 → qm_sp s c r k = 0
  | 0, _ => rfl
  | k + 1, h => by
    have h1 : qm_cnt (qm_rs s) k (r + 1) + (if (s k).1 = r + 1 then 1 else 0) = 0 := h
    show qm_sp s c r k + (if (s k).1 = r + 1 then c k else 0) = 0
    by_cases e : (s k).1 = r + 1
    · rw [if_pos e] at h1; omega
    · rw [if_neg e] at h1 ⊢; rw [qm_sp_none (k := k) (by omega)]
theorem qm_su_no {s : Nat → qS} {c : Nat → Nat} {r k : Nat} (h : ¬ (s k).1 = r + 1) : qm_su s c r (k + 1) = qm_su s c r k := by
  unfold qm_su
  have e1 : qm_cnt (qm_rs s) (k + 1) (r + 1) = qm_cnt (qm_rs s) k (r + 1) := by show _ + (if (s k).1 = r + 1 then 1 else 0) = _; rw [if_neg h]; rfl
  have e2 : qm_sp s c r (k + 1) = qm_sp s c r k := by show _ + (if (s k).1 = r + 1 then c k else 0) = _; rw [if_neg h]; rfl
  rw [e1, e2]
theorem qm_su_yes {s : Nat → qS} {c : Nat → Nat} {r k : Nat} (h : (s k).1 = r + 1) : lM (qm_su s c r (k + 1)) = lN (qm_sp s c r k + c k) := by
  unfold qm_su
  have e1 : qm_cnt (qm_rs s) (k + 1) (r + 1) = qm_cnt (qm_rs s) k (r + 1) + 1 := by show _ + (if (s k).1 = r + 1 then 1 else 0) = _; rw [if_pos h]
  have e2 : qm_sp s c r (k + 1) = qm_sp s c r k + c k := by show _ + (if (s k).1 = r + 1 then c k else 0) = _; rw [if_pos h]
  rw [e1, e2, if_neg (by omega)]; exact lM_s _
theorem qm_su_0 {s : Nat → qS} {c : Nat → Nat} {r k : Nat} (h : ¬ 1 ≤ qm_su s c r k) : qm_sp s c r k = 0 := by
  unfold qm_su at h
  by_cases e : qm_cnt (qm_rs s) k (r + 1) = 0
  · exact qm_sp_none e
  · rw [if_neg e] at h; omega
theorem qm_su_1 {s : Nat → qS} {c : Nat → Nat} {r k : Nat} (h : 1 ≤ qm_su s c r k) : lM (qm_su s c r k) = lN (qm_sp s c r k) := by
  unfold qm_su at *
  by_cases e : qm_cnt (qm_rs s) k (r + 1) = 0
  · rw [if_pos e] at h; omega
  · rw [if_neg e]; exact lM_s _
theorem qm_su_le {nr : Nat} {w x : Nat → Nat} {s : Nat → qS} {r k : Nat} (hR : qm_okR nr w x) (ho : ∀ j, j < k → qm_okS nr (s j)) (hk : k ≤ 200) : qm_su s (qm_cost w x s) r k ≤ 26000001 := by
  unfold qm_su
  have a := qm_sp_le (s := s) (c := qm_cost w x s) (r := r) (B := 130000) (n := k) (fun j hj => qm_cost_le hR (ho j hj))
  have b := Nat.mul_le_mul_right 130000 hk
  split <;> omega
theorem qm_su_hit {z : qZ} {r mo : Nat} (h : mo < qm_su (z.2.1.2 10) (qo_c z) r (z.2.1.1 10)) : 0 < qo_u z r ∧ mo < qo_sp z r + 1 := by
  unfold qm_su at h
  unfold qo_u qo_sp
  by_cases e : qm_cnt (qm_rs (z.2.1.2 10)) (z.2.1.1 10) (r + 1) = 0
  · rw [if_pos e] at h; omega
  · rw [if_neg e] at h; exact ⟨by omega, h⟩
theorem qm_su_val {z : qZ} {r mo : Nat} (h : mo < qm_su (z.2.1.2 10) (qo_c z) r (z.2.1.1 10)) : qm_su (z.2.1.2 10) (qo_c z) r (z.2.1.1 10) = qo_sp z r + 1 := by
  unfold qm_su at *
  unfold qo_sp
  by_cases e : qm_cnt (qm_rs (z.2.1.2 10)) (z.2.1.1 10) (r + 1) = 0
  · rw [if_pos e] at h; omega
  · rw [if_neg e]
theorem qm_su_miss {z : qZ} {r mo : Nat} (h : ¬ mo < qm_su (z.2.1.2 10) (qo_c z) r (z.2.1.1 10)) : ¬ (0 < qo_u z r ∧ mo < qo_sp z r + 1) := by
  unfold qm_su at h
  unfold qo_u qo_sp
  by_cases e : qm_cnt (qm_rs (z.2.1.2 10)) (z.2.1.1 10) (r + 1) = 0
  · omega
  · rw [if_neg e] at h; omega
