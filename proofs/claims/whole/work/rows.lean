section
-- ===== PART A: goes FIRST, ahead of the names: the tables' words, and 'selects' of the private methods out of them =====
/-- a private method of a class that the tables say can be made, by its rows of tables_1 -/
def lw_okq (q : MethodName × Nat) : Prop := (q.1.cls ≠ "java/lang/invoke/MethodHandle" ∧ q.1.cls ≠ "java/lang/invoke/VarHandle") ∧ Cond.instantiable q.1.cls q.2 ∈ tables_1 ∧ Cond.privateMethod q.1 ∈ tables_1 ∧ Cond.instanceMethod q.1 ∈ tables_1
theorem lw_p0 : lw_okq (⟨"GradeRows$Steps", "wasNarrowAt", "(I)Z"⟩, 9) := ⟨⟨by decide +kernel, by decide +kernel⟩, List.mem_of_getElem? (i := 44) (by decide +kernel), List.mem_of_getElem? (i := 167) (by decide +kernel), List.mem_of_getElem? (i := 168) (by decide +kernel)⟩
theorem lw_p1 : lw_okq (⟨"GradeRows$Classes", "hasOneOf", "(JJ)Z"⟩, 3) := ⟨⟨by decide +kernel, by decide +kernel⟩, List.mem_of_getElem? (i := 92) (by decide +kernel), List.mem_of_getElem? (i := 253) (by decide +kernel), List.mem_of_getElem? (i := 254) (by decide +kernel)⟩
theorem lw_p2 : lw_okq (⟨"GradeRows", "hintOfGuess", "(I)I"⟩, 6) := ⟨⟨by decide +kernel, by decide +kernel⟩, List.mem_of_getElem? (i := 12) (by decide +kernel), List.mem_of_getElem? (i := 320) (by decide +kernel), List.mem_of_getElem? (i := 321) (by decide +kernel)⟩
theorem lw_p3 : lw_okq (⟨"GradeRows", "hintOfRuleStep", "(I)I"⟩, 6) := ⟨⟨by decide +kernel, by decide +kernel⟩, List.mem_of_getElem? (i := 12) (by decide +kernel), List.mem_of_getElem? (i := 328) (by decide +kernel), List.mem_of_getElem? (i := 329) (by decide +kernel)⟩
theorem lw_p4 : lw_okq (⟨"GradeRows", "keptAt", "(I)LGradeRows$Row;"⟩, 6) := ⟨⟨by decide +kernel, by decide +kernel⟩, List.mem_of_getElem? (i := 12) (by decide +kernel), List.mem_of_getElem? (i := 387) (by decide +kernel), List.mem_of_getElem? (i := 388) (by decide +kernel)⟩
theorem lw_p5 : lw_okq (⟨"GradeRowsModel", "count", "()I"⟩, 16) := ⟨⟨by decide +kernel, by decide +kernel⟩, List.mem_of_getElem? (i := 416) (by decide +kernel), List.mem_of_getElem? (i := 480) (by decide +kernel), List.mem_of_getElem? (i := 481) (by decide +kernel)⟩
theorem lw_p6 : lw_okq (⟨"GradeRowsModel", "add", "(III)I"⟩, 16) := ⟨⟨by decide +kernel, by decide +kernel⟩, List.mem_of_getElem? (i := 416) (by decide +kernel), List.mem_of_getElem? (i := 484) (by decide +kernel), List.mem_of_getElem? (i := 485) (by decide +kernel)⟩
theorem lw_p7 : lw_okq (⟨"GradeRowsModel", "costOf", "(II)J"⟩, 16) := ⟨⟨by decide +kernel, by decide +kernel⟩, List.mem_of_getElem? (i := 416) (by decide +kernel), List.mem_of_getElem? (i := 501) (by decide +kernel), List.mem_of_getElem? (i := 502) (by decide +kernel)⟩
theorem lw_p8 : lw_okq (⟨"GradeRowsModel", "sumOf", "(II)J"⟩, 16) := ⟨⟨by decide +kernel, by decide +kernel⟩, List.mem_of_getElem? (i := 416) (by decide +kernel), List.mem_of_getElem? (i := 511) (by decide +kernel), List.mem_of_getElem? (i := 512) (by decide +kernel)⟩
theorem lw_p9 : lw_okq (⟨"GradeRowsModel", "all", "()J"⟩, 16) := ⟨⟨by decide +kernel, by decide +kernel⟩, List.mem_of_getElem? (i := 416) (by decide +kernel), List.mem_of_getElem? (i := 524) (by decide +kernel), List.mem_of_getElem? (i := 525) (by decide +kernel)⟩
theorem lw_p10 : lw_okq (⟨"GradeRowsModel", "classOf", "(J)I"⟩, 16) := ⟨⟨by decide +kernel, by decide +kernel⟩, List.mem_of_getElem? (i := 416) (by decide +kernel), List.mem_of_getElem? (i := 528) (by decide +kernel), List.mem_of_getElem? (i := 529) (by decide +kernel)⟩
theorem lw_p11 : lw_okq (⟨"GradeRowsModel", "like", "(II)I"⟩, 16) := ⟨⟨by decide +kernel, by decide +kernel⟩, List.mem_of_getElem? (i := 416) (by decide +kernel), List.mem_of_getElem? (i := 575) (by decide +kernel), List.mem_of_getElem? (i := 576) (by decide +kernel)⟩
def lw_privs_1 : List (MethodName × Nat) := [(⟨"GradeRows$Steps", "wasNarrowAt", "(I)Z"⟩, 9), (⟨"GradeRows$Classes", "hasOneOf", "(JJ)Z"⟩, 3), (⟨"GradeRows", "hintOfGuess", "(I)I"⟩, 6), (⟨"GradeRows", "hintOfRuleStep", "(I)I"⟩, 6), (⟨"GradeRows", "keptAt", "(I)LGradeRows$Row;"⟩, 6), (⟨"GradeRowsModel", "count", "()I"⟩, 16), (⟨"GradeRowsModel", "add", "(III)I"⟩, 16), (⟨"GradeRowsModel", "costOf", "(II)J"⟩, 16), (⟨"GradeRowsModel", "sumOf", "(II)J"⟩, 16), (⟨"GradeRowsModel", "all", "()J"⟩, 16), (⟨"GradeRowsModel", "classOf", "(J)I"⟩, 16), (⟨"GradeRowsModel", "like", "(II)I"⟩, 16)]
theorem lw_r1 : ∀ q ∈ lw_privs_1, lw_okq q := List.forall_mem_cons.mpr ⟨lw_p0, List.forall_mem_cons.mpr ⟨lw_p1, List.forall_mem_cons.mpr ⟨lw_p2, List.forall_mem_cons.mpr ⟨lw_p3, List.forall_mem_cons.mpr ⟨lw_p4, List.forall_mem_cons.mpr ⟨lw_p5, List.forall_mem_cons.mpr ⟨lw_p6, List.forall_mem_cons.mpr ⟨lw_p7, List.forall_mem_cons.mpr ⟨lw_p8, List.forall_mem_cons.mpr ⟨lw_p9, List.forall_mem_cons.mpr ⟨lw_p10, List.forall_mem_cons.mpr ⟨lw_p11, fun _ h => absurd h List.not_mem_nil⟩⟩⟩⟩⟩⟩⟩⟩⟩⟩⟩⟩
def lw_privs : List (MethodName × Nat) := lw_privs_1
def lw_tbl : List Cond := k2_sels lw_privs ++ tables_1
theorem lw_privs_ok : ∀ q ∈ lw_privs, lw_okq q := lw_r1
end
section
/-! THE MATHEMATICS: counting, sorted rows, orders by the greatest; what both sides answer. No machine here. -/
theorem qm_le_refl (a : Int32) : a ≤ a := by rw [Int32.le_iff_toInt_le]; exact Int.le_refl _
theorem qm_le_trans {a b c : Int32} (h : a ≤ b) (k : b ≤ c) : a ≤ c := by rw [Int32.le_iff_toInt_le] at *; exact Int.le_trans h k
theorem qm_lt_le {a b : Int32} (h : a < b) : a ≤ b := by rw [Int32.le_iff_toInt_le]; rw [Int32.lt_iff_toInt_lt] at h; omega
theorem qm_nle {a b : Int32} (h : ¬ a ≤ b) : b < a := by rw [Int32.le_iff_toInt_le] at h; rw [Int32.lt_iff_toInt_lt]; omega
theorem qm_nlt {a b : Int32} (h : ¬ a < b) : b ≤ a := by rw [Int32.lt_iff_toInt_lt] at h; rw [Int32.le_iff_toInt_le]; omega
theorem qm_le_lt {a b c : Int32} (h : a ≤ b) (k : b < c) : a < c := by rw [Int32.le_iff_toInt_le] at h; rw [Int32.lt_iff_toInt_lt] at *; omega
theorem qm_lt_ne {a b : Int32} (h : a < b) : ¬ a = b := by intro e; rw [Int32.lt_iff_toInt_lt, e] at h; omega
theorem qm_tri (a b : Int32) : a < b ∨ a = b ∨ b < a := by
  rw [Int32.lt_iff_toInt_lt, Int32.lt_iff_toInt_lt, ← Int32.toInt_inj]; omega
/-- how often v stands among f 0 .. f (n-1) -/
def qm_cnt {α : Type} [DecidableEq α] (f : Nat → α) : Nat → α → Nat
  | 0, _ => 0
  | n + 1, v => qm_cnt f n v + (if f n = v then 1 else 0)
theorem qm_cnt_congr {α : Type} [DecidableEq α] {f g : Nat → α} {v : α} : ∀ {n : Nat}, (∀ k, k < n → f k = g k) → qm_cnt f n v = qm_cnt g n v
  | 0, _ => rfl
  | n + 1, h => by
    simp only [qm_cnt]
    rw [qm_cnt_congr (n := n) (fun k hk => h k (by omega)), h n (by omega)]
theorem qm_cnt_add {α : Type} [DecidableEq α] (f : Nat → α) (a : Nat) (v : α) : ∀ b, qm_cnt f (a + b) v = qm_cnt f a v + qm_cnt (fun k => f (a + k)) b v
  | 0 => rfl
  | b + 1 => by
    show qm_cnt f (a + b) v + (if f (a + b) = v then 1 else 0) = qm_cnt f a v + (qm_cnt (fun k => f (a + k)) b v + (if f (a + b) = v then 1 else 0))
    rw [qm_cnt_add f a v b, Nat.add_assoc]
theorem qm_cnt_pos {α : Type} [DecidableEq α] {f : Nat → α} {v : α} : ∀ {n : Nat}, 0 < qm_cnt f n v → ∃ k, k < n ∧ f k = v
  | 0, h => absurd h (Nat.lt_irrefl 0)
  | n + 1, h => by
    by_cases e : f n = v
    · exact ⟨n, by omega, e⟩
    · have h2 : 0 < qm_cnt f n v := by
        have h3 : qm_cnt f (n + 1) v = qm_cnt f n v + 0 := by show _ + (if f n = v then 1 else 0) = _; rw [if_neg e]
        omega
      obtain ⟨k, a, b⟩ := qm_cnt_pos h2
      exact ⟨k, by omega, b⟩
theorem qm_cnt_of {α : Type} [DecidableEq α] {f : Nat → α} {v : α} : ∀ {n k : Nat}, k < n → f k = v → 0 < qm_cnt f n v
  | 0, k, h, _ => absurd h (Nat.not_lt_zero k)
  | n + 1, k, h, e => by
    show 0 < qm_cnt f n v + (if f n = v then 1 else 0)
    by_cases q : k = n
    · subst q; rw [if_pos e]; omega
    · have := qm_cnt_of (n := n) (k := k) (by omega) e
      omega
theorem qm_cnt_zero {α : Type} [DecidableEq α] {f : Nat → α} {v : α} {n : Nat} (h : ∀ k, k < n → ¬ f k = v) : qm_cnt f n v = 0 := by
  rcases Nat.eq_zero_or_pos (qm_cnt f n v) with q | q
  · exact q
  · obtain ⟨k, a, b⟩ := qm_cnt_pos q; exact absurd b (h k a)
/-- a map that keeps the elements apart keeps the counts -/
theorem qm_cnt_map {α β : Type} [DecidableEq α] [DecidableEq β] {f : Nat → α} {g : Nat → β} {v : α} {w : β} : ∀ {n : Nat}, (∀ k, k < n → (f k = v ↔ g k = w)) → qm_cnt f n v = qm_cnt g n w
  | 0, _ => rfl
  | n + 1, h => by
    show qm_cnt f n v + (if f n = v then 1 else 0) = qm_cnt g n w + (if g n = w then 1 else 0)
    rw [qm_cnt_map (n := n) (fun k hk => h k (by omega))]
    by_cases e : f n = v
    · rw [if_pos e, if_pos ((h n (by omega)).mp e)]
    · rw [if_neg e, if_neg (fun q => e ((h n (by omega)).mpr q))]
/-- one comes in at j -/
theorem qm_ins_cnt {α : Type} [DecidableEq α] {f u : Nat → α} {n j : Nat} {x : α} (hj : j ≤ n) (h1 : ∀ k, k < j → u k = f k) (h2 : u j = x) (h3 : ∀ k, j ≤ k → k < n → u (k + 1) = f k) (v : α) : qm_cnt u (n + 1) v = qm_cnt f n v + (if x = v then 1 else 0) := by
  obtain ⟨d, rfl⟩ : ∃ d, n = j + d := ⟨n - j, by omega⟩
  have e1 : qm_cnt u (j + 1 + d) v = qm_cnt u (j + 1) v + qm_cnt (fun k => u (j + 1 + k)) d v := qm_cnt_add u (j + 1) v d
  have e2 : qm_cnt u (j + 1) v = qm_cnt f j v + (if x = v then 1 else 0) := by
    show qm_cnt u j v + (if u j = v then 1 else 0) = _
    rw [h2, qm_cnt_congr (g := f) h1]
  have e3 : qm_cnt (fun k => u (j + 1 + k)) d v = qm_cnt (fun k => f (j + k)) d v := qm_cnt_congr (fun k hk => by
    show u (j + 1 + k) = f (j + k)
    have q := h3 (j + k) (by omega) (by omega)
    rw [show j + 1 + k = j + k + 1 by omega]; exact q)
  rw [show j + d + 1 = j + 1 + d by omega, e1, e2, e3, qm_cnt_add f j v d, Nat.add_right_comm]
/-- from the least to the greatest -/
def qm_srt (f : Nat → Int32) (n : Nat) : Prop := ∀ i j, i ≤ j → j < n → f i ≤ f j
theorem qm_srt_0 (f : Nat → Int32) : qm_srt f 0 := fun _ j _ h => absurd h (Nat.not_lt_zero j)
theorem qm_srt_congr {f g : Nat → Int32} {n : Nat} (h : qm_srt f n) (e : ∀ k, k < n → g k = f k) : qm_srt g n := fun i j a b => by
  rw [e i (by omega), e j b]; exact h i j a b
/-- u is f with x put in its place -/
def qm_ins (f : Nat → Int32) (n : Nat) (x : Int32) (u : Nat → Int32) : Prop := ∃ j, j ≤ n ∧ (∀ k, k < j → u k = f k) ∧ u j = x ∧ (∀ k, j ≤ k → k < n → u (k + 1) = f k) ∧ (0 < j → f (j - 1) ≤ x) ∧ (j < n → x ≤ f j)
theorem qm_ins_srt {f u : Nat → Int32} {n : Nat} {x : Int32} (h : qm_ins f n x u) (hs : qm_srt f n) : qm_srt u (n + 1) := by
  obtain ⟨j, hj, h1, h2, h3, h4, h5⟩ := h
  intro a b hab hb
  rcases Nat.lt_trichotomy a j with ha | ha | ha
  · rw [h1 a ha]
    rcases Nat.lt_trichotomy b j with hb1 | hb1 | hb1
    · rw [h1 b hb1]; exact hs a b hab (by omega)
    · rw [hb1, h2]; exact qm_le_trans (hs a (j - 1) (by omega) (by omega)) (h4 (by omega))
    · obtain ⟨c, hc⟩ : ∃ c, b = c + 1 := ⟨b - 1, by omega⟩
      rw [hc, h3 c (by omega) (by omega)]; exact hs a c (by omega) (by omega)
  · rw [ha, h2]
    rcases Nat.lt_or_ge j b with hb1 | hb1
    · obtain ⟨c, hc⟩ : ∃ c, b = c + 1 := ⟨b - 1, by omega⟩
      rw [hc, h3 c (by omega) (by omega)]; exact qm_le_trans (h5 (by omega)) (hs j c (by omega) (by omega))
    · rw [show b = j by omega, h2]; exact qm_le_refl _
  · obtain ⟨c, hc⟩ : ∃ c, b = c + 1 := ⟨b - 1, by omega⟩
    obtain ⟨d, hd⟩ : ∃ d, a = d + 1 := ⟨a - 1, by omega⟩
    rw [hc, hd, h3 c (by omega) (by omega), h3 d (by omega) (by omega)]; exact hs d c (by omega) (by omega)
theorem qm_ins_c {f u : Nat → Int32} {n : Nat} {x : Int32} (h : qm_ins f n x u) (v : Int32) : qm_cnt u (n + 1) v = qm_cnt f n v + (if x = v then 1 else 0) := by
  obtain ⟨j, hj, h1, h2, h3, -, -⟩ := h
  exact qm_ins_cnt hj h1 h2 h3 v
/-- u is f without the first x -/
def qm_del (f : Nat → Int32) (n : Nat) (x : Int32) (u : Nat → Int32) : Prop := ∃ j, j ≤ n ∧ f j = x ∧ (∀ k, k < j → u k = f k) ∧ (∀ k, j ≤ k → k < n → u k = f (k + 1))
theorem qm_del_srt {f u : Nat → Int32} {n : Nat} {x : Int32} (h : qm_del f n x u) (hs : qm_srt f (n + 1)) : qm_srt u n := by
  obtain ⟨j, hj, h1, h2, h3⟩ := h
  intro a b hab hb
  rcases Nat.lt_or_ge a j with ha | ha
  · rw [h2 a ha]
    rcases Nat.lt_or_ge b j with hb1 | hb1
    · rw [h2 b hb1]; exact hs a b hab (by omega)
    · rw [h3 b hb1 hb]; exact hs a (b + 1) (by omega) (by omega)
  · rw [h3 a ha (by omega), h3 b (by omega) hb]; exact hs (a + 1) (b + 1) (by omega) (by omega)
theorem qm_del_c {f u : Nat → Int32} {n : Nat} {x : Int32} (h : qm_del f n x u) (v : Int32) : qm_cnt f (n + 1) v = qm_cnt u n v + (if x = v then 1 else 0) := by
  obtain ⟨j, hj, h1, h2, h3⟩ := h
  exact qm_ins_cnt hj (fun k hk => (h2 k hk).symm) h1 (fun k a b => (h3 k a b).symm) v
/-- f, in order, holds what g holds -/
def qm_of (f g : Nat → Int32) (n : Nat) : Prop := qm_srt f n ∧ ∀ v, qm_cnt f n v = qm_cnt g n v
theorem qm_of_ins {f g u : Nat → Int32} {n : Nat} (h : qm_of f g n) (hi : qm_ins f n (g n) u) : qm_of u g (n + 1) :=
  ⟨qm_ins_srt hi h.1, fun v => by rw [qm_ins_c hi v, h.2 v]; rfl⟩
theorem qm_of_del {f g u : Nat → Int32} {n : Nat} (h : qm_of f g (n + 1)) (hi : qm_del f n (g n) u) : qm_of u g n :=
  ⟨qm_del_srt hi h.1, fun v => by
    have a := qm_del_c hi v
    have b : qm_cnt f (n + 1) v = qm_cnt g n v + (if g n = v then 1 else 0) := h.2 v
    omega⟩
theorem qm_of_congr {f g k : Nat → Int32} {n : Nat} (h : qm_of f g n) (e : ∀ j, j < n → g j = k j) : qm_of f k n :=
  ⟨h.1, fun v => by rw [h.2 v]; exact qm_cnt_congr e⟩
theorem qm_of_has {f g : Nat → Int32} {n k : Nat} (h : qm_of f g n) (hk : k < n) : ∃ j, j < n ∧ f j = g k := by
  have a : 0 < qm_cnt f n (g k) := by rw [h.2]; exact qm_cnt_of hk rfl
  exact qm_cnt_pos a
/-- the order of two bags by their greatest: what is more is greater -/
def qm_ord {α : Type} (lt : α → α → Prop) (cA cB : α → Nat) (r : Int32) : Prop :=
  (r = nI 0 ∧ ∀ v, cA v = cB v) ∨ (r = nI 1 ∧ ∃ v, (∀ u, lt v u → cA u = cB u) ∧ cB v < cA v) ∨ (r = -1 ∧ ∃ v, (∀ u, lt v u → cA u = cB u) ∧ cA v < cB v)
theorem qm_ord_one {α : Type} {lt : α → α → Prop} (tri : ∀ a b, lt a b ∨ a = b ∨ lt b a) {cA cB : α → Nat} {r q : Int32} (h : qm_ord lt cA cB r) (k : qm_ord lt cA cB q) : r = q := by
  rcases h with ⟨e, a⟩ | ⟨e, v, a, b⟩ | ⟨e, v, a, b⟩ <;> rcases k with ⟨e2, a2⟩ | ⟨e2, v2, a2, b2⟩ | ⟨e2, v2, a2, b2⟩
  · rw [e, e2]
  · have := a v2; omega
  · have := a v2; omega
  · have := a2 v; omega
  · rw [e, e2]
  · rcases tri v v2 with q | q | q
    · have := a v2 q; omega
    · subst q; omega
    · have := a2 v q; omega
  · have := a2 v; omega
  · rcases tri v v2 with q | q | q
    · have := a v2 q; omega
    · subst q; omega
    · have := a2 v q; omega
  · rw [e, e2]
/-- two rows in order, alike in their last i: the tops of both are one -/
theorem qm_top {f g : Nat → Int32} {n i : Nat} (hi : i ≤ n) (he : ∀ k, n - i ≤ k → k < n → f k = g k) (v : Int32) (hf : ∀ k, k < n - i → ¬ f k = v) (hg : ∀ k, k < n - i → ¬ g k = v) : qm_cnt f n v = qm_cnt g n v := by
  obtain ⟨d, hd⟩ : ∃ d, n = d + i := ⟨n - i, by omega⟩
  subst hd
  rw [qm_cnt_add f d v i, qm_cnt_add g d v i, qm_cnt_zero (fun k hk => hf k (by omega)), qm_cnt_zero (fun k hk => hg k (by omega))]
  rw [qm_cnt_congr (g := fun k => g (d + k)) (fun k hk => he (d + k) (by omega) (by omega))]
/-- the first place from above at which two rows in order differ -/
theorem qm_diff {f g : Nat → Int32} {n i : Nat} (hf : qm_srt f n) (hg : qm_srt g n) (hi : i < n) (he : ∀ k, n - i ≤ k → k < n → f k = g k) (hl : f (n - (i + 1)) < g (n - (i + 1))) :
    ∃ v, (∀ u, v < u → qm_cnt f n u = qm_cnt g n u) ∧ qm_cnt f n v < qm_cnt g n v := by
  have a1 : ∀ k, k < n - i → f k < g (n - (i + 1)) := fun k hk => qm_le_lt (hf k (n - (i + 1)) (by omega) (by omega)) hl
  refine ⟨g (n - (i + 1)), fun u hu => ?_, ?_⟩
  · refine qm_top (i := i) (by omega) he u (fun k hk => ?_) (fun k hk => ?_)
    · intro e
      have q := a1 k hk
      rw [e, Int32.lt_iff_toInt_lt] at q
      rw [Int32.lt_iff_toInt_lt] at hu
      omega
    · exact qm_lt_ne (qm_le_lt (hg k (n - (i + 1)) (by omega) (by omega)) hu)
  · obtain ⟨d, hd⟩ : ∃ d, n = d + i := ⟨n - i, by omega⟩
    have ed : d + i - (i + 1) = d - 1 := by omega
    subst hd
    rw [ed] at *
    rw [qm_cnt_add f d _ i, qm_cnt_add g d _ i, qm_cnt_zero (f := f) (n := d) (fun k hk => qm_lt_ne (a1 k (by omega)))]
    rw [qm_cnt_congr (f := fun k => f (d + k)) (g := fun k => g (d + k)) (fun k hk => he (d + k) (by omega) (by omega))]
    have p : 0 < qm_cnt g d (g (d - 1)) := qm_cnt_of (k := d - 1) (by omega) rfl
    omega
/-- the sign of an order -/
def qm_sg (x y : Int64) (r : Int32) : Prop := (x < y ∧ r = -1) ∨ (x = y ∧ r = nI 0) ∨ (y < x ∧ r = nI 1)
theorem qm_sg_0 {x y : Int64} {r : Int32} (h : qm_sg x y r) (e : r = 0) : x = y := by
  rcases h with ⟨-, h⟩ | ⟨h, -⟩ | ⟨-, h⟩
  · rw [h] at e; exact absurd e (by decide)
  · exact h
  · rw [h] at e; exact absurd e (by decide)
theorem qm_sg_one {x y : Int64} {r q : Int32} (h : qm_sg x y r) (k : qm_sg x y q) : r = q := by
  rcases h with ⟨a, e⟩ | ⟨a, e⟩ | ⟨a, e⟩ <;> rcases k with ⟨b, e2⟩ | ⟨b, e2⟩ | ⟨b, e2⟩ <;> first | (exfalso; simp only [Int64.lt_iff_toInt_lt, ← Int64.toInt_inj] at a b; omega) | (rw [e, e2]; done)
theorem qm_l_inj {a b : Int32} (h : a.toInt64 = b.toInt64) : a = b := by
  have q := congrArg Int64.toInt h
  rw [Int32.toInt_toInt64, Int32.toInt_toInt64] at q
  exact Int32.toInt_inj.mp q
theorem qm_l_lt {a b : Int32} (h : a.toInt64 < b.toInt64) : a < b := by
  rw [Int64.lt_iff_toInt_lt, Int32.toInt_toInt64, Int32.toInt_toInt64] at h
  rw [Int32.lt_iff_toInt_lt]; exact h
theorem qm_ord_of {f g : Nat → Int32} {n i : Nat} {r : Int32} (hf : qm_srt f n) (hg : qm_srt g n) (hi : i < n) (he : ∀ k, n - i ≤ k → k < n → f k = g k) (h : qm_sg (f (n - (i + 1))).toInt64 (g (n - (i + 1))).toInt64 r) (hr : ¬ r = 0) : qm_ord (fun a b : Int32 => a < b) (qm_cnt f n) (qm_cnt g n) r := by
  rcases h with ⟨a, e⟩ | ⟨a, e⟩ | ⟨a, e⟩
  · exact Or.inr (Or.inr ⟨e, qm_diff hf hg hi he (qm_l_lt a)⟩)
  · rw [e] at hr; exact absurd nI_0 hr
  · obtain ⟨v, p, q⟩ := qm_diff hg hf hi (fun k x y => (he k x y).symm) (qm_l_lt a)
    exact Or.inr (Or.inl ⟨e, v, fun u hu => (p u hu).symm, q⟩)
/-- a number between two is a Nat's -/
theorem qm_within {x : Int32} {a b : Nat} (h : nI a ≤ x ∧ x ≤ nI b) (ha : a < 2 ^ 31) (hb : b < 2 ^ 31) : ∃ k, a ≤ k ∧ k ≤ b ∧ x = nI k := by
  have h1 := h.1
  have h2 := h.2
  rw [Int32.le_iff_toInt_le, nI_toInt ha] at h1
  rw [Int32.le_iff_toInt_le, nI_toInt hb] at h2
  refine ⟨x.toInt.toNat, by omega, by omega, ?_⟩
  rw [← Int32.toInt_inj, nI_toInt (by omega)]; omega
theorem qm_below {x : Int32} {b : Nat} (h : ¬ x < 0 ∧ x < nI b) (hb : b < 2 ^ 31) : ∃ k, k < b ∧ x = nI k := by
  have h1 := h.1
  have h2 := h.2
  rw [Int32.lt_iff_toInt_lt, Int32.toInt_zero] at h1
  rw [Int32.lt_iff_toInt_lt, nI_toInt hb] at h2
  refine ⟨x.toInt.toNat, by omega, ?_⟩
  rw [← Int32.toInt_inj, nI_toInt (by omega)]; omega
theorem qm_lt_nle {a b : Int32} (h : a < b) : ¬ b ≤ a := by rw [Int32.lt_iff_toInt_lt] at h; rw [Int32.le_iff_toInt_le]; omega
theorem qm_next {f : Nat → Int32} {n j : Nat} {x : Int32} (hf : ∃ k, k < n + 1 ∧ f k = x) (h1 : ∀ k, k < j → ¬ f k = x) (cj : ¬ f j = x) : j + 1 ≤ n := by
  obtain ⟨k, a, b⟩ := hf
  rcases Nat.lt_trichotomy k j with z | z | z
  · exact absurd b (h1 k z)
  · rw [z] at b; exact absurd b cj
  · omega
theorem qm_till {f : Nat → Int32} {j : Nat} {x : Int32} (h1 : ∀ k, k < j → ¬ f k = x) (cj : ¬ f j = x) : ∀ k, k < j + 1 → ¬ f k = x := fun k hk => by
  rcases Nat.lt_or_ge k j with z | z
  · exact h1 k z
  · rw [show k = j by omega]; exact cj
theorem qm_down {f g : Nat → Int32} {n i : Nat} (he : ∀ k, n - i ≤ k → k < n → f k = g k) (e : f (n - (i + 1)) = g (n - (i + 1))) (hi : i < n) : ∀ k, n - (i + 1) ≤ k → k < n → f k = g k := fun k a b => by
  rcases Nat.lt_or_ge k (n - i) with z | z
  · rw [show k = n - (i + 1) by omega]; exact e
  · exact he k z b
theorem qm_le_nlt0 {a : Int32} (h : 0 ≤ a) : ¬ a < 0 := by rw [Int32.le_iff_toInt_le] at h; rw [Int32.lt_iff_toInt_lt]; omega
theorem qm_lt_nle0 {a : Int32} (h : a < 0) : ¬ nI 0 ≤ a := by rw [nI_0]; exact qm_lt_nle h
end
section
/-! WRAPPERS: rows of the kit in the words of this claim: numbers by their Nat, arrays by a Nat place, worlds by one G. -/
/-- the classes' numbers and slots, and the numbers of the array classes int[], long[], boolean[], Row[] -/
abbrev qG : Type := va_G × ClassId × ClassId × ClassId × ClassId
abbrev qTy (G : qG) : List (ClassId × FieldType) := [(G.2.1, .int), (G.2.2.1, .long), (G.2.2.2.1, .boolean), (G.2.2.2.2, .object "GradeRows$Row")]
/-- a rule's number one up, 0 for none -/
def nM (n : Nat) : Int32 := nI n - 1
theorem nM_0 : nM 0 = -1 := by decide
theorem nM_s (n : Nat) : nM (n + 1) = nI n := nI_pred n
theorem nM_p {n : Nat} (h : 0 < n) : nM n = nI (n - 1) := by
  obtain ⟨k, rfl⟩ : ∃ k, n = k + 1 := ⟨n - 1, by omega⟩
  exact nM_s k
theorem nM_toInt {n : Nat} (h : n < 2 ^ 31) : (nM n).toInt = (n : Int) - 1 := by
  rcases Nat.eq_zero_or_pos n with q | q
  · subst q; rw [nM_0]; decide
  · rw [nM_p q, nI_toInt (by omega)]; omega
theorem nM_eq {a b : Nat} (ha : a < 2 ^ 31) (hb : b < 2 ^ 31) : nM a = nM b ↔ a = b := by
  rw [← Int32.toInt_inj, nM_toInt ha, nM_toInt hb]; omega
theorem nM_eq1 {a : Nat} (ha : a < 2 ^ 31) : nM a = -1 ↔ a = 0 := by
  rw [← nM_0]; exact nM_eq ha (by omega)
theorem nM_eqI {a b : Nat} (ha : a < 2 ^ 31) (hb : b < 2 ^ 31) : nM a = nI b ↔ a = b + 1 := by
  rw [← nM_s b, ← Int32.toInt_inj, nM_toInt ha]
  rw [nM_s b, nI_toInt hb]; omega
/-- a long one up, 0 for -1 -/
def lM (n : Nat) : Int64 := lN n - 1
theorem lM_toInt {n : Nat} (h : n < 2 ^ 31) : (lM n).toInt = (n : Int) - 1 := by
  rcases Nat.eq_zero_or_pos n with q | q
  · subst q; decide
  · obtain ⟨k, rfl⟩ : ∃ k, n = k + 1 := ⟨n - 1, by omega⟩
    have e : lM (k + 1) = lN k := by unfold lM; rw [← lN_1 k]; exact Int64.add_sub_cancel _ _
    rw [e, lN_toInt (by omega)]; omega
theorem lM_0 : lM 0 = -1 := by decide
theorem lM_s (n : Nat) : lM (n + 1) = lN n := by unfold lM; rw [← lN_1 n]; exact Int64.add_sub_cancel _ _
theorem lM_lt {a b : Nat} (ha : a < 2 ^ 31) (hb : b < 2 ^ 31) : lM a < lM b ↔ a < b := by
  rw [Int64.lt_iff_toInt_lt, lM_toInt ha, lM_toInt hb]; omega
theorem lM_le {a b : Nat} (ha : a < 2 ^ 31) (hb : b < 2 ^ 31) : lM a ≤ lM b ↔ a ≤ b := by
  rw [Int64.le_iff_toInt_le, lM_toInt ha, lM_toInt hb]; omega
theorem lM_eq {a b : Nat} (ha : a < 2 ^ 31) (hb : b < 2 ^ 31) : lM a = lM b ↔ a = b := by
  rw [← Int64.toInt_inj, lM_toInt ha, lM_toInt hb]; omega
theorem z0lt {a : Nat} (h : a < 2 ^ 31) : nI a < 0 ↔ a < 0 := by rw [← nI_0]; exact nI_ltI h (by omega)
theorem z0le {a : Nat} (h : a < 2 ^ 31) : nI a ≤ 0 ↔ a ≤ 0 := by rw [← nI_0]; exact nI_leI h (by omega)
theorem z0ge {a : Nat} (h : a < 2 ^ 31) : 0 ≤ nI a ↔ 0 ≤ a := by rw [← nI_0]; exact nI_leI (by omega) h
theorem z0gt {a : Nat} (h : a < 2 ^ 31) : 0 < nI a ↔ 0 < a := by rw [← nI_0]; exact nI_ltI (by omega) h
theorem z0eq {a : Nat} (h : a < 2 ^ 31) : nI a = 0 ↔ a = 0 := by rw [← nI_0]; exact nI_eq h (by omega)
/-- a truth value, not 0 -/
theorem qk_ite0 {P : Prop} [Decidable P] : (¬ (if P then nI 1 else nI 0) = 0) ↔ P := by
  by_cases h : P
  · rw [if_pos h]; exact ⟨fun _ => h, fun _ => by decide⟩
  · rw [if_neg h]; exact ⟨fun q => absurd nI_0 q, fun q => absurd q h⟩
section QW
variable {p : Program} {l : Launch} {e : Env} {R : Room} {s : State} {m : MethodId} {args : Array Value} {below : List Frame} {meth : Method} {c : Code} {H : Heap} {locs : List Loc} {cells slots : Nat} {Q : State → Prop}
variable {cc : ByteArray} {pc : Nat} {ls : Array Slot} {rest : List Value} {D : va_G} {cl : List vw_C} {A : Nat → Prop} {a : Nat} {tys : List (ClassId × FieldType)} {ws : va_W} {H0 : Heap}
theorem qk_topi {x t : Int32} (h : x = t) (k : W p l e R s m args below meth c H locs cells slots Q (F0 m pc ls (.int t :: rest))) : W p l e R s m args below meth c H locs cells slots Q (F0 m pc ls (.int x :: rest)) := by subst h; exact k
theorem qk_topl {x t : Int64} (h : x = t) (k : W p l e R s m args below meth c H locs cells slots Q (F0 m pc ls (.long t :: rest))) : W p l e R s m args below meth c H locs cells slots Q (F0 m pc ls (.long x :: rest)) := by subst h; exact k
theorem qk_iald (hexec : p.tables.exec = Jvm.exec) (hb : c.code = cc) (hK : va_K D cl tys s) (hP : va_P D cl ws H) (q0 t0 : Nat) {cA : ClassId} {n : Nat} {f : Nat → Int32} (ha : ws[q0]? = some (a, .inl (cA, n, .inl f))) (ht : tys[t0]? = some (cA, .int)) {i : Nat} (hi : i < n) (hn : n < 2 ^ 31) {v : Int32} (hv : f i = v) (hdg : decode cc pc = .ok (.iaload, 1))
    (kk : W p l e R s m args below meth c H locs cells slots Q (F0 m (pc + 1) ls (.int v :: rest))) : W p l e R s m args below meth c H locs cells slots Q (F0 m pc ls (.int (nI i) :: .ref a :: rest)) := by
  refine va_iald hexec hb hK hP q0 t0 ha ht (vp_in_nI hi hn) hdg ?_
  rw [nI_clamp (by omega), hv]; exact kk
theorem qk_zald (hexec : p.tables.exec = Jvm.exec) (hb : c.code = cc) (hK : va_K D cl tys s) (hP : va_P D cl ws H) (q0 t0 : Nat) {cA : ClassId} {n : Nat} {f : Nat → Int32} (ha : ws[q0]? = some (a, .inl (cA, n, .inl f))) (ht : tys[t0]? = some (cA, .boolean)) {i : Nat} (hi : i < n) (hn : n < 2 ^ 31) {v : Int32} (hv : f i = v) (hdg : decode cc pc = .ok (.baload, 1))
    (kk : W p l e R s m args below meth c H locs cells slots Q (F0 m (pc + 1) ls (.int v :: rest))) : W p l e R s m args below meth c H locs cells slots Q (F0 m pc ls (.int (nI i) :: .ref a :: rest)) := by
  refine va_zald hexec hb hK hP q0 t0 ha ht (vp_in_nI hi hn) hdg ?_
  rw [nI_clamp (by omega), hv]; exact kk
theorem qk_lald (hexec : p.tables.exec = Jvm.exec) (hb : c.code = cc) (hK : va_K D cl tys s) (hP : va_P D cl ws H) (q0 t0 : Nat) {cA : ClassId} {n : Nat} {f : Nat → Int64} (ha : ws[q0]? = some (a, .inl (cA, n, .inr (.inl f)))) (ht : tys[t0]? = some (cA, .long)) {i : Nat} (hi : i < n) (hn : n < 2 ^ 31) {v : Int64} (hv : f i = v) (hdg : decode cc pc = .ok (.laload, 1))
    (kk : W p l e R s m args below meth c H locs cells slots Q (F0 m (pc + 1) ls (.long v :: rest))) : W p l e R s m args below meth c H locs cells slots Q (F0 m pc ls (.int (nI i) :: .ref a :: rest)) := by
  refine va_lald hexec hb hK hP q0 t0 ha ht (vp_in_nI hi hn) hdg ?_
  rw [nI_clamp (by omega), hv]; exact kk
theorem qk_aald (hexec : p.tables.exec = Jvm.exec) (hb : c.code = cc) (hK : va_K D cl tys s) (hP : va_P D cl ws H) (q0 t0 : Nat) {cA : ClassId} {C : String} {n : Nat} {f : Nat → Option Nat} (ha : ws[q0]? = some (a, .inl (cA, n, .inr (.inr (.inr (.inr f)))))) (ht : tys[t0]? = some (cA, .object C)) {i : Nat} (hi : i < n) (hn : n < 2 ^ 31) {v : Nat} (hv : f i = some v) (hdg : decode cc pc = .ok (.aaload, 1))
    (kk : W p l e R s m args below meth c H locs cells slots Q (F0 m (pc + 1) ls (.ref v :: rest))) : W p l e R s m args below meth c H locs cells slots Q (F0 m pc ls (.int (nI i) :: .ref a :: rest)) := by
  refine va_aldq hexec hb hK hP q0 t0 ha ht (vp_in_nI hi hn) hdg ?_
  rw [nI_clamp (by omega), hv]; exact kk
theorem qk_iast (hexec : p.tables.exec = Jvm.exec) (hb : c.code = cc) (hK : va_K D cl tys s) (hP : va_P D cl ws H) (hD : va_D A ws) (hS : va_S A H0 H locs) (q0 t0 : Nat) {cA : ClassId} {n : Nat} {f : Nat → Int32} (ha : ws[q0]? = some (a, .inl (cA, n, .inl f))) (ht : tys[t0]? = some (cA, .int)) {i : Nat} {x : Int32} (hi : i < n) (hn : n < 2 ^ 31) (hdg : decode cc pc = .ok (.iastore, 1))
    (kk : ∀ (H1 : Heap) (locs1 : List Loc), va_P D cl (ws.set q0 (a, .inl (cA, n, .inl (upd f i x)))) H1 → va_D A (ws.set q0 (a, .inl (cA, n, .inl (upd f i x)))) → va_S A H0 H1 locs1 → W p l e R s m args below meth c H1 locs1 cells slots Q (F0 m (pc + 1) ls rest)) : W p l e R s m args below meth c H locs cells slots Q (F0 m pc ls (.int x :: .int (nI i) :: .ref a :: rest)) := by
  have e : (nI i).toNatClampNeg = i := nI_clamp (by omega)
  refine va_iast hexec hb hK hP hD hS q0 t0 ha ht (vp_in_nI hi hn) hdg ?_
  rw [e]; exact kk
theorem qk_zast (hexec : p.tables.exec = Jvm.exec) (hb : c.code = cc) (hK : va_K D cl tys s) (hP : va_P D cl ws H) (hD : va_D A ws) (hS : va_S A H0 H locs) (q0 t0 : Nat) {cA : ClassId} {n : Nat} {f : Nat → Int32} (ha : ws[q0]? = some (a, .inl (cA, n, .inl f))) (ht : tys[t0]? = some (cA, .boolean)) {i : Nat} {x : Int32} (hx : vp_nar .boolean x = x) (hi : i < n) (hn : n < 2 ^ 31) (hdg : decode cc pc = .ok (.bastore, 1))
    (kk : ∀ (H1 : Heap) (locs1 : List Loc), va_P D cl (ws.set q0 (a, .inl (cA, n, .inl (upd f i x)))) H1 → va_D A (ws.set q0 (a, .inl (cA, n, .inl (upd f i x)))) → va_S A H0 H1 locs1 → W p l e R s m args below meth c H1 locs1 cells slots Q (F0 m (pc + 1) ls rest)) : W p l e R s m args below meth c H locs cells slots Q (F0 m pc ls (.int x :: .int (nI i) :: .ref a :: rest)) := by
  have e : (nI i).toNatClampNeg = i := nI_clamp (by omega)
  refine va_zast hexec hb hK hP hD hS q0 t0 ha ht (vp_in_nI hi hn) hdg ?_
  rw [e, hx]; exact kk
theorem qk_last (hexec : p.tables.exec = Jvm.exec) (hb : c.code = cc) (hK : va_K D cl tys s) (hP : va_P D cl ws H) (hD : va_D A ws) (hS : va_S A H0 H locs) (q0 t0 : Nat) {cA : ClassId} {n : Nat} {f : Nat → Int64} (ha : ws[q0]? = some (a, .inl (cA, n, .inr (.inl f)))) (ht : tys[t0]? = some (cA, .long)) {i : Nat} {x : Int64} (hi : i < n) (hn : n < 2 ^ 31) (hdg : decode cc pc = .ok (.lastore, 1))
    (kk : ∀ (H1 : Heap) (locs1 : List Loc), va_P D cl (ws.set q0 (a, .inl (cA, n, .inr (.inl (vp_updL f i x))))) H1 → va_D A (ws.set q0 (a, .inl (cA, n, .inr (.inl (vp_updL f i x))))) → va_S A H0 H1 locs1 → W p l e R s m args below meth c H1 locs1 cells slots Q (F0 m (pc + 1) ls rest)) : W p l e R s m args below meth c H locs cells slots Q (F0 m pc ls (.long x :: .int (nI i) :: .ref a :: rest)) := by
  have e : (nI i).toNatClampNeg = i := nI_clamp (by omega)
  refine va_last hexec hb hK hP hD hS q0 t0 ha ht (vp_in_nI hi hn) hdg ?_
  rw [e]; exact kk
end QW
/-- cells out of a world, by membership -/
theorem qk_mem {D : va_G} {cl : List vw_C} {ws wc : va_W} {H : Heap} (h : va_P D cl ws H) (hm : ∀ q ∈ wc, q ∈ ws) : va_P D cl wc H := fun k q hk => by
  obtain ⟨j, hj⟩ := List.getElem?_of_mem (hm q (List.mem_of_getElem? hk))
  exact h j q hj
/-- one array class a type -/
theorem qk_one {D : va_G} {cl : List vw_C} {tys : List (ClassId × FieldType)} {s : State} (hK : va_K D cl tys s) {i j : Nat} {c1 c2 : ClassId} {ty : FieldType} (h1 : tys[i]? = some (c1, ty)) (h2 : tys[j]? = some (c2, ty)) : c1 = c2 := by
  have a := (hK.2 i _ h1).2
  have b := (hK.2 j _ h2).2
  unfold va_RA at a b
  cases ty <;> simp only at a b
  all_goals first
    | exact Option.some.inj (a.symm.trans b)
    | (obtain ⟨_, _, _, _, _, a⟩ := a; obtain ⟨_, _, _, _, _, b⟩ := b; exact Option.some.inj (a.symm.trans b))
end
section
/-! WHAT THE CALLS ANSWER, of numbers alone. A step is (r, a, b): by rule r - 1 at place a with width b; (0, d, 0) is a guess of depth d. -/
abbrev qS : Type := Nat × Nat × Nat
def qm_rs (s : Nat → qS) : Nat → Nat := fun j => (s j).1
/-- what a step costs -/
def qm_cost (w x : Nat → Nat) (s : Nat → qS) (k : Nat) : Nat :=
  if (s k).1 = 0 then (if 0 < k ∧ (s (k - 1)).1 = 0 then 2000 * (s k).2.1 else 1000 * (s k).2.1)
  else w ((s k).1 - 1) * (12 - (s k).2.2) / 4 + (if qm_cnt (qm_rs s) k (s k).1 = 0 then x ((s k).1 - 1) else 0)
def qm_okS (nr : Nat) (z : qS) : Prop := (z.1 = 0 ∧ 1 ≤ z.2.1 ∧ z.2.1 ≤ 20 ∧ z.2.2 = 0) ∨ (1 ≤ z.1 ∧ z.1 ≤ nr ∧ z.2.1 ≤ 255 ∧ 1 ≤ z.2.2 ∧ z.2.2 ≤ 9)
def qm_okR (nr : Nat) (w x : Nat → Nat) : Prop := nr ≤ 40 ∧ ∀ i, i < nr → w i ≤ 10000 ∧ x i ≤ 100000
theorem qm_okS_mono {nr nr2 : Nat} {z : qS} (h : qm_okS nr z) (h2 : nr ≤ nr2) : qm_okS nr2 z := by
  rcases h with h | h
  · exact Or.inl h
  · exact Or.inr ⟨h.1, by omega, h.2.2⟩
theorem qm_w_le {nr : Nat} {w x : Nat → Nat} (hR : qm_okR nr w x) {r b : Nat} (h1 : 1 ≤ r) (h2 : r ≤ nr) : w (r - 1) * (12 - b) ≤ 120000 :=
  Nat.le_trans (Nat.mul_le_mul (hR.2 (r - 1) (by omega)).1 (show 12 - b ≤ 12 by omega)) (by decide)
theorem qm_cost_le {nr : Nat} {w x : Nat → Nat} {s : Nat → qS} {k : Nat} (hR : qm_okR nr w x) (hs : qm_okS nr (s k)) : qm_cost w x s k ≤ 130000 := by
  unfold qm_cost
  rcases hs with h | h
  · rw [if_pos h.1]
    split <;> omega
  · rw [if_neg (by omega)]
    have a : w ((s k).1 - 1) * (12 - (s k).2.2) / 4 ≤ 30000 := by
      have := qm_w_le hR (b := (s k).2.2) h.1 h.2.1
      omega
    have b := (hR.2 ((s k).1 - 1) (by omega)).2
    split <;> omega
theorem qm_cost_congr {nr : Nat} {w x w2 x2 : Nat → Nat} {s s2 : Nat → qS} {k : Nat} (hs : qm_okS nr (s k)) (hw : ∀ i, i < nr → w2 i = w i ∧ x2 i = x i) (he : ∀ j, j ≤ k → s2 j = s j) : qm_cost w2 x2 s2 k = qm_cost w x s k := by
  unfold qm_cost
  have e1 : qm_cnt (qm_rs s2) k (s k).1 = qm_cnt (qm_rs s) k (s k).1 := qm_cnt_congr (fun j hj => by unfold qm_rs; rw [he j (by omega)])
  rw [he k (Nat.le_refl k), he (k - 1) (by omega), e1]
  rcases hs with h | h
  · rw [if_pos h.1, if_pos h.1]
  · have e0 : ¬ (s k).1 = 0 := by omega
    rw [if_neg e0, if_neg e0, (hw ((s k).1 - 1) (by omega)).1, (hw ((s k).1 - 1) (by omega)).2]
def qm_sum (c : Nat → Nat) : Nat → Nat
  | 0 => 0
  | n + 1 => qm_sum c n + c n
theorem qm_sum_le {c : Nat → Nat} {B : Nat} : ∀ {n : Nat}, (∀ k, k < n → c k ≤ B) → qm_sum c n ≤ n * B
  | 0, _ => by simp [qm_sum]
  | n + 1, h => by
    have a := qm_sum_le (n := n) (fun k hk => h k (by omega))
    have b := h n (by omega)
    show qm_sum c n + c n ≤ (n + 1) * B
    rw [Nat.add_mul, Nat.one_mul]; omega
theorem qm_sum_congr {c d : Nat → Nat} : ∀ {n : Nat}, (∀ k, k < n → c k = d k) → qm_sum c n = qm_sum d n
  | 0, _ => rfl
  | n + 1, h => by
    show qm_sum c n + c n = qm_sum d n + d n
    rw [qm_sum_congr (n := n) (fun k hk => h k (by omega)), h n (by omega)]
/-- what the steps by rule r cost together -/
def qm_sp (s : Nat → qS) (c : Nat → Nat) (r : Nat) : Nat → Nat
  | 0 => 0
  | n + 1 => qm_sp s c r n + (if (s n).1 = r + 1 then c n else 0)
theorem qm_sp_le {s : Nat → qS} {c : Nat → Nat} {r B : Nat} : ∀ {n : Nat}, (∀ k, k < n → c k ≤ B) → qm_sp s c r n ≤ n * B
  | 0, _ => by simp [qm_sp]
  | n + 1, h => by
    have a := qm_sp_le (s := s) (r := r) (n := n) (fun k hk => h k (by omega))
    have b := h n (by omega)
    show qm_sp s c r n + (if (s n).1 = r + 1 then c n else 0) ≤ (n + 1) * B
    rw [Nat.add_mul, Nat.one_mul]
    split <;> omega
theorem qm_sp_congr {s t : Nat → qS} {c d : Nat → Nat} {r : Nat} : ∀ {n : Nat}, (∀ k, k < n → c k = d k ∧ s k = t k) → qm_sp s c r n = qm_sp t d r n
  | 0, _ => rfl
  | n + 1, h => by
    show qm_sp s c r n + (if (s n).1 = r + 1 then c n else 0) = qm_sp t d r n + (if (t n).1 = r + 1 then d n else 0)
    rw [qm_sp_congr (n := n) (fun k hk => h k (by omega)), (h n (by omega)).1, (h n (by omega)).2]
theorem qm_cnt_le {α : Type} [DecidableEq α] {f : Nat → α} {v : α} : ∀ {n : Nat}, qm_cnt f n v ≤ n
  | 0 => Nat.le_refl 0
  | n + 1 => by
    have a := qm_cnt_le (f := f) (v := v) (n := n)
    show qm_cnt f n v + (if f n = v then 1 else 0) ≤ n + 1
    split <;> omega
/-- a step of width 1 by a rule; whether one at p was before n; whether k is the first at its place -/
def qm_nar (s : Nat → qS) (k : Nat) : Bool := decide (¬ (s k).1 = 0) && decide ((s k).2.2 = 1)
def qm_was (s : Nat → qS) (p : Nat) : Nat → Bool
  | 0 => false
  | n + 1 => qm_was s p n || (qm_nar s n && decide ((s n).2.1 = p))
def qm_fn (s : Nat → qS) (k : Nat) : Bool := qm_nar s k && !(qm_was s (s k).2.1 k)
def qm_wasF (s : Nat → qS) (p : Nat) : Nat → Bool
  | 0 => false
  | n + 1 => qm_wasF s p n || (qm_fn s n && decide ((s n).2.1 = p))
theorem qm_was_F (s : Nat → qS) (p : Nat) : ∀ n, qm_wasF s p n = qm_was s p n
  | 0 => rfl
  | n + 1 => by
    show (qm_wasF s p n || (qm_fn s n && decide ((s n).2.1 = p))) = (qm_was s p n || (qm_nar s n && decide ((s n).2.1 = p)))
    rw [qm_was_F s p n]
    by_cases e : (s n).2.1 = p
    · unfold qm_fn; rw [e]
      cases qm_was s p n <;> cases qm_nar s n <;> simp
    · simp [e]
theorem qm_was_congr {s t : Nat → qS} {p : Nat} : ∀ {n : Nat}, (∀ k, k < n → s k = t k) → qm_was s p n = qm_was t p n
  | 0, _ => rfl
  | n + 1, h => by
    show (qm_was s p n || (qm_nar s n && decide ((s n).2.1 = p))) = (qm_was t p n || (qm_nar t n && decide ((t n).2.1 = p)))
    unfold qm_nar
    rw [qm_was_congr (n := n) (fun k hk => h k (by omega)), h n (by omega)]
theorem qm_fn_congr {s t : Nat → qS} {k : Nat} (h : ∀ j, j ≤ k → s j = t j) : qm_fn s k = qm_fn t k := by
  unfold qm_fn qm_nar
  rw [h k (Nat.le_refl k), qm_was_congr (t := t) (fun j hj => h j (by omega))]
/-- the k-th first narrow place, from step i on, p passed so far -/
def qm_stk (s : Nat → qS) (k : Int32) : Nat → Nat → Nat → Int32
  | 0, _, _ => -1
  | f + 1, i, p => if qm_fn s i = true then (if nI p = k then nI (s i).2.1 else qm_stk s k f (i + 1) (p + 1)) else qm_stk s k f (i + 1) p
/-- the run's length behind n steps, and the longest -/
def qm_run (c : Nat → Nat) : Nat → Nat × Nat
  | 0 => (0, 0)
  | n + 1 => (if 0 < n ∧ c (n - 1) ≤ c n then (qm_run c n).1 + 1 else 1, if (qm_run c n).2 < (if 0 < n ∧ c (n - 1) ≤ c n then (qm_run c n).1 + 1 else 1) then (if 0 < n ∧ c (n - 1) ≤ c n then (qm_run c n).1 + 1 else 1) else (qm_run c n).2)
theorem qm_run_le (c : Nat → Nat) : ∀ n, (qm_run c n).1 ≤ n ∧ (qm_run c n).2 ≤ n
  | 0 => ⟨Nat.le_refl 0, Nat.le_refl 0⟩
  | n + 1 => by
    have a := qm_run_le c n
    have b : (if 0 < n ∧ c (n - 1) ≤ c n then (qm_run c n).1 + 1 else 1) ≤ n + 1 := by split <;> omega
    refine ⟨b, ?_⟩
    show (if (qm_run c n).2 < (if 0 < n ∧ c (n - 1) ≤ c n then (qm_run c n).1 + 1 else 1) then (if 0 < n ∧ c (n - 1) ≤ c n then (qm_run c n).1 + 1 else 1) else (qm_run c n).2) ≤ n + 1
    generalize (if 0 < n ∧ c (n - 1) ≤ c n then (qm_run c n).1 + 1 else 1) = q at b ⊢
    split <;> omega
theorem qm_run_congr {c d : Nat → Nat} : ∀ {n : Nat}, (∀ k, k < n → c k = d k) → qm_run c n = qm_run d n
  | 0, _ => rfl
  | n + 1, h => by
    have a := qm_run_congr (n := n) (fun k hk => h k (by omega))
    unfold qm_run
    rw [a, h n (by omega)]
    rcases Nat.eq_zero_or_pos n with q | q
    · subst q; simp
    · rw [h (n - 1) (by omega)]
/-- (the dearest rule, one up; what it costs, one up) of the first n rules; 0 for none -/
def qm_hd (u sp : Nat → Nat) : Nat → Nat × Nat
  | 0 => (0, 0)
  | n + 1 => if 0 < u n ∧ (qm_hd u sp n).2 < sp n + 1 then (n + 1, sp n + 1) else qm_hd u sp n
theorem qm_hd_le (u sp : Nat → Nat) {B : Nat} : ∀ n, (∀ k, k < n → sp k ≤ B) → (qm_hd u sp n).1 ≤ n ∧ (qm_hd u sp n).2 ≤ B + 1
  | 0, _ => ⟨Nat.le_refl 0, Nat.zero_le _⟩
  | n + 1, h => by
    have a := qm_hd_le u sp (B := B) n (fun k hk => h k (by omega))
    have b := h n (by omega)
    show (if 0 < u n ∧ (qm_hd u sp n).2 < sp n + 1 then (n + 1, sp n + 1) else qm_hd u sp n).1 ≤ n + 1 ∧ (if 0 < u n ∧ (qm_hd u sp n).2 < sp n + 1 then (n + 1, sp n + 1) else qm_hd u sp n).2 ≤ B + 1
    split
    · exact ⟨Nat.le_refl _, by omega⟩
    · exact ⟨by omega, a.2⟩
/-- classes of sums: the first that has v, from i on, i + fuel if none has it -/
def qm_cof (lo hi : Nat → Int64) (v : Int64) : Nat → Nat → Nat
  | 0, i => i
  | f + 1, i => if lo i ≤ v ∧ v ≤ hi i then i else qm_cof lo hi v f (i + 1)
theorem qm_cof_le (lo hi : Nat → Int64) (v : Int64) : ∀ f i, qm_cof lo hi v f i ≤ i + f
  | 0, i => Nat.le_refl _
  | f + 1, i => by
    have a := qm_cof_le lo hi v f (i + 1)
    show (if lo i ≤ v ∧ v ≤ hi i then i else qm_cof lo hi v f (i + 1)) ≤ i + (f + 1)
    split <;> omega
theorem qm_cof_in {lo hi : Nat → Int64} {v : Int64} : ∀ {f i : Nat}, qm_cof lo hi v f i < i + f → lo (qm_cof lo hi v f i) ≤ v ∧ v ≤ hi (qm_cof lo hi v f i)
  | 0, i, h => absurd h (Nat.lt_irrefl _)
  | f + 1, i, h => by
    by_cases q : lo i ≤ v ∧ v ≤ hi i
    · have e : qm_cof lo hi v (f + 1) i = i := if_pos q
      rw [e]; exact q
    · have e : qm_cof lo hi v (f + 1) i = qm_cof lo hi v f (i + 1) := if_neg q
      rw [e] at h ⊢
      exact qm_cof_in (by omega)
def qm_ans (n i : Nat) : Int32 := if i < n then nI i else -1
def qm_ovl (lo hi : Nat → Int64) (a b : Int64) : Nat → Nat → Bool
  | 0, _ => false
  | f + 1, i => if lo i ≤ b ∧ a ≤ hi i then true else qm_ovl lo hi a b f (i + 1)
def qm_bel (hi : Nat → Int64) (v : Int64) : Nat → Nat
  | 0 => 0
  | n + 1 => qm_bel hi v n + (if hi n < v then 1 else 0)
theorem qm_bel_le (hi : Nat → Int64) (v : Int64) : ∀ n, qm_bel hi v n ≤ n
  | 0 => Nat.le_refl 0
  | n + 1 => by
    have a := qm_bel_le hi v n
    show qm_bel hi v n + (if hi n < v then 1 else 0) ≤ n + 1
    split <;> omega
/-- how many of the first n classes reach v or beyond -/
def qm_up (hi : Nat → Int64) (v : Int64) : Nat → Nat
  | 0 => 0
  | n + 1 => qm_up hi v n + (if v ≤ hi n then 1 else 0)
theorem qm_up_le (hi : Nat → Int64) (v : Int64) : ∀ n, qm_up hi v n ≤ n
  | 0 => Nat.le_refl 0
  | n + 1 => by
    have a := qm_up_le hi v n
    show qm_up hi v n + (if v ≤ hi n then 1 else 0) ≤ n + 1
    split <;> omega
theorem qm_up_mono (hi : Nat → Int64) {v w : Int64} (h : v ≤ w) : ∀ n, qm_up hi w n ≤ qm_up hi v n
  | 0 => Nat.le_refl 0
  | n + 1 => by
    have a := qm_up_mono hi h n
    show qm_up hi w n + (if w ≤ hi n then 1 else 0) ≤ qm_up hi v n + (if v ≤ hi n then 1 else 0)
    by_cases q : w ≤ hi n
    · have q2 : v ≤ hi n := by rw [Int64.le_iff_toInt_le] at *; omega
      rw [if_pos q, if_pos q2]; omega
    · rw [if_neg q]; omega
theorem qm_up_lt (hi : Nat → Int64) {v w : Int64} (h : v ≤ w) {k : Nat} (h1 : v ≤ hi k) (h2 : ¬ w ≤ hi k) : ∀ n, k < n → qm_up hi w n < qm_up hi v n
  | 0, hk => absurd hk (Nat.not_lt_zero k)
  | n + 1, hk => by
    show qm_up hi w n + (if w ≤ hi n then 1 else 0) < qm_up hi v n + (if v ≤ hi n then 1 else 0)
    by_cases e : k = n
    · subst e
      have a := qm_up_mono hi h k
      rw [if_pos h1, if_neg h2]; omega
    · have a := qm_up_lt hi h h1 h2 n (by omega)
      by_cases q : w ≤ hi n
      · have q2 : v ≤ hi n := by rw [Int64.le_iff_toInt_le] at *; omega
        rw [if_pos q, if_pos q2]; omega
      · rw [if_neg q]; omega
/-- the least sum from v on that no class has, by at most f steps -/
def qm_gap (lo hi : Nat → Int64) (n : Nat) : Nat → Int64 → Int64
  | 0, v => v
  | f + 1, v => if qm_cof lo hi v n 0 < n then qm_gap lo hi n f (hi (qm_cof lo hi v n 0) + lN 1) else v
theorem qm_hd_yes {u sp : Nat → Nat} {n : Nat} (h : 0 < u n ∧ (qm_hd u sp n).2 < sp n + 1) : qm_hd u sp (n + 1) = (n + 1, sp n + 1) := if_pos h
theorem qm_hd_no {u sp : Nat → Nat} {n : Nat} (h : ¬ (0 < u n ∧ (qm_hd u sp n).2 < sp n + 1)) : qm_hd u sp (n + 1) = qm_hd u sp n := if_neg h
theorem qm_lnlt {a b : Int64} (h : ¬ a < b) : b ≤ a := by rw [Int64.lt_iff_toInt_lt] at h; rw [Int64.le_iff_toInt_le]; omega
theorem qm_lnle {a b : Int64} (h : ¬ a ≤ b) : b < a := by rw [Int64.le_iff_toInt_le] at h; rw [Int64.lt_iff_toInt_lt]; omega
theorem qm_lle_nlt {a b : Int64} (h : a ≤ b) : ¬ b < a := by rw [Int64.le_iff_toInt_le] at h; rw [Int64.lt_iff_toInt_lt]; omega
theorem qm_ans_ge {n i : Nat} (hn : n < 2 ^ 31) : 0 ≤ qm_ans n i ↔ i < n := by
  unfold qm_ans
  by_cases h : i < n
  · rw [if_pos h]; exact ⟨fun _ => h, fun _ => nI_pos' (by omega)⟩
  · rw [if_neg h]; exact ⟨fun q => absurd q (by decide), fun q => absurd q h⟩
theorem qm_ans_m1 {n i : Nat} (hn : n < 2 ^ 31) : qm_ans n i = -1 ↔ ¬ i < n := by
  unfold qm_ans
  by_cases h : i < n
  · rw [if_pos h]
    refine ⟨fun q => ?_, fun q => absurd h q⟩
    have e := congrArg Int32.toInt q
    rw [nI_toInt (by omega), show (-1 : Int32).toInt = -1 from by decide] at e
    omega
  · rw [if_neg h]; exact ⟨fun _ => h, fun _ => rfl⟩
theorem qm_cof_next {lo hi : Nat → Int64} {v : Int64} {n i : Nat} (h : i < n) (hn : ¬ (lo i ≤ v ∧ v ≤ hi i)) : qm_cof lo hi v (n - i) i = qm_cof lo hi v (n - (i + 1)) (i + 1) := by
  obtain ⟨d, hd⟩ : ∃ d, n - i = d + 1 := ⟨n - i - 1, by omega⟩
  rw [hd, show n - (i + 1) = d by omega]
  exact if_neg hn
theorem qm_cof_hit {lo hi : Nat → Int64} {v : Int64} {n i : Nat} (hq : qm_cof lo hi v n 0 = qm_cof lo hi v (n - i) i) (h : i < n) (h1 : lo i ≤ v) (h2 : v ≤ hi i) : qm_ans n (qm_cof lo hi v n 0) = nI i := by
  obtain ⟨d, hd⟩ : ∃ d, n - i = d + 1 := ⟨n - i - 1, by omega⟩
  rw [hd] at hq
  have e : qm_cof lo hi v (d + 1) i = i := if_pos ⟨h1, h2⟩
  rw [hq, e]; exact if_pos h
theorem qm_cof_end {lo hi : Nat → Int64} {v : Int64} {n i : Nat} (hq : qm_cof lo hi v n 0 = qm_cof lo hi v (n - i) i) (h : n ≤ i) (h2 : i ≤ n) : qm_ans n (qm_cof lo hi v n 0) = -1 := by
  rw [show n - i = 0 by omega] at hq
  have e : qm_cof lo hi v 0 i = i := rfl
  rw [hq, e]; exact if_neg (by omega)
theorem qm_gap_next {lo hi : Nat → Int64} {n t : Nat} {f : Int64} (h : t < n) (hc : qm_cof lo hi f n 0 < n) : qm_gap lo hi n (n - t) f = qm_gap lo hi n (n - (t + 1)) (hi (qm_cof lo hi f n 0) + lN 1) := by
  obtain ⟨d, hd⟩ : ∃ d, n - t = d + 1 := ⟨n - t - 1, by omega⟩
  rw [hd, show n - (t + 1) = d by omega]
  exact if_pos hc
theorem qm_gap_stop {lo hi : Nat → Int64} {n f : Nat} {v : Int64} (hc : ¬ qm_cof lo hi v n 0 < n) : qm_gap lo hi n f v = v := by
  cases f with
  | zero => rfl
  | succ d => exact if_neg hc
theorem qm_ovl_next {lo hi : Nat → Int64} {a b : Int64} {n i : Nat} (h : i < n) (hn : ¬ (lo i ≤ b ∧ a ≤ hi i)) : qm_ovl lo hi a b (n - i) i = qm_ovl lo hi a b (n - (i + 1)) (i + 1) := by
  obtain ⟨d, hd⟩ : ∃ d, n - i = d + 1 := ⟨n - i - 1, by omega⟩
  rw [hd, show n - (i + 1) = d by omega]
  exact if_neg hn
theorem qm_ovl_hit {lo hi : Nat → Int64} {a b : Int64} {n i : Nat} (hq : qm_ovl lo hi a b n 0 = qm_ovl lo hi a b (n - i) i) (h : i < n) (h1 : lo i ≤ b) (h2 : a ≤ hi i) : qm_ovl lo hi a b n 0 = true := by
  obtain ⟨d, hd⟩ : ∃ d, n - i = d + 1 := ⟨n - i - 1, by omega⟩
  rw [hd] at hq
  have e : qm_ovl lo hi a b (d + 1) i = true := if_pos ⟨h1, h2⟩
  rw [hq, e]
theorem qm_ovl_end {lo hi : Nat → Int64} {a b : Int64} {n i : Nat} (hq : qm_ovl lo hi a b n 0 = qm_ovl lo hi a b (n - i) i) (h : n ≤ i) : ¬ qm_ovl lo hi a b n 0 = true := by
  rw [show n - i = 0 by omega] at hq
  rw [hq]; exact Bool.false_ne_true
/-- a step's place and width as the class holds them; its code -/
def qm_pl (z : qS) : Nat := if z.1 = 0 then 0 else z.2.1
def qm_wd (z : qS) : Nat := if z.1 = 0 then z.2.1 else z.2.2
def qm_code (x y z : Int32) : Int32 := (x * nI 256 + y) * nI 32 + z
theorem qm_fn_pl {s : Nat → qS} {i : Nat} (h : qm_fn s i = true) : qm_pl (s i) = (s i).2.1 := by
  unfold qm_fn qm_nar at h
  unfold qm_pl
  by_cases e : (s i).1 = 0
  · simp [e] at h
  · rw [if_neg e]
theorem qm_wasF_no {s : Nat → qS} {p i : Nat} (hq : qm_wasF s p i = false) (h : ¬ (qm_fn s i = true ∧ (qm_fn s i = true → qm_pl (s i) = p))) : qm_wasF s p (i + 1) = false := by
  show (qm_wasF s p i || (qm_fn s i && decide ((s i).2.1 = p))) = false
  rw [hq, Bool.false_or]
  by_cases e : qm_fn s i = true
  · have e2 : ¬ (s i).2.1 = p := fun q => h ⟨e, fun _ => by rw [qm_fn_pl e]; exact q⟩
    simp [e2]
  · rw [Bool.not_eq_true] at e
    rw [e, Bool.false_and]
theorem qm_wasF_yes {s : Nat → qS} {p : Nat} : ∀ {n i : Nat}, i < n → qm_fn s i = true → qm_pl (s i) = p → qm_wasF s p n = true
  | 0, i, h, _, _ => absurd h (Nat.not_lt_zero i)
  | n + 1, i, h, h1, h2 => by
    show (qm_wasF s p n || (qm_fn s n && decide ((s n).2.1 = p))) = true
    by_cases e : i = n
    · subst e
      rw [qm_fn_pl h1] at h2
      rw [h1, h2]; simp
    · rw [qm_wasF_yes (n := n) (i := i) (by omega) h1 h2, Bool.true_or]
theorem qm_stk_pass {s : Nat → qS} {k : Int32} {n i a : Nat} (h : i < n) (h1 : qm_fn s i = true) (h2 : ¬ nI a = k) : qm_stk s k (n - i) i a = qm_stk s k (n - (i + 1)) (i + 1) (a + 1) := by
  obtain ⟨d, hd⟩ : ∃ d, n - i = d + 1 := ⟨n - i - 1, by omega⟩
  rw [hd, show n - (i + 1) = d by omega]
  show (if qm_fn s i = true then (if nI a = k then nI (s i).2.1 else qm_stk s k d (i + 1) (a + 1)) else qm_stk s k d (i + 1) a) = _
  rw [if_pos h1, if_neg h2]
theorem qm_stk_no {s : Nat → qS} {k : Int32} {n i a : Nat} (h : i < n) (h1 : ¬ qm_fn s i = true) : qm_stk s k (n - i) i a = qm_stk s k (n - (i + 1)) (i + 1) a := by
  obtain ⟨d, hd⟩ : ∃ d, n - i = d + 1 := ⟨n - i - 1, by omega⟩
  rw [hd, show n - (i + 1) = d by omega]
  show (if qm_fn s i = true then (if nI a = k then nI (s i).2.1 else qm_stk s k d (i + 1) (a + 1)) else qm_stk s k d (i + 1) a) = _
  rw [if_neg h1]
theorem qm_stk_hit {s : Nat → qS} {k : Int32} {n i a : Nat} (h : i < n) (h1 : qm_fn s i = true) (h2 : nI a = k) : qm_stk s k (n - i) i a = nI (qm_pl (s i)) := by
  obtain ⟨d, hd⟩ : ∃ d, n - i = d + 1 := ⟨n - i - 1, by omega⟩
  rw [hd, qm_fn_pl h1]
  show (if qm_fn s i = true then (if nI a = k then nI (s i).2.1 else qm_stk s k d (i + 1) (a + 1)) else qm_stk s k d (i + 1) a) = _
  rw [if_pos h1, if_pos h2]
theorem qm_run_up {c : Nat → Nat} {i le lo : Nat} (hq : qm_run c i = (le, lo)) (h : 0 < i ∧ c (i - 1) ≤ c i) : qm_run c (i + 1) = (le + 1, if lo < le + 1 then le + 1 else lo) := by
  show (if 0 < i ∧ c (i - 1) ≤ c i then (qm_run c i).1 + 1 else 1, if (qm_run c i).2 < (if 0 < i ∧ c (i - 1) ≤ c i then (qm_run c i).1 + 1 else 1) then (if 0 < i ∧ c (i - 1) ≤ c i then (qm_run c i).1 + 1 else 1) else (qm_run c i).2) = _
  rw [if_pos h, hq]
theorem qm_run_new {c : Nat → Nat} {i le lo : Nat} (hq : qm_run c i = (le, lo)) (h : ¬ (0 < i ∧ c (i - 1) ≤ c i)) : qm_run c (i + 1) = (1, if lo < 1 then 1 else lo) := by
  show (if 0 < i ∧ c (i - 1) ≤ c i then (qm_run c i).1 + 1 else 1, if (qm_run c i).2 < (if 0 < i ∧ c (i - 1) ≤ c i then (qm_run c i).1 + 1 else 1) then (if 0 < i ∧ c (i - 1) ≤ c i then (qm_run c i).1 + 1 else 1) else (qm_run c i).2) = _
  rw [if_neg h, hq]
theorem nI_max {a b : Nat} (ha : a < 2 ^ 31) (hb : b < 2 ^ 31) : (if nI a < nI b then nI b else nI a) = nI (if a < b then b else a) := by
  by_cases h : a < b
  · rw [if_pos h, if_pos ((nI_ltI ha hb).mpr h)]
  · rw [if_neg h, if_neg (fun q => h ((nI_ltI ha hb).mp q))]
theorem nI_min {a b : Nat} (ha : a < 2 ^ 31) (hb : b < 2 ^ 31) : (if nI b < nI a then nI b else nI a) = nI (if b < a then b else a) := by
  by_cases h : b < a
  · rw [if_pos h, if_pos ((nI_ltI hb ha).mpr h)]
  · rw [if_neg h, if_neg (fun q => h ((nI_ltI hb ha).mp q))]
theorem qm_cnt_s0 {s : Nat → qS} {j v : Nat} (h1 : qm_cnt (qm_rs s) j v = 0) (h2 : ¬ (s j).1 = v) : qm_cnt (qm_rs s) (j + 1) v = 0 := by
  show qm_cnt (qm_rs s) j v + (if (s j).1 = v then 1 else 0) = 0
  rw [if_neg h2, h1]
theorem qm_cnt_s1 {s : Nat → qS} {j v : Nat} (h : (¬ qm_cnt (qm_rs s) j v = 0) ∨ (s j).1 = v) : ¬ qm_cnt (qm_rs s) (j + 1) v = 0 := by
  show ¬ qm_cnt (qm_rs s) j v + (if (s j).1 = v then 1 else 0) = 0
  rcases h with h | h
  · omega
  · rw [if_pos h]; omega
theorem qm_cnt_hit {s : Nat → qS} {j a : Nat} {t0 : qS} (hq : qm_cnt s j t0 = a) (e : s j = t0) : qm_cnt s (j + 1) t0 = a + 1 := by
  show qm_cnt s j t0 + (if s j = t0 then 1 else 0) = a + 1
  rw [if_pos e, hq]
theorem qm_cnt_miss {s : Nat → qS} {j a : Nat} {t0 : qS} (hq : qm_cnt s j t0 = a) (e : ¬ s j = t0) : qm_cnt s (j + 1) t0 = a := by
  show qm_cnt s j t0 + (if s j = t0 then 1 else 0) = a
  rw [if_neg e, hq]; rfl
theorem qm_same3 {z t : qS} (h1 : z.1 = t.1) (h2 : z.2.1 = t.2.1) (h3 : z.2.2 = t.2.2) : z = t := by
  obtain ⟨a, b, c⟩ := z
  obtain ⟨d, e, f⟩ := t
  simp only at h1 h2 h3
  rw [h1, h2, h3]
theorem qm_stk_neg {s : Nat → qS} {k : Int32} (hk : k < 0) {n : Nat} : ∀ {f i p : Nat}, i + f ≤ n → p ≤ i → n ≤ 200 → qm_stk s k f i p = -1
  | 0, _, _, _, _, _ => rfl
  | f + 1, i, p, h, hp, hn => by
    show (if qm_fn s i = true then (if nI p = k then nI (s i).2.1 else qm_stk s k f (i + 1) (p + 1)) else qm_stk s k f (i + 1) p) = -1
    have e : ¬ nI p = k := fun q => by rw [← q] at hk; exact nI_pos (by omega) hk
    rw [if_neg e, qm_stk_neg (f := f) hk (by omega) (by omega) hn, qm_stk_neg (f := f) hk (by omega) (by omega) hn]
    split <;> rfl
end
section
/-! THE CALLS AS FUNCTIONS of one state: rules (number, weights, extras), rows (sizes, steps; row 10 is the one at work, 0 .. 9 are kept), classes (number, lows, highs), how many rows are kept, the cursor. -/
abbrev qZ : Type := (Nat × (Nat → Nat) × (Nat → Nat)) × ((Nat → Nat) × (Nat → Nat → qS)) × (Nat × (Nat → Int64) × (Nat → Int64)) × Nat × Nat
def qu {α : Type} (f : Nat → α) (k : Nat) (v : α) : Nat → α := fun j => if j = k then v else f j
theorem qu_s {α : Type} (f : Nat → α) (k : Nat) (v : α) : qu f k v k = v := if_pos rfl
theorem qu_n {α : Type} (f : Nat → α) {k j : Nat} (v : α) (h : ¬ j = k) : qu f k v j = f j := if_neg h
abbrev qZt (nr : Nat) (w x : Nat → Nat) (sz : Nat → Nat) (st : Nat → Nat → qS) (nc : Nat) (lo hi : Nat → Int64) (kn cur : Nat) : qZ := ((nr, w, x), (sz, st), (nc, lo, hi), kn, cur)
/-- what holds of every state that is reached -/
def qm_ok (nr : Nat) (w x : Nat → Nat) (sz : Nat → Nat) (st : Nat → Nat → qS) (nc : Nat) (lo hi : Nat → Int64) (kn cur : Nat) : Prop :=
  qm_okR nr w x ∧ kn ≤ 10 ∧ (∀ r, (r < kn ∨ r = 10) → sz r ≤ 200 ∧ ∀ j, j < sz r → qm_okS nr (st r j)) ∧ cur ≤ sz 10 ∧ nc ≤ 20 ∧ ∀ i, i < nc → lN 0 ≤ lo i ∧ lo i ≤ hi i ∧ hi i ≤ lN 100000000
def qm_okz (z : qZ) : Prop := qm_ok z.1.1 z.1.2.1 z.1.2.2 z.2.1.1 z.2.1.2 z.2.2.1.1 z.2.2.1.2.1 z.2.2.1.2.2 z.2.2.2.1 z.2.2.2.2
/-- one step more -/
def qo_push (z : qZ) (t : qS) : qZ := (z.1, (qu z.2.1.1 10 (z.2.1.1 10 + 1), qu z.2.1.2 10 (qu (z.2.1.2 10) (z.2.1.1 10) t)), z.2.2)
def qo_rule (z : qZ) (a b : Int32) : Int32 × qZ :=
  if (nI 0 ≤ a ∧ a ≤ nI 10000) ∧ (nI 0 ≤ b ∧ b ≤ nI 100000) ∧ z.1.1 < 40 then (nI z.1.1, ((z.1.1 + 1, qu z.1.2.1 z.1.1 a.toNatClampNeg, qu z.1.2.2 z.1.1 b.toNatClampNeg), z.2)) else (-1, z)
def qo_used (z : qZ) (r p w : Int32) : Int32 × qZ :=
  if (¬ r < 0 ∧ r < nI z.1.1) ∧ (nI 0 ≤ p ∧ p ≤ nI 255) ∧ (nI 1 ≤ w ∧ w ≤ nI 9) ∧ z.2.1.1 10 < 200 then (nI (z.2.1.1 10), qo_push z (r.toNatClampNeg + 1, p.toNatClampNeg, w.toNatClampNeg)) else (-1, z)
def qo_guess (z : qZ) (d : Int32) : Int32 × qZ :=
  if (nI 1 ≤ d ∧ d ≤ nI 20) ∧ z.2.1.1 10 < 200 then (nI (z.2.1.1 10), qo_push z (0, d.toNatClampNeg, 0)) else (-1, z)
def qo_drop (z : qZ) : Int32 × qZ :=
  if 0 < z.2.1.1 10 then (nI 1, (z.1, (qu z.2.1.1 10 (z.2.1.1 10 - 1), z.2.1.2), z.2.2.1, z.2.2.2.1, if z.2.2.2.2 = z.2.1.1 10 then z.2.2.2.2 - 1 else z.2.2.2.2)) else (nI 0, z)
abbrev qo_c (z : qZ) : Nat → Nat := qm_cost z.1.2.1 z.1.2.2 (z.2.1.2 10)
def qo_cost (z : qZ) (k : Int32) : Int64 := if ¬ k < 0 ∧ k < nI (z.2.1.1 10) then lN (qo_c z k.toNatClampNeg) else -1
def qo_sum (z : qZ) (n : Int32) : Int64 := if n < 0 then -1 else lN (qm_sum (qo_c z) (if n.toNatClampNeg < z.2.1.1 10 then n.toNatClampNeg else z.2.1.1 10))
def qo_all (z : qZ) : Int64 := lN (qm_sum (qo_c z) (z.2.1.1 10))
def qo_cls (z : qZ) (a b : Int64) : Int32 × qZ :=
  if ¬ a < lN 0 ∧ ¬ b < a ∧ ¬ lN 100000000 < b ∧ z.2.2.1.1 < 20 ∧ ¬ qm_ovl z.2.2.1.2.1 z.2.2.1.2.2 a b z.2.2.1.1 0 = true then (nI z.2.2.1.1, (z.1, z.2.1, (z.2.2.1.1 + 1, vp_updL z.2.2.1.2.1 z.2.2.1.1 a, vp_updL z.2.2.1.2.2 z.2.2.1.1 b), z.2.2.2)) else (-1, z)
def qo_of (z : qZ) : Nat := qm_cof z.2.2.1.2.1 z.2.2.1.2.2 (qo_all z) z.2.2.1.1 0
def qo_grade (z : qZ) : Int32 := qm_ans z.2.2.1.1 (qo_of z)
def qo_rank (z : qZ) : Int32 := if qo_of z < z.2.2.1.1 then nI (qm_bel z.2.2.1.2.2 (qo_all z) z.2.2.1.1) else -1
def qo_gap (z : qZ) (v : Int64) : Int64 := if v < lN 0 then -1 else qm_gap z.2.2.1.2.1 z.2.2.1.2.2 z.2.2.1.1 z.2.2.1.1 v
def qo_stuck (z : qZ) (k : Int32) : Int32 := qm_stk (z.2.1.2 10) k (z.2.1.1 10) 0 0
def qo_run (z : qZ) : Int32 := nI (qm_run (qo_c z) (z.2.1.1 10)).2
def qo_u (z : qZ) : Nat → Nat := fun r => qm_cnt (qm_rs (z.2.1.2 10)) (z.2.1.1 10) (r + 1)
def qo_sp (z : qZ) : Nat → Nat := fun r => qm_sp (z.2.1.2 10) (qo_c z) r (z.2.1.1 10)
def qo_hard (z : qZ) : Int32 := nM (qm_hd (qo_u z) (qo_sp z) z.1.1).1
def qo_go (z : qZ) (k : Int32) : Int32 × qZ := if ¬ k < 0 ∧ k ≤ nI (z.2.1.1 10) then (nI 1, (z.1, z.2.1, z.2.2.1, z.2.2.2.1, k.toNatClampNeg)) else (nI 0, z)
def qo_hint (z : qZ) (d : Int32) : Int32 × qZ :=
  if (nI 1 ≤ d ∧ d ≤ nI 4) ∧ z.2.2.2.2 < z.2.1.1 10 then
    (if (z.2.1.2 10 z.2.2.2.2).1 = 0 then (if d = nI 4 then nI (z.2.1.2 10 z.2.2.2.2).2.1 else -2)
      else if d = nI 1 then nI ((z.2.1.2 10 z.2.2.2.2).2.1 / 16) else if d = nI 2 then nI (z.2.1.2 10 z.2.2.2.2).2.1 else if d = nI 3 then nM (z.2.1.2 10 z.2.2.2.2).1 else nI (z.2.1.2 10 z.2.2.2.2).2.2,
     (z.1, z.2.1, z.2.2.1, z.2.2.2.1, if d = nI 4 then z.2.2.2.2 + 1 else z.2.2.2.2))
  else (-1, z)
def qo_keep (z : qZ) : Int32 × qZ :=
  if z.2.2.2.1 < 10 then (nI z.2.2.2.1, (z.1, (qu z.2.1.1 z.2.2.2.1 (z.2.1.1 10), qu z.2.1.2 z.2.2.2.1 (z.2.1.2 10)), z.2.2.1, z.2.2.2.1 + 1, z.2.2.2.2)) else (-1, z)
/-- compare: what the answer is known by -/
def qo_cmp (z : qZ) (k : Int32) (r : Int32) : Prop :=
  if ¬ k < 0 ∧ k < nI z.2.2.2.1 then
    (∃ q, qm_sg (qo_all z) (lN (qm_sum (qm_cost z.1.2.1 z.1.2.2 (z.2.1.2 k.toNatClampNeg)) (z.2.1.1 k.toNatClampNeg))) q ∧ ((¬ q = 0 ∧ r = q) ∨ (q = 0 ∧
      ∃ q2, qm_sg (lN (z.2.1.1 10)) (lN (z.2.1.1 k.toNatClampNeg)) q2 ∧ ((¬ q2 = 0 ∧ r = q2) ∨ (q2 = 0 ∧
        qm_ord (fun a b : Nat => a < b) (qm_cnt (qo_c z) (z.2.1.1 10)) (qm_cnt (qm_cost z.1.2.1 z.1.2.2 (z.2.1.2 k.toNatClampNeg)) (z.2.1.1 10)) r)))))
  else r = -2
/-- same: what the answer is known by -/
def qo_same (z : qZ) (k : Int32) (r : Int32) : Prop :=
  ((¬ k < 0 ∧ k < nI z.2.2.2.1) ∧ z.2.1.1 k.toNatClampNeg = z.2.1.1 10 ∧ (∀ v, qm_cnt (z.2.1.2 k.toNatClampNeg) (z.2.1.1 10) v = qm_cnt (z.2.1.2 10) (z.2.1.1 10) v) ∧ r = nI 1) ∨
  (¬ ((¬ k < 0 ∧ k < nI z.2.2.2.1) ∧ z.2.1.1 k.toNatClampNeg = z.2.1.1 10 ∧ (∀ v, qm_cnt (z.2.1.2 k.toNatClampNeg) (z.2.1.1 10) v = qm_cnt (z.2.1.2 10) (z.2.1.1 10) v)) ∧ r = nI 0)
theorem qo_cmp_one {z : qZ} {k r q : Int32} (h : qo_cmp z k r) (h2 : qo_cmp z k q) : r = q := by
  unfold qo_cmp at h h2
  by_cases c : ¬ k < 0 ∧ k < nI z.2.2.2.1
  · rw [if_pos c] at h h2
    obtain ⟨a, ha, h⟩ := h
    obtain ⟨b, hb, h2⟩ := h2
    have e := qm_sg_one ha hb
    subst e
    rcases h with ⟨n1, e1⟩ | ⟨n1, h⟩ <;> rcases h2 with ⟨n2, e2⟩ | ⟨n2, h2⟩
    · rw [e1, e2]
    · exact absurd n2 n1
    · exact absurd n1 n2
    · obtain ⟨a2, ha2, h⟩ := h
      obtain ⟨b2, hb2, h2⟩ := h2
      have e := qm_sg_one ha2 hb2
      subst e
      rcases h with ⟨m1, e1⟩ | ⟨m1, h⟩ <;> rcases h2 with ⟨m2, e2⟩ | ⟨m2, h2⟩
      · rw [e1, e2]
      · exact absurd m2 m1
      · exact absurd m1 m2
      · exact qm_ord_one (fun a b => by omega) h h2
  · rw [if_neg c] at h h2
    rw [h, h2]
theorem qo_same_one {z : qZ} {k r q : Int32} (h : qo_same z k r) (h2 : qo_same z k q) : r = q := by
  rcases h with ⟨a, b, c, e⟩ | ⟨a, e⟩ <;> rcases h2 with ⟨a2, b2, c2, e2⟩ | ⟨a2, e2⟩
  · rw [e, e2]
  · exact absurd ⟨a, b, c⟩ a2
  · exact absurd ⟨a2, b2, c2⟩ a
  · rw [e, e2]
end
section
/-! LEMMAS of the reference's loops and states -/
def qz_0 : qZ := qZt 0 (fun _ => 0) (fun _ => 0) (fun _ => 0) (fun _ _ => (0, 0, 0)) 0 (fun _ => 0) (fun _ => 0) 0 0
theorem qk_loc {ls : Array Slot} {nL : Nat} {l : List (Nat × Value)} {k i : Nat} {v0 v : Value} (hl : lv_has ls nL l) (hk : l[k]? = some (i, v0)) (e : v0 = v) : lv_has ls nL (l.set k (i, v)) := by
  subst e
  refine ⟨hl.1, hl.2.1, fun q hq => ?_⟩
  rcases List.mem_or_eq_of_mem_set hq with h | h
  · exact hl.2.2 q h
  · rw [h]; exact hl.2.2 _ (List.mem_of_getElem? hk)
theorem qm_ord_0 {α : Type} {lt : α → α → Prop} {cA cB : α → Nat} {r : Int32} (h : qm_ord lt cA cB r) (e : r = 0) : ∀ v, cA v = cB v := by
  rcases h with ⟨-, h⟩ | ⟨h, -⟩ | ⟨h, -⟩
  · exact h
  · rw [h] at e; exact absurd e (by decide)
  · rw [h] at e; exact absurd e (by decide)
theorem qm_ord_z {α : Type} {lt : α → α → Prop} {cA cB : α → Nat} {r : Int32} (h : qm_ord lt cA cB r) (e : ∀ v, cA v = cB v) : r = 0 := by
  rcases h with ⟨h, -⟩ | ⟨-, v, -, h⟩ | ⟨-, v, -, h⟩
  · rw [h]; exact nI_0
  · have := e v; omega
  · have := e v; omega
theorem qm_two {nr : Nat} {w x : Nat → Nat} {fw fx : Nat → Int32} {a b : Nat} (hw : ∀ i, i < nr → fw i = nI (w i) ∧ fx i = nI (x i)) {i : Nat} (hi : i < nr + 1) : upd fw nr (nI a) i = nI (qu w nr a i) ∧ upd fx nr (nI b) i = nI (qu x nr b i) := by
  by_cases e : i = nr
  · rw [e, pk_us, pk_us, qu_s, qu_s]; exact ⟨rfl, rfl⟩
  · rw [pk_un e, pk_un e, qu_n _ _ e, qu_n _ _ e]; exact hw i (by omega)
/-- the reference's rows -/
def qm_rw (kn : Nat) (sz0 : Nat → Nat) (st : Nat → Nat → qS) (fz fb fh fd : Nat → Int32) : Prop :=
  ∀ r, (r < kn ∨ r = 10) → fz r = nI (sz0 r) ∧ ∀ j, j < sz0 r → fb (200 * r + j) = nM (st r j).1 ∧ fh (200 * r + j) = nI (st r j).2.1 ∧ fd (200 * r + j) = nI (st r j).2.2
theorem qm_pushed {nr kn : Nat} {sz0 : Nat → Nat} {st : Nat → Nat → qS} {fz fb fh fd : Nat → Int32} {t : qS} (hkn : kn ≤ 10) (hn : sz0 10 < 200) (hrows : ∀ r, (r < kn ∨ r = 10) → sz0 r ≤ 200 ∧ ∀ j, j < sz0 r → qm_okS nr (st r j)) (hrw : qm_rw kn sz0 st fz fb fh fd) :
    qm_rw kn (qu sz0 10 (sz0 10 + 1)) (qu st 10 (qu (st 10) (sz0 10) t)) (upd fz 10 (nI (sz0 10 + 1))) (upd fb (2000 + sz0 10) (nM t.1)) (upd fh (2000 + sz0 10) (nI t.2.1)) (upd fd (2000 + sz0 10) (nI t.2.2)) := by
  intro r hr
  have q := hrw r hr
  by_cases e : r = 10
  · subst e
    refine ⟨by rw [pk_us, qu_s], fun j hj => ?_⟩
    rw [qu_s] at hj
    rw [qu_s]
    by_cases e2 : j = sz0 10
    · rw [e2, qu_s]
      exact ⟨pk_us, pk_us, pk_us⟩
    · rw [qu_n _ _ e2, pk_un (by omega), pk_un (by omega), pk_un (by omega)]
      exact q.2 j (by omega)
  · refine ⟨by rw [pk_un e, qu_n _ _ e]; exact q.1, fun j hj => ?_⟩
    rw [qu_n _ _ e] at hj
    have h1 := (hrows r hr).1
    rw [qu_n _ _ e, pk_un (by omega), pk_un (by omega), pk_un (by omega)]
    exact q.2 j hj
theorem qm_dropped {kn : Nat} {sz0 : Nat → Nat} {st : Nat → Nat → qS} {fz fb fh fd : Nat → Int32} (hrw : qm_rw kn sz0 st fz fb fh fd) :
    qm_rw kn (qu sz0 10 (sz0 10 - 1)) st (upd fz 10 (nI (sz0 10 - 1))) fb fh fd := by
  intro r hr
  have q := hrw r hr
  by_cases e : r = 10
  · subst e
    refine ⟨by rw [pk_us, qu_s], fun j hj => ?_⟩
    rw [qu_s] at hj
    exact q.2 j (by omega)
  · refine ⟨by rw [pk_un e, qu_n _ _ e]; exact q.1, fun j hj => ?_⟩
    rw [qu_n _ _ e] at hj
    exact q.2 j hj
/-- a row copied from place 2000 on to place a on, k of it -/
def qm_cp (f : Nat → Int32) (a k : Nat) : Nat → Int32 := fun i => if a ≤ i ∧ i < a + k then f (2000 + (i - a)) else f i
theorem qm_cp_0 (f : Nat → Int32) (a : Nat) : ∀ i, f i = qm_cp f a 0 i := fun i => by unfold qm_cp; rw [if_neg (by omega)]
theorem qm_cp_hi {f : Nat → Int32} {a k i : Nat} (h : a + k ≤ i) : qm_cp f a k i = f i := by unfold qm_cp; rw [if_neg (by omega)]
theorem qm_cp_s {f g : Nat → Int32} {a k : Nat} (h : ∀ i, g i = qm_cp f a k i) : ∀ i, upd g (a + k) (f (2000 + k)) i = qm_cp f a (k + 1) i := fun i => by
  by_cases e : i = a + k
  · rw [e, pk_us]; unfold qm_cp; rw [if_pos (by omega), show a + k - a = k by omega]
  · rw [pk_un e, h i]
    unfold qm_cp
    by_cases c : a ≤ i ∧ i < a + k
    · rw [if_pos c, if_pos (by omega)]
    · rw [if_neg c, if_neg (by omega)]
theorem qm_kept {nr kn k : Nat} {sz0 : Nat → Nat} {st : Nat → Nat → qS} {fz fb fh fd gb gh gd : Nat → Int32} (hk : kn < 10) (hk2 : k = 200) (hrows : ∀ r, (r < kn ∨ r = 10) → sz0 r ≤ 200 ∧ ∀ j, j < sz0 r → qm_okS nr (st r j)) (hb : ∀ i, gb i = qm_cp fb (200 * kn) k i) (hh : ∀ i, gh i = qm_cp fh (200 * kn) k i) (hd : ∀ i, gd i = qm_cp fd (200 * kn) k i) (hrw : qm_rw kn sz0 st fz fb fh fd) :
    qm_rw (kn + 1) (qu sz0 kn (sz0 10)) (qu st kn (st 10)) (upd fz kn (nI (sz0 10))) gb gh gd := by
  intro r hr
  have q10 := hrw 10 (Or.inr rfl)
  have z10 := (hrows 10 (Or.inr rfl)).1
  by_cases e : r = kn
  · subst e
    refine ⟨by rw [pk_us, qu_s], fun j hj => ?_⟩
    rw [qu_s] at hj
    rw [qu_s, hb, hh, hd]
    unfold qm_cp
    rw [if_pos (by omega), if_pos (by omega), if_pos (by omega), show 200 * r + j - 200 * r = j by omega]
    exact q10.2 j hj
  · have hr2 : r < kn ∨ r = 10 := by omega
    have q := hrw r hr2
    have z := (hrows r hr2).1
    refine ⟨by rw [pk_un e, qu_n _ _ e]; exact q.1, fun j hj => ?_⟩
    rw [qu_n _ _ e] at hj
    rw [qu_n _ _ e, hb, hh, hd]
    unfold qm_cp
    rw [if_neg (by omega), if_neg (by omega), if_neg (by omega)]
    exact q.2 j hj
theorem qm_gap_f {lo hi : Nat → Int64} {n f : Nat} {v : Int64} (h : 0 < f) (hc : qm_cof lo hi v n 0 < n) : qm_gap lo hi n f v = qm_gap lo hi n (f - 1) (hi (qm_cof lo hi v n 0) + lN 1) := by
  obtain ⟨d, rfl⟩ : ∃ d, f = d + 1 := ⟨f - 1, by omega⟩
  exact if_pos hc
theorem qm_ladd1 {a : Int64} (h1 : lN 0 ≤ a) (h2 : a ≤ lN 100000000) : (a + lN 1).toInt = a.toInt + 1 := by
  have e0 : (lN 0).toInt = 0 := by decide
  have e1 : (lN 100000000).toInt = 100000000 := by decide
  rw [Int64.le_iff_toInt_le] at h1 h2
  obtain ⟨k, hk, rfl⟩ := pk_lOf (x := a) (by rw [Int64.lt_iff_toInt_lt, show (0 : Int64).toInt = 0 from by decide]; omega)
  rw [pk_lT hk] at *
  rw [lN_add, pk_lT (by omega)]; omega
theorem qm_gap_up {lo hi : Nat → Int64} {n : Nat} {v : Int64} (hcl : ∀ i, i < n → lN 0 ≤ lo i ∧ lo i ≤ hi i ∧ hi i ≤ lN 100000000) (hc : qm_cof lo hi v n 0 < n) : qm_up hi (hi (qm_cof lo hi v n 0) + lN 1) n < qm_up hi v n := by
  have a := qm_cof_in (lo := lo) (hi := hi) (v := v) (f := n) (i := 0) (by omega)
  have b := hcl _ hc
  have e := qm_ladd1 (a := hi (qm_cof lo hi v n 0)) (by have h1 := b.1; have h2 := b.2.1; rw [Int64.le_iff_toInt_le] at *; omega) b.2.2
  refine qm_up_lt hi ?_ a.2 ?_ n hc
  · have h := a.2; rw [Int64.le_iff_toInt_le] at *; omega
  · rw [Int64.le_iff_toInt_le]; omega
theorem qm_fill {g : Nat → Int32} {i : Nat} (hg : ∀ j, j < i → g j = nI 0) : ∀ j, j < i + 1 → upd g i (nI 0) j = nI 0 := fun j hj => by
  by_cases e : j = i
  · rw [e, pk_us]
  · rw [pk_un e]; exact hg j (by omega)
theorem qm_nar_no1 {s : Nat → qS} {j : Nat} (h : (s j).1 = 0) : ¬ qm_nar s j = true := by unfold qm_nar; simp [h]
theorem qm_nar_no2 {s : Nat → qS} {j : Nat} (h : ¬ (s j).2.2 = 1) : ¬ qm_nar s j = true := by unfold qm_nar; simp [h]
theorem qm_nar_yes {s : Nat → qS} {j : Nat} (h : ¬ (s j).1 = 0) (h2 : (s j).2.2 = 1) : qm_nar s j = true := by unfold qm_nar; simp [h, h2]
theorem qm_fn_no {s : Nat → qS} {j : Nat} (h : ¬ qm_nar s j = true) : ¬ qm_fn s j = true := by unfold qm_fn; rw [Bool.not_eq_true] at h; rw [h]; simp
theorem qm_fn_yes {s : Nat → qS} {j : Nat} (h : qm_nar s j = true) (h2 : ¬ qm_was s (s j).2.1 j = true) : qm_fn s j = true := by unfold qm_fn; rw [Bool.not_eq_true] at h2; rw [h, h2]; rfl
theorem qm_fn_was {s : Nat → qS} {j : Nat} (h : qm_was s (s j).2.1 j = true) : ¬ qm_fn s j = true := by unfold qm_fn; rw [h]; simp
theorem qm_was_new {s : Nat → qS} {j : Nat} {g : Nat → Int32} (hg : ∀ i, i < 256 → g i = if qm_was s i j = true then nI 1 else nI 0) (hna : qm_nar s j = true) : ∀ i, i < 256 → upd g (s j).2.1 (nI 1) i = if qm_was s i (j + 1) = true then nI 1 else nI 0 := fun i hi => by
  show _ = if (qm_was s i j || (qm_nar s j && decide ((s j).2.1 = i))) = true then nI 1 else nI 0
  rw [hna, Bool.true_and]
  by_cases e : i = (s j).2.1
  · rw [e, pk_us, if_pos (by simp)]
  · rw [pk_un e, hg i hi, decide_eq_false (fun q => e q.symm), Bool.or_false]
theorem qm_was_old {s : Nat → qS} {j : Nat} {g : Nat → Int32} (hg : ∀ i, i < 256 → g i = if qm_was s i j = true then nI 1 else nI 0) (h : (¬ qm_nar s j = true) ∨ qm_was s (s j).2.1 j = true) : ∀ i, i < 256 → g i = if qm_was s i (j + 1) = true then nI 1 else nI 0 := fun i hi => by
  have e : qm_was s i (j + 1) = qm_was s i j := by
    show (qm_was s i j || (qm_nar s j && decide ((s j).2.1 = i))) = _
    rcases h with h | h
    · rw [Bool.not_eq_true] at h
      rw [h, Bool.false_and, Bool.or_false]
    · by_cases q : (s j).2.1 = i
      · rw [q] at h; rw [h, Bool.true_or]
      · rw [decide_eq_false q, Bool.and_false, Bool.or_false]
  rw [hg i hi, e]
/-- what the steps of a rule cost together, one up; 0 when it has none -/
def qm_su (s : Nat → qS) (c : Nat → Nat) (r k : Nat) : Nat := if qm_cnt (qm_rs s) k (r + 1) = 0 then 0 else qm_sp s c r k + 1
theorem qm_sp_none {s : Nat → qS} {c : Nat → Nat} {r : Nat} : ∀ {k : Nat}, qm_cnt (qm_rs s) k (r + 1) = 0 → qm_sp s c r k = 0
  | 0, _ => rfl
  | k + 1, h => by
    have h1 : qm_cnt (qm_rs s) k (r + 1) + (if (s k).1 = r + 1 then 1 else 0) = 0 := h
    show qm_sp s c r k + (if (s k).1 = r + 1 then c k else 0) = 0
    by_cases e : (s k).1 = r + 1
    · rw [if_pos e] at h1; omega
    · rw [if_neg e] at h1 ⊢; rw [qm_sp_none (k := k) (by omega)]
theorem qm_su_no {s : Nat → qS} {c : Nat → Nat} {r k : Nat} (h : ¬ (s k).1 = r + 1) : qm_su s c r (k + 1) = qm_su s c r k := by
  unfold qm_su
  have e1 : qm_cnt (qm_rs s) (k + 1) (r + 1) = qm_cnt (qm_rs s) k (r + 1) := by show _ + (if (s k).1 = r + 1 then 1 else 0) = _; rw [if_neg h]; rfl
  have e2 : qm_sp s c r (k + 1) = qm_sp s c r k := by show _ + (if (s k).1 = r + 1 then c k else 0) = _; rw [if_neg h]; rfl
  rw [e1, e2]
theorem qm_su_yes {s : Nat → qS} {c : Nat → Nat} {r k : Nat} (h : (s k).1 = r + 1) : lM (qm_su s c r (k + 1)) = lN (qm_sp s c r k + c k) := by
  unfold qm_su
  have e1 : qm_cnt (qm_rs s) (k + 1) (r + 1) = qm_cnt (qm_rs s) k (r + 1) + 1 := by show _ + (if (s k).1 = r + 1 then 1 else 0) = _; rw [if_pos h]
  have e2 : qm_sp s c r (k + 1) = qm_sp s c r k + c k := by show _ + (if (s k).1 = r + 1 then c k else 0) = _; rw [if_pos h]
  rw [e1, e2, if_neg (by omega)]; exact lM_s _
theorem qm_su_0 {s : Nat → qS} {c : Nat → Nat} {r k : Nat} (h : ¬ 1 ≤ qm_su s c r k) : qm_sp s c r k = 0 := by
  unfold qm_su at h
  by_cases e : qm_cnt (qm_rs s) k (r + 1) = 0
  · exact qm_sp_none e
  · rw [if_neg e] at h; omega
theorem qm_su_1 {s : Nat → qS} {c : Nat → Nat} {r k : Nat} (h : 1 ≤ qm_su s c r k) : lM (qm_su s c r k) = lN (qm_sp s c r k) := by
  unfold qm_su at *
  by_cases e : qm_cnt (qm_rs s) k (r + 1) = 0
  · rw [if_pos e] at h; omega
  · rw [if_neg e]; exact lM_s _
theorem qm_su_le {nr : Nat} {w x : Nat → Nat} {s : Nat → qS} {r k : Nat} (hR : qm_okR nr w x) (ho : ∀ j, j < k → qm_okS nr (s j)) (hk : k ≤ 200) : qm_su s (qm_cost w x s) r k ≤ 26000001 := by
  unfold qm_su
  have a := qm_sp_le (s := s) (c := qm_cost w x s) (r := r) (B := 130000) (n := k) (fun j hj => qm_cost_le hR (ho j hj))
  have b := Nat.mul_le_mul_right 130000 hk
  split <;> omega
theorem qm_su_hit {z : qZ} {r mo : Nat} (h : mo < qm_su (z.2.1.2 10) (qo_c z) r (z.2.1.1 10)) : 0 < qo_u z r ∧ mo < qo_sp z r + 1 := by
  unfold qm_su at h
  unfold qo_u qo_sp
  by_cases e : qm_cnt (qm_rs (z.2.1.2 10)) (z.2.1.1 10) (r + 1) = 0
  · rw [if_pos e] at h; omega
  · rw [if_neg e] at h; exact ⟨by omega, h⟩
theorem qm_su_val {z : qZ} {r mo : Nat} (h : mo < qm_su (z.2.1.2 10) (qo_c z) r (z.2.1.1 10)) : qm_su (z.2.1.2 10) (qo_c z) r (z.2.1.1 10) = qo_sp z r + 1 := by
  unfold qm_su at *
  unfold qo_sp
  by_cases e : qm_cnt (qm_rs (z.2.1.2 10)) (z.2.1.1 10) (r + 1) = 0
  · rw [if_pos e] at h; omega
  · rw [if_neg e]
theorem qm_su_miss {z : qZ} {r mo : Nat} (h : ¬ mo < qm_su (z.2.1.2 10) (qo_c z) r (z.2.1.1 10)) : ¬ (0 < qo_u z r ∧ mo < qo_sp z r + 1) := by
  unfold qm_su at h
  unfold qo_u qo_sp
  by_cases e : qm_cnt (qm_rs (z.2.1.2 10)) (z.2.1.1 10) (r + 1) = 0
  · omega
  · rw [if_neg e] at h; omega
end
section
/-! LEMMAS of the reference's compare (the greatest taken one by one) and same (like counts) -/
theorem qm_cnt_all {α : Type} [DecidableEq α] {f : Nat → α} {v : α} : ∀ {n : Nat}, (∀ j, j < n → f j = v) → qm_cnt f n v = n
  | 0, _ => rfl
  | n + 1, h => by
    show qm_cnt f n v + (if f n = v then 1 else 0) = n + 1
    rw [qm_cnt_all (n := n) (fun j hj => h j (by omega)), if_pos (h n (by omega))]
theorem qm_cnt_full {α : Type} [DecidableEq α] {f : Nat → α} {v : α} : ∀ {n : Nat}, qm_cnt f n v = n → ∀ j, j < n → f j = v
  | 0, _, j, hj => absurd hj (Nat.not_lt_zero j)
  | n + 1, h, j, hj => by
    have h1 : qm_cnt f n v + (if f n = v then 1 else 0) = n + 1 := h
    have h2 := qm_cnt_le (f := f) (v := v) (n := n)
    by_cases e : f n = v
    · rw [if_pos e] at h1
      by_cases q : j = n
      · rw [q]; exact e
      · exact qm_cnt_full (n := n) (by omega) j (by omega)
    · rw [if_neg e] at h1; omega
theorem qm_cnt_qu {α : Type} [DecidableEq α] {f : Nat → α} {x v : α} {a : Nat} : ∀ {n : Nat}, a < n → qm_cnt (qu f a x) n v + (if f a = v then 1 else 0) = qm_cnt f n v + (if x = v then 1 else 0)
  | 0, h => absurd h (Nat.not_lt_zero a)
  | n + 1, h => by
    show qm_cnt (qu f a x) n v + (if qu f a x n = v then 1 else 0) + (if f a = v then 1 else 0) = qm_cnt f n v + (if f n = v then 1 else 0) + (if x = v then 1 else 0)
    by_cases e : a = n
    · subst e
      rw [qu_s, qm_cnt_congr (f := qu f a x) (g := f) (fun k hk => qu_n _ _ (by omega))]
      omega
    · have q := qm_cnt_qu (f := f) (x := x) (v := v) (a := a) (n := n) (by omega)
      rw [qu_n _ _ (fun z => e z.symm)]
      omega
def qm_sel (c d : Nat → Nat) (n t : Nat) (A B : Nat → Nat) : Prop := (∀ j, j < n → A j ≤ 130001 ∧ B j ≤ 130001) ∧ (qm_cnt A n 0 = t ∧ qm_cnt B n 0 = t) ∧ ∃ R : Nat → Nat, ∀ v, qm_cnt c n v = qm_cnt A n (v + 1) + R v ∧ qm_cnt d n v = qm_cnt B n (v + 1) + R v
theorem qm_sel_0 {c d : Nat → Nat} {n : Nat} (hc : ∀ j, j < n → c j ≤ 130000 ∧ d j ≤ 130000) : qm_sel c d n 0 (fun j => c j + 1) (fun j => d j + 1) := by
  refine ⟨fun j hj => ⟨by have := hc j hj; show c j + 1 ≤ 130001; omega, by have := hc j hj; show d j + 1 ≤ 130001; omega⟩, ⟨qm_cnt_zero (fun k _ => Nat.succ_ne_zero _), qm_cnt_zero (fun k _ => Nat.succ_ne_zero _)⟩, fun _ => 0, fun v => ⟨?_, ?_⟩⟩
  · exact qm_cnt_map (fun k _ => ⟨fun h => by rw [h], fun h => Nat.succ.inj h⟩)
  · exact qm_cnt_map (fun k _ => ⟨fun h => by rw [h], fun h => Nat.succ.inj h⟩)
theorem qm_sel_pos {c d : Nat → Nat} {n t : Nat} {A B : Nat → Nat} (h : qm_sel c d n t A B) (ht : t < n) {a b : Nat} (hm : ∀ j, j < n → A j ≤ A a ∧ B j ≤ B b) : 0 < A a := by
  rcases Nat.eq_zero_or_pos (A a) with q | q
  · have := qm_cnt_all (f := A) (v := 0) (n := n) (fun j hj => by have := (hm j hj).1; omega)
    have := h.2.1.1
    omega
  · exact q
theorem qm_sel_next {c d : Nat → Nat} {n t : Nat} {A B : Nat → Nat} (h : qm_sel c d n t A B) (ht : t < n) {a b : Nat} (ha : a < n ∧ b < n) (hm : ∀ j, j < n → A j ≤ A a ∧ B j ≤ B b) (e : A a = B b) : qm_sel c d n (t + 1) (qu A a 0) (qu B b 0) := by
  have hp := qm_sel_pos h ht hm
  obtain ⟨hb, ⟨h1, h2⟩, R, hR⟩ := h
  refine ⟨fun j hj => ⟨?_, ?_⟩, ⟨?_, ?_⟩, fun v => R v + (if A a = v + 1 then 1 else 0), fun v => ⟨?_, ?_⟩⟩
  · by_cases q : j = a
    · rw [q, qu_s]; omega
    · rw [qu_n _ _ q]; exact (hb j hj).1
  · by_cases q : j = b
    · rw [q, qu_s]; omega
    · rw [qu_n _ _ q]; exact (hb j hj).2
  · have q := qm_cnt_qu (f := A) (x := 0) (v := 0) ha.1
    rw [if_neg (by omega), if_pos rfl] at q; omega
  · have q := qm_cnt_qu (f := B) (x := 0) (v := 0) ha.2
    rw [if_neg (by omega), if_pos rfl] at q; omega
  · have q := qm_cnt_qu (f := A) (x := 0) (v := v + 1) ha.1
    rw [if_neg (show ¬ 0 = v + 1 by omega)] at q
    have := (hR v).1
    show _ = _ + (R v + (if A a = v + 1 then 1 else 0))
    omega
  · have q := qm_cnt_qu (f := B) (x := 0) (v := v + 1) ha.2
    rw [if_neg (show ¬ 0 = v + 1 by omega), ← e] at q
    have := (hR v).2
    show _ = _ + (R v + (if A a = v + 1 then 1 else 0))
    omega
theorem qm_sel_end {c d : Nat → Nat} {n t : Nat} {A B : Nat → Nat} (h : qm_sel c d n t A B) (ht : t = n) : qm_ord (fun a b : Nat => a < b) (qm_cnt c n) (qm_cnt d n) (nI 0) := by
  obtain ⟨-, ⟨h1, h2⟩, R, hR⟩ := h
  refine Or.inl ⟨rfl, fun v => ?_⟩
  rw [(hR v).1, (hR v).2, qm_cnt_zero (f := A) (fun k hk => by rw [qm_cnt_full (h1.trans ht) k hk]; omega), qm_cnt_zero (f := B) (fun k hk => by rw [qm_cnt_full (h2.trans ht) k hk]; omega)]
theorem qm_sel_diff {c d : Nat → Nat} {n t : Nat} {A B : Nat → Nat} {r : Int32} (h : qm_sel c d n t A B) {a b : Nat} (ha : a < n ∧ b < n) (hm : ∀ j, j < n → A j ≤ A a ∧ B j ≤ B b) (e : ¬ A a = B b) (sg : qm_sg (lM (A a)) (lM (B b)) r) : qm_ord (fun a b : Nat => a < b) (qm_cnt c n) (qm_cnt d n) r := by
  obtain ⟨hb, -, R, hR⟩ := h
  have b1 := (hb a ha.1).1
  have b2 := (hb b ha.2).2
  rcases sg with ⟨g, er⟩ | ⟨g, er⟩ | ⟨g, er⟩
  · rw [lM_lt (by omega) (by omega)] at g
    refine Or.inr (Or.inr ⟨er, B b - 1, fun u hu => ?_, ?_⟩)
    · rw [(hR u).1, (hR u).2, qm_cnt_zero (f := A) (fun k hk => by have := (hm k hk).1; omega), qm_cnt_zero (f := B) (fun k hk => by have := (hm k hk).2; omega)]
    · rw [(hR _).1, (hR _).2, qm_cnt_zero (f := A) (fun k hk => by have := (hm k hk).1; omega)]
      have p : 0 < qm_cnt B n (B b - 1 + 1) := qm_cnt_of ha.2 (by omega)
      omega
  · exact absurd ((lM_eq (by omega) (by omega)).mp g) e
  · rw [lM_lt (by omega) (by omega)] at g
    refine Or.inr (Or.inl ⟨er, A a - 1, fun u hu => ?_, ?_⟩)
    · rw [(hR u).1, (hR u).2, qm_cnt_zero (f := A) (fun k hk => by have := (hm k hk).1; omega), qm_cnt_zero (f := B) (fun k hk => by have := (hm k hk).2; omega)]
    · rw [(hR _).1, (hR _).2, qm_cnt_zero (f := B) (fun k hk => by have := (hm k hk).2; omega)]
      have p : 0 < qm_cnt A n (A a - 1 + 1) := qm_cnt_of ha.1 (by omega)
      omega
theorem qm_updLM {g : Nat → Int64} {A : Nat → Nat} {n a : Nat} (hg : ∀ j, j < n → g j = lM (A j)) : ∀ j, j < n → vp_updL g a (lM 0) j = lM (qu A a 0 j) := fun j hj => by
  by_cases e : j = a
  · rw [e, pk_uLs, qu_s]
  · rw [pk_uLn e, qu_n _ _ e]; exact hg j hj
theorem qm_updLN {g : Nat → Int64} {c : Nat → Nat} {i : Nat} (hg : ∀ j, j < i → g j = lM (c j + 1)) : ∀ j, j < i + 1 → vp_updL g i (lM (c i + 1)) j = lM (c j + 1) := fun j hj => by
  by_cases e : j = i
  · rw [e, pk_uLs]
  · rw [pk_uLn e]; exact hg j (by omega)
/-- the three ways in which compare ends -/
theorem qo_cmp_0 {z : qZ} {k : Int32} (h : ¬ (¬ k < 0 ∧ k < nI z.2.2.2.1)) : qo_cmp z k (-2) := by unfold qo_cmp; rw [if_neg h]
theorem qo_cmp_1 {z : qZ} {k : Nat} {r : Int32} (hk : k < z.2.2.2.1) (hz : z.2.2.2.1 < 2 ^ 31) (sg : qm_sg (qo_all z) (lN (qm_sum (qm_cost z.1.2.1 z.1.2.2 (z.2.1.2 k)) (z.2.1.1 k))) r) (ne : ¬ r = 0) : qo_cmp z (nI k) r := by
  unfold qo_cmp; rw [if_pos ⟨nI_pos (by omega), nI_lt hk hz⟩, nI_clamp (by omega)]
  exact ⟨r, sg, Or.inl ⟨ne, rfl⟩⟩
theorem qo_cmp_2 {z : qZ} {k : Nat} {r : Int32} (hk : k < z.2.2.2.1) (hz : z.2.2.2.1 < 2 ^ 31) (e : qo_all z = lN (qm_sum (qm_cost z.1.2.1 z.1.2.2 (z.2.1.2 k)) (z.2.1.1 k))) (sg : qm_sg (lN (z.2.1.1 10)) (lN (z.2.1.1 k)) r) (ne : ¬ r = 0) : qo_cmp z (nI k) r := by
  unfold qo_cmp; rw [if_pos ⟨nI_pos (by omega), nI_lt hk hz⟩, nI_clamp (by omega)]
  exact ⟨nI 0, Or.inr (Or.inl ⟨e, rfl⟩), Or.inr ⟨nI_0, r, sg, Or.inl ⟨ne, rfl⟩⟩⟩
theorem qo_cmp_3 {z : qZ} {k : Nat} {r : Int32} (hk : k < z.2.2.2.1) (hz : z.2.2.2.1 < 2 ^ 31) (e : qo_all z = lN (qm_sum (qm_cost z.1.2.1 z.1.2.2 (z.2.1.2 k)) (z.2.1.1 k))) (e2 : z.2.1.1 10 = z.2.1.1 k) (o : qm_ord (fun a b : Nat => a < b) (qm_cnt (qo_c z) (z.2.1.1 10)) (qm_cnt (qm_cost z.1.2.1 z.1.2.2 (z.2.1.2 k)) (z.2.1.1 10)) r) : qo_cmp z (nI k) r := by
  unfold qo_cmp; rw [if_pos ⟨nI_pos (by omega), nI_lt hk hz⟩, nI_clamp (by omega)]
  exact ⟨nI 0, Or.inr (Or.inl ⟨e, rfl⟩), Or.inr ⟨nI_0, nI 0, Or.inr (Or.inl ⟨by rw [e2], rfl⟩), Or.inr ⟨nI_0, o⟩⟩⟩
/-- bags of one size, each element of the one as often in the other: one bag -/
theorem qm_pigL {α : Type} [DecidableEq α] : ∀ (l1 l2 : List α), l1.length = l2.length → (∀ x ∈ l1, l1.count x ≤ l2.count x) → ∀ v, l1.count v = l2.count v
  | [], l2, h, _, v => by
    have : l2 = [] := List.eq_nil_of_length_eq_zero h.symm
    rw [this]
  | x :: t, l2, h, hc, v => by
    have hx : x ∈ l2 := by
      have q := hc x List.mem_cons_self
      rw [List.count_cons_self] at q
      exact List.count_pos_iff.mp (by omega)
    have hl : (l2.erase x).length = t.length := by
      rw [List.length_erase_of_mem hx, ← h, List.length_cons]; omega
    have ih := qm_pigL t (l2.erase x) hl.symm (fun y hy => by
      have q := hc y (List.mem_cons_of_mem _ hy)
      rw [List.count_cons] at q
      rw [List.count_erase]
      have : (x == y) = (y == x) := by rw [Bool.beq_comm]
      by_cases e : x == y
      · rw [e] at q; simp only [if_true] at q; rw [e]; simp only [if_true]; omega
      · rw [Bool.not_eq_true] at e; rw [e] at q; rw [e]; simp at q ⊢; exact q)
    have a := ih v
    rw [List.count_erase] at a
    rw [List.count_cons]
    by_cases e : x == v
    · have p : 0 < l2.count v := by rw [← eq_of_beq e]; exact List.count_pos_iff.mpr hx
      rw [e] at a ⊢; simp only [if_true] at a ⊢; omega
    · rw [Bool.not_eq_true] at e; rw [e] at a ⊢; simp at a ⊢; exact a
theorem qm_cntL {α : Type} [DecidableEq α] (f : Nat → α) (v : α) : ∀ n, qm_cnt f n v = ((List.range n).map f).count v
  | 0 => rfl
  | n + 1 => by
    rw [List.range_succ, List.map_append, List.count_append, ← qm_cntL f v n]
    show qm_cnt f n v + (if f n = v then 1 else 0) = qm_cnt f n v + List.count v [f n]
    rw [List.count_singleton]
    by_cases e : f n = v
    · rw [if_pos e, e]; simp
    · rw [if_neg e]; simp [e]
theorem qm_pig {α : Type} [DecidableEq α] {f g : Nat → α} {n : Nat} (h : ∀ k, k < n → qm_cnt g n (f k) = qm_cnt f n (f k)) (v : α) : qm_cnt g n v = qm_cnt f n v := by
  rw [qm_cntL, qm_cntL]
  refine (qm_pigL _ _ (by simp) (fun x hx => ?_) v).symm
  obtain ⟨k, hk, rfl⟩ := List.mem_map.mp hx
  rw [← qm_cntL, ← qm_cntL, h k (List.mem_range.mp hk)]
  exact Nat.le_refl _
theorem qo_same_no {z : qZ} {k : Int32} (h : ¬ ((¬ k < 0 ∧ k < nI z.2.2.2.1) ∧ z.2.1.1 k.toNatClampNeg = z.2.1.1 10 ∧ (∀ v, qm_cnt (z.2.1.2 k.toNatClampNeg) (z.2.1.1 10) v = qm_cnt (z.2.1.2 10) (z.2.1.1 10) v))) : qo_same z k (nI 0) := Or.inr ⟨h, rfl⟩
theorem qo_same_yes {z : qZ} {k : Nat} (hk : k < z.2.2.2.1) (hz : z.2.2.2.1 < 2 ^ 31) (e : z.2.1.1 k = z.2.1.1 10) (h : ∀ v, qm_cnt (z.2.1.2 k) (z.2.1.1 10) v = qm_cnt (z.2.1.2 10) (z.2.1.1 10) v) : qo_same z (nI k) (nI 1) := by
  refine Or.inl ⟨⟨nI_pos (by omega), nI_lt hk hz⟩, ?_, ?_, rfl⟩
  · rw [nI_clamp (by omega)]; exact e
  · rw [nI_clamp (by omega)]; exact h
end
section
/-! LEMMAS of the class's state -/
def qm_cd (z : qS) : Int32 := qm_code (nM z.1) (nI (qm_pl z)) (nI (qm_wd z))
/-- the rules' part, the steps' part -/
def qX_R (nr : Nat) (w x : Nat → Nat) (s : Nat → qS) (n : Nat) (fw fx fu : Nat → Int32) (fs : Nat → Int64) : Prop := (∀ i, i < nr → fw i = nI (w i) ∧ fx i = nI (x i)) ∧ ∀ i, i < 40 → fu i = nI (qm_cnt (qm_rs s) n (i + 1)) ∧ fs i = lN (qm_sp s (qm_cost w x s) i n)
def qX_S (c : Nat → Nat) (s : Nat → qS) (n : Nat) (fr fp fd fc ff : Nat → Int32) (ft : Nat → Int64) (f1 f2 : Nat → Int32) : Prop :=
  (∀ j, j < n → fr j = nM (s j).1 ∧ fp j = nI (qm_pl (s j)) ∧ fd j = nI (qm_wd (s j)) ∧ fc j = nI (c j) ∧ ff j = if qm_fn s j = true then nI 1 else nI 0) ∧ (∀ j, j ≤ n → ft j = lN (qm_sum c j)) ∧ qm_of f1 (fun j => nI (c j)) n ∧ qm_of f2 (fun j => qm_cd (s j)) n
theorem qm_pl_le {nr : Nat} {z : qS} (h : qm_okS nr z) : qm_pl z ≤ 255 := by
  unfold qm_pl
  rcases h with h | h <;> split <;> omega
theorem qm_cost_old {nr : Nat} {w x : Nat → Nat} {s : Nat → qS} {n j : Nat} {t : qS} (ho : ∀ j, j < n → qm_okS nr (s j)) (hj : j < n) : qm_cost w x (qu s n t) j = qm_cost w x s j :=
  qm_cost_congr (ho j hj) (fun _ _ => ⟨rfl, rfl⟩) (fun i hi => qu_n _ _ (by omega))
theorem qm_cost_new1 {w x : Nat → Nat} {s : Nat → qS} {n r p b pr : Nat} (h : pr = w r * (12 - b) / 4 + (if qm_cnt (qm_rs s) n (r + 1) = 0 then x r else 0)) : qm_cost w x (qu s n (r + 1, p, b)) n = pr := by
  unfold qm_cost
  rw [qu_s, if_neg (Nat.succ_ne_zero r), h]
  have e : qm_cnt (qm_rs (qu s n (r + 1, p, b))) n (r + 1) = qm_cnt (qm_rs s) n (r + 1) := qm_cnt_congr (fun k hk => by unfold qm_rs; rw [qu_n _ _ (by omega)])
  show w (r + 1 - 1) * (12 - b) / 4 + (if qm_cnt (qm_rs (qu s n (r + 1, p, b))) n (r + 1) = 0 then x (r + 1 - 1) else 0) = _
  rw [e, Nat.add_sub_cancel]
theorem qm_cost_new0 {w x : Nat → Nat} {s : Nat → qS} {n d pr : Nat} (h : pr = if 0 < n ∧ (s (n - 1)).1 = 0 then 2000 * d else 1000 * d) : qm_cost w x (qu s n (0, d, 0)) n = pr := by
  unfold qm_cost
  rw [qu_s, if_pos rfl, h]
  show (if 0 < n ∧ (qu s n (0, d, 0) (n - 1)).1 = 0 then 2000 * d else 1000 * d) = _
  rcases Nat.eq_zero_or_pos n with q | q
  · rw [if_neg (by omega), if_neg (by omega)]
  · rw [qu_n _ _ (show ¬ n - 1 = n by omega)]
theorem qX_pushS {nr : Nat} {w x : Nat → Nat} {s : Nat → qS} {n : Nat} {t : qS} {fr fp fd fc ff f1 f2 u1 u2 : Nat → Int32} {ft : Nat → Int64} {pr pl wd : Nat} {bv : Int32} (ho : ∀ j, j < n → qm_okS nr (s j)) (hS : qX_S (qm_cost w x s) s n fr fp fd fc ff ft f1 f2) (hpr : qm_cost w x (qu s n t) n = pr) (hpl : qm_pl t = pl) (hwd : qm_wd t = wd)
    (hbv : bv = if ¬ t.1 = 0 ∧ wd = 1 ∧ ¬ qm_wasF s pl n = true then nI 1 else nI 0) (h1 : qm_ins f1 n (nI pr) u1) (h2 : qm_ins f2 n (qm_code (nM t.1) (nI pl) (nI wd)) u2) :
    qX_S (qm_cost w x (qu s n t)) (qu s n t) (n + 1) (upd fr n (nM t.1)) (upd fp n (nI pl)) (upd fd n (nI wd)) (upd fc n (nI pr)) (upd ff n bv) (vp_updL ft (n + 1) (lN (qm_sum (qm_cost w x s) n + pr))) u1 u2 := by
  obtain ⟨hst, htt, ho1, ho2⟩ := hS
  have hc : ∀ j, j < n → qm_cost w x (qu s n t) j = qm_cost w x s j := fun j hj => qm_cost_old ho hj
  have hs : ∀ j, j < n → qu s n t j = s j := fun j hj => qu_n _ _ (by omega)
  refine ⟨fun j hj => ?_, fun j hj => ?_, ?_, ?_⟩
  · by_cases e : j = n
    · rw [e, pk_us, pk_us, pk_us, pk_us, pk_us, qu_s, hpl, hwd, hpr]
      refine ⟨rfl, rfl, rfl, rfl, ?_⟩
      rw [hbv]
      have hfn : (qm_fn (qu s n t) n = true) ↔ (¬ t.1 = 0 ∧ wd = 1 ∧ ¬ qm_wasF s pl n = true) := by
        unfold qm_fn qm_nar
        rw [qu_s, qm_was_congr (t := s) hs, qm_was_F]
        by_cases e0 : t.1 = 0
        · simp [e0]
        · have e1 : t.2.1 = pl := by rw [← hpl]; unfold qm_pl; rw [if_neg e0]
          have e2 : t.2.2 = wd := by rw [← hwd]; unfold qm_wd; rw [if_neg e0]
          rw [e1, e2]; simp [e0]
      by_cases q : ¬ t.1 = 0 ∧ wd = 1 ∧ ¬ qm_wasF s pl n = true
      · rw [if_pos q, if_pos (hfn.mpr q)]
      · rw [if_neg q, if_neg (fun z => q (hfn.mp z))]
    · rw [pk_un e, pk_un e, pk_un e, pk_un e, pk_un e, hs j (by omega), hc j (by omega), qm_fn_congr (t := s) (fun i hi => hs i (by omega))]
      exact hst j (by omega)
  · by_cases e : j = n + 1
    · rw [e, pk_uLs]
      show _ = lN (qm_sum (qm_cost w x (qu s n t)) n + qm_cost w x (qu s n t) n)
      rw [hpr, qm_sum_congr hc]
    · rw [pk_uLn e, htt j (by omega), qm_sum_congr (fun k hk => hc k (by omega))]
  · refine qm_of_ins (g := fun j => nI (qm_cost w x (qu s n t) j)) (qm_of_congr ho1 (fun j hj => by show nI _ = nI _; rw [hc j hj])) ?_
    show qm_ins f1 n (nI (qm_cost w x (qu s n t) n)) u1
    rw [hpr]; exact h1
  · refine qm_of_ins (g := fun j => qm_cd (qu s n t j)) (qm_of_congr ho2 (fun j hj => by show qm_cd _ = qm_cd _; rw [hs j hj])) ?_
    show qm_ins f2 n (qm_cd (qu s n t n)) u2
    rw [qu_s]; unfold qm_cd; rw [hpl, hwd]; exact h2
theorem qm_cnt_push {s : Nat → qS} {n v : Nat} {t : qS} : qm_cnt (qm_rs (qu s n t)) (n + 1) v = qm_cnt (qm_rs s) n v + (if t.1 = v then 1 else 0) := by
  show qm_cnt (qm_rs (qu s n t)) n v + (if (qu s n t n).1 = v then 1 else 0) = _
  rw [qu_s, qm_cnt_congr (g := qm_rs s) (fun k hk => by unfold qm_rs; rw [qu_n _ _ (by omega)])]
theorem qm_sp_push {nr : Nat} {w x : Nat → Nat} {s : Nat → qS} {n r pr : Nat} {t : qS} (ho : ∀ j, j < n → qm_okS nr (s j)) (hpr : qm_cost w x (qu s n t) n = pr) : qm_sp (qu s n t) (qm_cost w x (qu s n t)) r (n + 1) = qm_sp s (qm_cost w x s) r n + (if t.1 = r + 1 then pr else 0) := by
  show qm_sp (qu s n t) (qm_cost w x (qu s n t)) r n + (if (qu s n t n).1 = r + 1 then qm_cost w x (qu s n t) n else 0) = _
  rw [qu_s, hpr, qm_sp_congr (t := s) (d := qm_cost w x s) (fun k hk => ⟨qm_cost_old ho hk, qu_n _ _ (by omega)⟩)]
theorem qX_pushR {nr : Nat} {w x : Nat → Nat} {s : Nat → qS} {n r pr : Nat} {t : qS} {fw fx fu : Nat → Int32} {fs : Nat → Int64} (ho : ∀ j, j < n → qm_okS nr (s j)) (hX : qX_R nr w x s n fw fx fu fs) (ht : t.1 = r + 1) (hpr : qm_cost w x (qu s n t) n = pr) :
    qX_R nr w x (qu s n t) (n + 1) fw fx (upd fu r (nI (qm_cnt (qm_rs s) n (r + 1) + 1))) (vp_updL fs r (lN (qm_sp s (qm_cost w x s) r n + pr))) := by
  refine ⟨hX.1, fun i hi => ?_⟩
  rw [qm_cnt_push, qm_sp_push ho hpr, ht]
  by_cases e : i = r
  · rw [e, pk_us, pk_uLs, if_pos rfl, if_pos rfl]; exact ⟨rfl, rfl⟩
  · rw [pk_un e, pk_uLn e, if_neg (by omega), if_neg (by omega)]
    exact hX.2 i hi
theorem qX_pushR0 {nr : Nat} {w x : Nat → Nat} {s : Nat → qS} {n pr : Nat} {t : qS} {fw fx fu : Nat → Int32} {fs : Nat → Int64} (ho : ∀ j, j < n → qm_okS nr (s j)) (hX : qX_R nr w x s n fw fx fu fs) (ht : t.1 = 0) (hpr : qm_cost w x (qu s n t) n = pr) :
    qX_R nr w x (qu s n t) (n + 1) fw fx fu fs := by
  refine ⟨hX.1, fun i hi => ?_⟩
  rw [qm_cnt_push, qm_sp_push ho hpr, ht, if_neg (by omega), if_neg (by omega)]
  exact hX.2 i hi
theorem qX_popS {c : Nat → Nat} {s : Nat → qS} {n : Nat} {fr fp fd fc ff f1 f2 u1 u2 : Nat → Int32} {ft : Nat → Int64} (hS : qX_S c s (n + 1) fr fp fd fc ff ft f1 f2) (h1 : qm_del f1 n (nI (c n)) u1) (h2 : qm_del f2 n (qm_cd (s n)) u2) : qX_S c s n fr fp fd fc ff ft u1 u2 :=
  ⟨fun j hj => hS.1 j (by omega), fun j hj => hS.2.1 j (by omega), qm_of_del (g := fun j => nI (c j)) hS.2.2.1 h1, qm_of_del (g := fun j => qm_cd (s j)) hS.2.2.2 h2⟩
theorem qX_popR {nr : Nat} {w x : Nat → Nat} {s : Nat → qS} {n r : Nat} {fw fx fu : Nat → Int32} {fs : Nat → Int64} (hX : qX_R nr w x s (n + 1) fw fx fu fs) (ht : (s n).1 = r + 1) :
    qX_R nr w x s n fw fx (upd fu r (nI (qm_cnt (qm_rs s) n (r + 1)))) (vp_updL fs r (lN (qm_sp s (qm_cost w x s) r n))) := by
  refine ⟨hX.1, fun i hi => ?_⟩
  have a := hX.2 i hi
  by_cases e : i = r
  · rw [e, pk_us, pk_uLs]; exact ⟨rfl, rfl⟩
  · rw [pk_un e, pk_uLn e]
    have e1 : qm_cnt (qm_rs s) (n + 1) (i + 1) = qm_cnt (qm_rs s) n (i + 1) := by show _ + (if (s n).1 = i + 1 then 1 else 0) = _; rw [if_neg (by omega)]; rfl
    have e2 : qm_sp s (qm_cost w x s) i (n + 1) = qm_sp s (qm_cost w x s) i n := by show _ + (if (s n).1 = i + 1 then _ else 0) = _; rw [if_neg (by omega)]; rfl
    rw [← e1, ← e2]; exact a
theorem qX_popR0 {nr : Nat} {w x : Nat → Nat} {s : Nat → qS} {n : Nat} {fw fx fu : Nat → Int32} {fs : Nat → Int64} (hX : qX_R nr w x s (n + 1) fw fx fu fs) (ht : (s n).1 = 0) : qX_R nr w x s n fw fx fu fs := by
  refine ⟨hX.1, fun i hi => ?_⟩
  have a := hX.2 i hi
  have e1 : qm_cnt (qm_rs s) (n + 1) (i + 1) = qm_cnt (qm_rs s) n (i + 1) := by show _ + (if (s n).1 = i + 1 then 1 else 0) = _; rw [if_neg (by omega)]; rfl
  have e2 : qm_sp s (qm_cost w x s) i (n + 1) = qm_sp s (qm_cost w x s) i n := by show _ + (if (s n).1 = i + 1 then _ else 0) = _; rw [if_neg (by omega)]; rfl
  rw [← e1, ← e2]; exact a
theorem qX_ruleC {nr : Nat} {w x : Nat → Nat} {s : Nat → qS} {j a b : Nat} (hs : qm_okS nr (s j)) : qm_cost (qu w nr a) (qu x nr b) s j = qm_cost w x s j :=
  qm_cost_congr hs (fun i hi => ⟨qu_n _ _ (by omega), qu_n _ _ (by omega)⟩) (fun _ _ => rfl)
theorem qX_rule {nr : Nat} {w x : Nat → Nat} {s : Nat → qS} {n a1 b1 : Nat} {a b : Int32} {fw fx fu : Nat → Int32} {fs : Nat → Int64} (ho : ∀ j, j < n → qm_okS nr (s j)) (hX : qX_R nr w x s n fw fx fu fs) (ea : a = nI a1) (eb : b = nI b1) (ha : a1 < 2 ^ 31) (hb : b1 < 2 ^ 31) :
    qX_R (nr + 1) (qu w nr a.toNatClampNeg) (qu x nr b.toNatClampNeg) s n (upd fw nr a) (upd fx nr b) fu fs := by
  subst ea; subst eb
  rw [nI_clamp ha, nI_clamp hb]
  refine ⟨fun i hi => qm_two hX.1 hi, fun i hi => ?_⟩
  rw [qm_sp_congr (t := s) (d := qm_cost w x s) (fun k hk => ⟨qX_ruleC (ho k hk), rfl⟩)]
  exact hX.2 i hi
theorem qX_ruleS {nr : Nat} {w x : Nat → Nat} {s : Nat → qS} {n a b : Nat} {fr fp fd fc ff f1 f2 : Nat → Int32} {ft : Nat → Int64} (ho : ∀ j, j < n → qm_okS nr (s j)) (hS : qX_S (qm_cost w x s) s n fr fp fd fc ff ft f1 f2) : qX_S (qm_cost (qu w nr a) (qu x nr b) s) s n fr fp fd fc ff ft f1 f2 := by
  have hc : ∀ j, j < n → qm_cost (qu w nr a) (qu x nr b) s j = qm_cost w x s j := fun j hj => qX_ruleC (ho j hj)
  refine ⟨fun j hj => ?_, fun j hj => ?_, qm_of_congr hS.2.2.1 (fun j hj => by show nI _ = nI _; rw [hc j hj]), hS.2.2.2⟩
  · rw [hc j hj]; exact hS.1 j hj
  · rw [hS.2.1 j hj, qm_sum_congr (fun k hk => (hc k (by omega)).symm)]
end
section
/-- the words that every method may take along -/
def qTb : List Cond := lw_tbl.filter goodWord
/-- the links to private members of nest mates -/
def qNs : List Cond := [(Jvm.Cond.methodLinkNest "GradeRows" (9 : Nat) ({ cls := "GradeRows$Rules", name := "<init>", desc := "()V" } : Jvm.MethodName) "GradeRows"), (Jvm.Cond.methodLinkNest "GradeRows" (18 : Nat) ({ cls := "GradeRows$Steps", name := "<init>", desc := "()V" } : Jvm.MethodName) "GradeRows"), (Jvm.Cond.methodLinkNest "GradeRows" (25 : Nat) ({ cls := "GradeRows$Classes", name := "<init>", desc := "()V" } : Jvm.MethodName) "GradeRows"), (Jvm.Cond.fieldLinkNest "GradeRows$Steps" (96 : Nat) "GradeRows$Row" "total" "J" "GradeRows"), (Jvm.Cond.fieldLinkNest "GradeRows$Steps" (103 : Nat) "GradeRows$Row" "prices" "LGradeRows$Sorted;" "GradeRows"), (Jvm.Cond.fieldLinkNest "GradeRows$Steps" (112 : Nat) "GradeRows$Row" "codes" "LGradeRows$Sorted;" "GradeRows"), (Jvm.Cond.methodLinkNest "GradeRows$Steps" (99 : Nat) ({ cls := "GradeRows", name := "order", desc := "(JJ)I" } : Jvm.MethodName) "GradeRows"), (Jvm.Cond.methodLinkNest "GradeRows$Sorted" (32 : Nat) ({ cls := "GradeRows", name := "order", desc := "(JJ)I" } : Jvm.MethodName) "GradeRows")]
def qNw (U : State) : Prop := (∀ w ∈ qNs, va_Nw w U) ∧ va_AO "GradeRows$Row" U
def TX0 : u_T := fun k => match k with
  | 0 => ("GradeRows$Classes", "lows", "[J", true)
  | 1 => ("GradeRows$Classes", "highs", "[J", true)
  | _ => ("GradeRows$Classes", "count", "I", false)
def tyX0 : Nat → FieldType := fun k => match k with
  | 0 => .array .long
  | 1 => .array .long
  | _ => .int
theorem nmX0 : ∀ a, a < 3 → ∀ b, b < 3 → a ≠ b → (TX0 a).2.1 ≠ (TX0 b).2.1 := by decide +kernel
theorem tyX0_ok : ∀ k, k < 3 → parseFieldDescriptor (TX0 k).2.2.1 = some (tyX0 k) := by decide +kernel
theorem inX0 : ∀ w ∈ u_ws "GradeRows$Classes" TX0 3, w ∈ qTb := by decide +kernel
def TX1 : u_T := fun k => match k with
  | 0 => ("GradeRows$Row", "total", "J", true)
  | 1 => ("GradeRows$Row", "prices", "LGradeRows$Sorted;", true)
  | _ => ("GradeRows$Row", "codes", "LGradeRows$Sorted;", true)
def tyX1 : Nat → FieldType := fun k => match k with
  | 0 => .long
  | 1 => .object "GradeRows$Sorted"
  | _ => .object "GradeRows$Sorted"
theorem nmX1 : ∀ a, a < 3 → ∀ b, b < 3 → a ≠ b → (TX1 a).2.1 ≠ (TX1 b).2.1 := by decide +kernel
theorem tyX1_ok : ∀ k, k < 3 → parseFieldDescriptor (TX1 k).2.2.1 = some (tyX1 k) := by decide +kernel
theorem inX1 : ∀ w ∈ u_ws "GradeRows$Row" TX1 3, w ∈ qTb := by decide +kernel
def TX2 : u_T := fun k => match k with
  | 0 => ("GradeRows$Rules", "weights", "[I", true)
  | 1 => ("GradeRows$Rules", "extras", "[I", true)
  | 2 => ("GradeRows$Rules", "uses", "[I", true)
  | 3 => ("GradeRows$Rules", "spent", "[J", true)
  | _ => ("GradeRows$Rules", "count", "I", false)
def tyX2 : Nat → FieldType := fun k => match k with
  | 0 => .array .int
  | 1 => .array .int
  | 2 => .array .int
  | 3 => .array .long
  | _ => .int
theorem nmX2 : ∀ a, a < 5 → ∀ b, b < 5 → a ≠ b → (TX2 a).2.1 ≠ (TX2 b).2.1 := by decide +kernel
theorem tyX2_ok : ∀ k, k < 5 → parseFieldDescriptor (TX2 k).2.2.1 = some (tyX2 k) := by decide +kernel
theorem inX2 : ∀ w ∈ u_ws "GradeRows$Rules" TX2 5, w ∈ qTb := by decide +kernel
def TX3 : u_T := fun k => match k with
  | 0 => ("GradeRows$Sorted", "items", "[I", true)
  | _ => ("GradeRows$Sorted", "size", "I", false)
def tyX3 : Nat → FieldType := fun k => match k with
  | 0 => .array .int
  | _ => .int
theorem nmX3 : ∀ a, a < 2 → ∀ b, b < 2 → a ≠ b → (TX3 a).2.1 ≠ (TX3 b).2.1 := by decide +kernel
theorem tyX3_ok : ∀ k, k < 2 → parseFieldDescriptor (TX3 k).2.2.1 = some (tyX3 k) := by decide +kernel
theorem inX3 : ∀ w ∈ u_ws "GradeRows$Sorted" TX3 2, w ∈ qTb := by decide +kernel
def TX4 : u_T := fun k => match k with
  | 0 => ("GradeRows$Steps", "ruleOf", "[I", true)
  | 1 => ("GradeRows$Steps", "placeOf", "[I", true)
  | 2 => ("GradeRows$Steps", "widthOf", "[I", true)
  | 3 => ("GradeRows$Steps", "priceOf", "[I", true)
  | 4 => ("GradeRows$Steps", "isFirstNarrow", "[Z", true)
  | 5 => ("GradeRows$Steps", "totals", "[J", true)
  | 6 => ("GradeRows$Steps", "prices", "LGradeRows$Sorted;", true)
  | 7 => ("GradeRows$Steps", "codes", "LGradeRows$Sorted;", true)
  | _ => ("GradeRows$Steps", "count", "I", false)
def tyX4 : Nat → FieldType := fun k => match k with
  | 0 => .array .int
  | 1 => .array .int
  | 2 => .array .int
  | 3 => .array .int
  | 4 => .array .boolean
  | 5 => .array .long
  | 6 => .object "GradeRows$Sorted"
  | 7 => .object "GradeRows$Sorted"
  | _ => .int
theorem nmX4 : ∀ a, a < 9 → ∀ b, b < 9 → a ≠ b → (TX4 a).2.1 ≠ (TX4 b).2.1 := by decide +kernel
theorem tyX4_ok : ∀ k, k < 9 → parseFieldDescriptor (TX4 k).2.2.1 = some (tyX4 k) := by decide +kernel
theorem inX4 : ∀ w ∈ u_ws "GradeRows$Steps" TX4 9, w ∈ qTb := by decide +kernel
def TX5 : u_T := fun k => match k with
  | 0 => ("GradeRows", "rules", "LGradeRows$Rules;", true)
  | 1 => ("GradeRows", "steps", "LGradeRows$Steps;", true)
  | 2 => ("GradeRows", "classes", "LGradeRows$Classes;", true)
  | 3 => ("GradeRows", "kept", "[LGradeRows$Row;", true)
  | 4 => ("GradeRows", "keptCount", "I", false)
  | _ => ("GradeRows", "cursor", "I", false)
def tyX5 : Nat → FieldType := fun k => match k with
  | 0 => .object "GradeRows$Rules"
  | 1 => .object "GradeRows$Steps"
  | 2 => .object "GradeRows$Classes"
  | 3 => .array (.object "GradeRows$Row")
  | 4 => .int
  | _ => .int
theorem nmX5 : ∀ a, a < 6 → ∀ b, b < 6 → a ≠ b → (TX5 a).2.1 ≠ (TX5 b).2.1 := by decide +kernel
theorem tyX5_ok : ∀ k, k < 6 → parseFieldDescriptor (TX5 k).2.2.1 = some (tyX5 k) := by decide +kernel
theorem inX5 : ∀ w ∈ u_ws "GradeRows" TX5 6, w ∈ qTb := by decide +kernel
def TX6 : u_T := fun k => match k with
  | 0 => ("GradeRowsModel", "thrown", "I", false)
  | 1 => ("GradeRowsModel", "rules", "I", false)
  | 2 => ("GradeRowsModel", "weights", "[I", true)
  | 3 => ("GradeRowsModel", "extras", "[I", true)
  | 4 => ("GradeRowsModel", "sizes", "[I", true)
  | 5 => ("GradeRowsModel", "byRule", "[I", true)
  | 6 => ("GradeRowsModel", "where", "[I", true)
  | 7 => ("GradeRowsModel", "widths", "[I", true)
  | 8 => ("GradeRowsModel", "kept", "I", false)
  | 9 => ("GradeRowsModel", "classes", "I", false)
  | 10 => ("GradeRowsModel", "lows", "[J", true)
  | 11 => ("GradeRowsModel", "highs", "[J", true)
  | 12 => ("GradeRowsModel", "cursor", "I", false)
  | 13 => ("GradeRowsModel", "seen", "[Z", true)
  | 14 => ("GradeRowsModel", "mine", "[J", true)
  | _ => ("GradeRowsModel", "theirs", "[J", true)
def tyX6 : Nat → FieldType := fun k => match k with
  | 0 => .int
  | 1 => .int
  | 2 => .array .int
  | 3 => .array .int
  | 4 => .array .int
  | 5 => .array .int
  | 6 => .array .int
  | 7 => .array .int
  | 8 => .int
  | 9 => .int
  | 10 => .array .long
  | 11 => .array .long
  | 12 => .int
  | 13 => .array .boolean
  | 14 => .array .long
  | _ => .array .long
theorem nmX6 : ∀ a, a < 16 → ∀ b, b < 16 → a ≠ b → (TX6 a).2.1 ≠ (TX6 b).2.1 := by decide +kernel
theorem tyX6_ok : ∀ k, k < 16 → parseFieldDescriptor (TX6 k).2.2.1 = some (tyX6 k) := by decide +kernel
theorem inX6 : ∀ w ∈ u_ws "GradeRowsModel" TX6 16, w ∈ qTb := by decide +kernel
/-- the classes whose objects the worlds hold -/
abbrev vwCl : List vw_C := [("GradeRows$Classes", TX0, 3), ("GradeRows$Row", TX1, 3), ("GradeRows$Rules", TX2, 5), ("GradeRows$Sorted", TX3, 2), ("GradeRows$Steps", TX4, 9), ("GradeRows", TX5, 6), ("GradeRowsModel", TX6, 16)]
theorem qW_all {w : Cond} (h : w ∈ qTb) : goodWord w = true := (List.mem_filter.mp h).2
theorem qW_good {c : Cond} (h : c ∈ qTb) : GoodIn qTb (c :: qTb) := fun w hw => by
  rcases List.mem_cons.mp hw with e | e
  · subst e; exact ⟨h, good_of_word (qW_all h)⟩
  · exact ⟨e, good_of_word (qW_all e)⟩
theorem qW_more {ws ms : List Cond} (h : GoodIn qTb ws) (hm : ∀ w ∈ ms, w ∈ qTb) : GoodIn qTb (ms ++ ws) := fun w hw => by
  rcases List.mem_append.mp hw with e | e
  · exact ⟨hm w e, good_of_word (qW_all (hm w e))⟩
  · exact h w e
theorem qW_V {own C : String} {idx : Nat} {y : MethodName} {c : Cond} (h1 : Cond.methodLink own idx y ∈ qTb) (h2 : Cond.instanceMethod y ∈ qTb) (h3 : Cond.selects C y y ∈ qTb) (h4 : Cond.initialized C ∈ qTb) (hc : c ∈ qTb) : GoodIn qTb (wsV own idx C y (c :: qTb)) :=
  qW_more (qW_good hc) (fun w hw => by
    simp only [List.mem_cons, List.not_mem_nil, or_false] at hw
    rcases hw with rfl | rfl | rfl | rfl
    · exact h1
    · exact h2
    · exact h3
    · exact h4)
theorem qW_S {own : String} {idx : Nat} {y : MethodName} {c : Cond} (h1 : Cond.methodLink own idx y ∈ qTb) (h2 : Cond.static y ∈ qTb) (h4 : Cond.initialized y.cls ∈ qTb) (hc : c ∈ qTb) : GoodIn qTb (va_wsS own idx y (c :: qTb)) :=
  qW_more (qW_good hc) (fun w hw => by
    simp only [List.mem_cons, List.not_mem_nil, or_false] at hw
    rcases hw with rfl | rfl | rfl
    · exact h1
    · exact h2
    · exact h4)
abbrev cX5_init : ByteArray := prog_1_method_1_code
def yX5_init : MethodName := ⟨"GradeRows", "<init>", "()V"⟩
abbrev wsX5_init : List Cond := .code yX5_init cX5_init 1 none :: qTb
abbrev cX2_init : ByteArray := prog_4_method_1_code
def yX2_init : MethodName := ⟨"GradeRows$Rules", "<init>", "()V"⟩
abbrev wsX2_init : List Cond := .code yX2_init cX2_init 1 none :: qTb
abbrev cX4_init : ByteArray := prog_6_method_1_code
def yX4_init : MethodName := ⟨"GradeRows$Steps", "<init>", "()V"⟩
abbrev wsX4_init : List Cond := .code yX4_init cX4_init 1 none :: qTb
abbrev cX3_init : ByteArray := prog_5_method_1_code
def yX3_init : MethodName := ⟨"GradeRows$Sorted", "<init>", "([II)V"⟩
abbrev wsX3_init : List Cond := .code yX3_init cX3_init 3 none :: qTb
abbrev cX0_init : ByteArray := prog_2_method_1_code
def yX0_init : MethodName := ⟨"GradeRows$Classes", "<init>", "()V"⟩
abbrev wsX0_init : List Cond := .code yX0_init cX0_init 1 none :: qTb
abbrev cX5_rule : ByteArray := prog_1_method_2_code
def yX5_rule : MethodName := ⟨"GradeRows", "rule", "(II)I"⟩
abbrev wsX5_rule : List Cond := .code yX5_rule cX5_rule 3 (some .int) :: qTb
abbrev cX5_isWithin : ByteArray := prog_1_method_23_code
def yX5_isWithin : MethodName := ⟨"GradeRows", "isWithin", "(III)Z"⟩
abbrev wsX5_isWithin : List Cond := .code yX5_isWithin cX5_isWithin 3 (some .boolean) :: qTb
abbrev cX2_add : ByteArray := prog_4_method_3_code
def yX2_add : MethodName := ⟨"GradeRows$Rules", "add", "(II)I"⟩
abbrev wsX2_add : List Cond := .code yX2_add cX2_add 3 (some .int) :: qTb
abbrev cX5_used : ByteArray := prog_1_method_3_code
def yX5_used : MethodName := ⟨"GradeRows", "used", "(III)I"⟩
abbrev wsX5_used : List Cond := .code yX5_used cX5_used 5 (some .int) :: qTb
abbrev cX2_has : ByteArray := prog_4_method_2_code
def yX2_has : MethodName := ⟨"GradeRows$Rules", "has", "(I)Z"⟩
abbrev wsX2_has : List Cond := .code yX2_has cX2_has 2 (some .boolean) :: qTb
abbrev cX4_isFull : ByteArray := prog_6_method_3_code
def yX4_isFull : MethodName := ⟨"GradeRows$Steps", "isFull", "()Z"⟩
abbrev wsX4_isFull : List Cond := .code yX4_isFull cX4_isFull 1 (some .boolean) :: qTb
abbrev cX2_priceOfNext : ByteArray := prog_4_method_4_code
def yX2_priceOfNext : MethodName := ⟨"GradeRows$Rules", "priceOfNext", "(II)I"⟩
abbrev wsX2_priceOfNext : List Cond := .code yX2_priceOfNext cX2_priceOfNext 4 (some .int) :: qTb
abbrev cX2_noteStep : ByteArray := prog_4_method_5_code
def yX2_noteStep : MethodName := ⟨"GradeRows$Rules", "noteStep", "(II)V"⟩
abbrev wsX2_noteStep : List Cond := .code yX2_noteStep cX2_noteStep 3 none :: qTb
abbrev cX4_add : ByteArray := prog_6_method_11_code
def yX4_add : MethodName := ⟨"GradeRows$Steps", "add", "(IIII)I"⟩
abbrev wsX4_add : List Cond := .code yX4_add cX4_add 5 (some .int) :: qTb
abbrev cX4_wasNarrowAt : ByteArray := prog_6_method_20_code
def yX4_wasNarrowAt : MethodName := ⟨"GradeRows$Steps", "wasNarrowAt", "(I)Z"⟩
abbrev wsX4_wasNarrowAt : List Cond := .code yX4_wasNarrowAt cX4_wasNarrowAt 3 (some .boolean) :: qTb
abbrev cX3_put : ByteArray := prog_5_method_4_code
def yX3_put : MethodName := ⟨"GradeRows$Sorted", "put", "(I)V"⟩
abbrev wsX3_put : List Cond := .code yX3_put cX3_put 3 none :: qTb
abbrev cX4_codeOf : ByteArray := prog_6_method_21_code
def yX4_codeOf : MethodName := ⟨"GradeRows$Steps", "codeOf", "(III)I"⟩
abbrev wsX4_codeOf : List Cond := .code yX4_codeOf cX4_codeOf 3 (some .int) :: qTb
abbrev cX5_guess : ByteArray := prog_1_method_4_code
def yX5_guess : MethodName := ⟨"GradeRows", "guess", "(I)I"⟩
abbrev wsX5_guess : List Cond := .code yX5_guess cX5_guess 2 (some .int) :: qTb
abbrev cX4_addGuess : ByteArray := prog_6_method_10_code
def yX4_addGuess : MethodName := ⟨"GradeRows$Steps", "addGuess", "(I)I"⟩
abbrev wsX4_addGuess : List Cond := .code yX4_addGuess cX4_addGuess 3 (some .int) :: qTb
abbrev cX4_isGuess : ByteArray := prog_6_method_5_code
def yX4_isGuess : MethodName := ⟨"GradeRows$Steps", "isGuess", "(I)Z"⟩
abbrev wsX4_isGuess : List Cond := .code yX4_isGuess cX4_isGuess 2 (some .boolean) :: qTb
abbrev cX4_has : ByteArray := prog_6_method_4_code
def yX4_has : MethodName := ⟨"GradeRows$Steps", "has", "(I)Z"⟩
abbrev wsX4_has : List Cond := .code yX4_has cX4_has 2 (some .boolean) :: qTb
abbrev cX5_drop : ByteArray := prog_1_method_5_code
def yX5_drop : MethodName := ⟨"GradeRows", "drop", "()Z"⟩
abbrev wsX5_drop : List Cond := .code yX5_drop cX5_drop 2 (some .boolean) :: qTb
abbrev cX4_count : ByteArray := prog_6_method_2_code
def yX4_count : MethodName := ⟨"GradeRows$Steps", "count", "()I"⟩
abbrev wsX4_count : List Cond := .code yX4_count cX4_count 1 (some .int) :: qTb
abbrev cX4_ruleAt : ByteArray := prog_6_method_6_code
def yX4_ruleAt : MethodName := ⟨"GradeRows$Steps", "ruleAt", "(I)I"⟩
abbrev wsX4_ruleAt : List Cond := .code yX4_ruleAt cX4_ruleAt 2 (some .int) :: qTb
abbrev cX4_priceAt : ByteArray := prog_6_method_9_code
def yX4_priceAt : MethodName := ⟨"GradeRows$Steps", "priceAt", "(I)I"⟩
abbrev wsX4_priceAt : List Cond := .code yX4_priceAt cX4_priceAt 2 (some .int) :: qTb
abbrev cX2_forgetStep : ByteArray := prog_4_method_6_code
def yX2_forgetStep : MethodName := ⟨"GradeRows$Rules", "forgetStep", "(II)V"⟩
abbrev wsX2_forgetStep : List Cond := .code yX2_forgetStep cX2_forgetStep 3 none :: qTb
abbrev cX4_removeLast : ByteArray := prog_6_method_12_code
def yX4_removeLast : MethodName := ⟨"GradeRows$Steps", "removeLast", "()V"⟩
abbrev wsX4_removeLast : List Cond := .code yX4_removeLast cX4_removeLast 1 none :: qTb
abbrev cX3_take : ByteArray := prog_5_method_5_code
def yX3_take : MethodName := ⟨"GradeRows$Sorted", "take", "(I)V"⟩
abbrev wsX3_take : List Cond := .code yX3_take cX3_take 4 none :: qTb
abbrev cX5_cost : ByteArray := prog_1_method_6_code
def yX5_cost : MethodName := ⟨"GradeRows", "cost", "(I)J"⟩
abbrev wsX5_cost : List Cond := .code yX5_cost cX5_cost 2 (some .long) :: qTb
abbrev cX5_sum : ByteArray := prog_1_method_7_code
def yX5_sum : MethodName := ⟨"GradeRows", "sum", "(I)J"⟩
abbrev wsX5_sum : List Cond := .code yX5_sum cX5_sum 2 (some .long) :: qTb
abbrev cX4_totalOfFirst : ByteArray := prog_6_method_14_code
def yX4_totalOfFirst : MethodName := ⟨"GradeRows$Steps", "totalOfFirst", "(I)J"⟩
abbrev wsX4_totalOfFirst : List Cond := .code yX4_totalOfFirst cX4_totalOfFirst 2 (some .long) :: qTb
abbrev cX4_total : ByteArray := prog_6_method_13_code
def yX4_total : MethodName := ⟨"GradeRows$Steps", "total", "()J"⟩
abbrev wsX4_total : List Cond := .code yX4_total cX4_total 1 (some .long) :: qTb
abbrev cX5_cls : ByteArray := prog_1_method_8_code
def yX5_cls : MethodName := ⟨"GradeRows", "cls", "(JJ)I"⟩
abbrev wsX5_cls : List Cond := .code yX5_cls cX5_cls 5 (some .int) :: qTb
abbrev cX0_add : ByteArray := prog_2_method_2_code
def yX0_add : MethodName := ⟨"GradeRows$Classes", "add", "(JJ)I"⟩
abbrev wsX0_add : List Cond := .code yX0_add cX0_add 5 (some .int) :: qTb
abbrev cX0_hasOneOf : ByteArray := prog_2_method_6_code
def yX0_hasOneOf : MethodName := ⟨"GradeRows$Classes", "hasOneOf", "(JJ)Z"⟩
abbrev wsX0_hasOneOf : List Cond := .code yX0_hasOneOf cX0_hasOneOf 6 (some .boolean) :: qTb
abbrev cX5_grade : ByteArray := prog_1_method_9_code
def yX5_grade : MethodName := ⟨"GradeRows", "grade", "()I"⟩
abbrev wsX5_grade : List Cond := .code yX5_grade cX5_grade 1 (some .int) :: qTb
abbrev cX0_classOf : ByteArray := prog_2_method_3_code
def yX0_classOf : MethodName := ⟨"GradeRows$Classes", "classOf", "(J)I"⟩
abbrev wsX0_classOf : List Cond := .code yX0_classOf cX0_classOf 4 (some .int) :: qTb
abbrev cX5_rank : ByteArray := prog_1_method_10_code
def yX5_rank : MethodName := ⟨"GradeRows", "rank", "()I"⟩
abbrev wsX5_rank : List Cond := .code yX5_rank cX5_rank 3 (some .int) :: qTb
abbrev cX0_countBelow : ByteArray := prog_2_method_4_code
def yX0_countBelow : MethodName := ⟨"GradeRows$Classes", "countBelow", "(J)I"⟩
abbrev wsX0_countBelow : List Cond := .code yX0_countBelow cX0_countBelow 5 (some .int) :: qTb
abbrev cX5_gap : ByteArray := prog_1_method_11_code
def yX5_gap : MethodName := ⟨"GradeRows", "gap", "(J)J"⟩
abbrev wsX5_gap : List Cond := .code yX5_gap cX5_gap 3 (some .long) :: qTb
abbrev cX0_firstFree : ByteArray := prog_2_method_5_code
def yX0_firstFree : MethodName := ⟨"GradeRows$Classes", "firstFree", "(J)J"⟩
abbrev wsX0_firstFree : List Cond := .code yX0_firstFree cX0_firstFree 7 (some .long) :: qTb
abbrev cX5_stuck : ByteArray := prog_1_method_12_code
def yX5_stuck : MethodName := ⟨"GradeRows", "stuck", "(I)I"⟩
abbrev wsX5_stuck : List Cond := .code yX5_stuck cX5_stuck 2 (some .int) :: qTb
abbrev cX4_narrowPlace : ByteArray := prog_6_method_15_code
def yX4_narrowPlace : MethodName := ⟨"GradeRows$Steps", "narrowPlace", "(I)I"⟩
abbrev wsX4_narrowPlace : List Cond := .code yX4_narrowPlace cX4_narrowPlace 4 (some .int) :: qTb
abbrev cX5_run : ByteArray := prog_1_method_13_code
def yX5_run : MethodName := ⟨"GradeRows", "run", "()I"⟩
abbrev wsX5_run : List Cond := .code yX5_run cX5_run 1 (some .int) :: qTb
abbrev cX4_longestClimb : ByteArray := prog_6_method_16_code
def yX4_longestClimb : MethodName := ⟨"GradeRows$Steps", "longestClimb", "()I"⟩
abbrev wsX4_longestClimb : List Cond := .code yX4_longestClimb cX4_longestClimb 4 (some .int) :: qTb
abbrev cX5_hardest : ByteArray := prog_1_method_14_code
def yX5_hardest : MethodName := ⟨"GradeRows", "hardest", "()I"⟩
abbrev wsX5_hardest : List Cond := .code yX5_hardest cX5_hardest 1 (some .int) :: qTb
abbrev cX2_dearest : ByteArray := prog_4_method_7_code
def yX2_dearest : MethodName := ⟨"GradeRows$Rules", "dearest", "()I"⟩
abbrev wsX2_dearest : List Cond := .code yX2_dearest cX2_dearest 5 (some .int) :: qTb
abbrev cX5_go : ByteArray := prog_1_method_15_code
def yX5_go : MethodName := ⟨"GradeRows", "go", "(I)Z"⟩
abbrev wsX5_go : List Cond := .code yX5_go cX5_go 2 (some .boolean) :: qTb
abbrev cX5_hint : ByteArray := prog_1_method_16_code
def yX5_hint : MethodName := ⟨"GradeRows", "hint", "(I)I"⟩
abbrev wsX5_hint : List Cond := .code yX5_hint cX5_hint 3 (some .int) :: qTb
abbrev cX5_hintOfGuess : ByteArray := prog_1_method_20_code
def yX5_hintOfGuess : MethodName := ⟨"GradeRows", "hintOfGuess", "(I)I"⟩
abbrev wsX5_hintOfGuess : List Cond := .code yX5_hintOfGuess cX5_hintOfGuess 2 (some .int) :: qTb
abbrev cX4_widthAt : ByteArray := prog_6_method_8_code
def yX4_widthAt : MethodName := ⟨"GradeRows$Steps", "widthAt", "(I)I"⟩
abbrev wsX4_widthAt : List Cond := .code yX4_widthAt cX4_widthAt 2 (some .int) :: qTb
abbrev cX5_hintOfRuleStep : ByteArray := prog_1_method_21_code
def yX5_hintOfRuleStep : MethodName := ⟨"GradeRows", "hintOfRuleStep", "(I)I"⟩
abbrev wsX5_hintOfRuleStep : List Cond := .code yX5_hintOfRuleStep cX5_hintOfRuleStep 2 (some .int) :: qTb
abbrev cX4_placeAt : ByteArray := prog_6_method_7_code
def yX4_placeAt : MethodName := ⟨"GradeRows$Steps", "placeAt", "(I)I"⟩
abbrev wsX4_placeAt : List Cond := .code yX4_placeAt cX4_placeAt 2 (some .int) :: qTb
abbrev cX5_keep : ByteArray := prog_1_method_17_code
def yX5_keep : MethodName := ⟨"GradeRows", "keep", "()I"⟩
abbrev wsX5_keep : List Cond := .code yX5_keep cX5_keep 1 (some .int) :: qTb
abbrev cX4_toRow : ByteArray := prog_6_method_17_code
def yX4_toRow : MethodName := ⟨"GradeRows$Steps", "toRow", "()LGradeRows$Row;"⟩
abbrev wsX4_toRow : List Cond := .code yX4_toRow cX4_toRow 1 (some (.object "GradeRows$Row")) :: qTb
abbrev cX3_copy : ByteArray := prog_5_method_3_code
def yX3_copy : MethodName := ⟨"GradeRows$Sorted", "copy", "()LGradeRows$Sorted;"⟩
abbrev wsX3_copy : List Cond := .code yX3_copy cX3_copy 1 (some (.object "GradeRows$Sorted")) :: qTb
abbrev cJ0_copyOf : ByteArray := prog_12_method_123_code
def yJ0_copyOf : MethodName := ⟨"java/util/Arrays", "copyOf", "([II)[I"⟩
abbrev wsJ0_copyOf : List Cond := .code yJ0_copyOf cJ0_copyOf 3 (some (.array .int)) :: qTb
abbrev cX1_init : ByteArray := prog_3_method_1_code
def yX1_init : MethodName := ⟨"GradeRows$Row", "<init>", "(JLGradeRows$Sorted;LGradeRows$Sorted;)V"⟩
abbrev wsX1_init : List Cond := .code yX1_init cX1_init 5 none :: qTb
abbrev cX5_compare : ByteArray := prog_1_method_18_code
def yX5_compare : MethodName := ⟨"GradeRows", "compare", "(I)I"⟩
abbrev wsX5_compare : List Cond := .code yX5_compare cX5_compare 3 (some .int) :: qTb
abbrev cX5_keptAt : ByteArray := prog_1_method_22_code
def yX5_keptAt : MethodName := ⟨"GradeRows", "keptAt", "(I)LGradeRows$Row;"⟩
abbrev wsX5_keptAt : List Cond := .code yX5_keptAt cX5_keptAt 2 (some (.object "GradeRows$Row")) :: qTb
abbrev cX4_orderAgainst : ByteArray := prog_6_method_18_code
def yX4_orderAgainst : MethodName := ⟨"GradeRows$Steps", "orderAgainst", "(LGradeRows$Row;)I"⟩
abbrev wsX4_orderAgainst : List Cond := .code yX4_orderAgainst cX4_orderAgainst 4 (some .int) :: qTb
abbrev cX5_order : ByteArray := prog_1_method_24_code
def yX5_order : MethodName := ⟨"GradeRows", "order", "(JJ)I"⟩
abbrev wsX5_order : List Cond := .code yX5_order cX5_order 4 (some .int) :: qTb
abbrev cX3_size : ByteArray := prog_5_method_2_code
def yX3_size : MethodName := ⟨"GradeRows$Sorted", "size", "()I"⟩
abbrev wsX3_size : List Cond := .code yX3_size cX3_size 1 (some .int) :: qTb
abbrev cX3_orderFromGreatest : ByteArray := prog_5_method_6_code
def yX3_orderFromGreatest : MethodName := ⟨"GradeRows$Sorted", "orderFromGreatest", "(LGradeRows$Sorted;)I"⟩
abbrev wsX3_orderFromGreatest : List Cond := .code yX3_orderFromGreatest cX3_orderFromGreatest 5 (some .int) :: qTb
abbrev cX5_same : ByteArray := prog_1_method_19_code
def yX5_same : MethodName := ⟨"GradeRows", "same", "(I)Z"⟩
abbrev wsX5_same : List Cond := .code yX5_same cX5_same 3 (some .boolean) :: qTb
abbrev cX4_hasStepsOf : ByteArray := prog_6_method_19_code
def yX4_hasStepsOf : MethodName := ⟨"GradeRows$Steps", "hasStepsOf", "(LGradeRows$Row;)Z"⟩
abbrev wsX4_hasStepsOf : List Cond := .code yX4_hasStepsOf cX4_hasStepsOf 2 (some .boolean) :: qTb
abbrev cX6_init : ByteArray := prog_8_method_1_code
def yX6_init : MethodName := ⟨"GradeRowsModel", "<init>", "()V"⟩
abbrev wsX6_init : List Cond := .code yX6_init cX6_init 1 none :: qTb
abbrev cX6_rule : ByteArray := prog_8_method_4_code
def yX6_rule : MethodName := ⟨"GradeRowsModel", "rule", "(II)I"⟩
abbrev wsX6_rule : List Cond := .code yX6_rule cX6_rule 3 (some .int) :: qTb
abbrev cX6_used : ByteArray := prog_8_method_6_code
def yX6_used : MethodName := ⟨"GradeRowsModel", "used", "(III)I"⟩
abbrev wsX6_used : List Cond := .code yX6_used cX6_used 4 (some .int) :: qTb
abbrev cX6_count : ByteArray := prog_8_method_3_code
def yX6_count : MethodName := ⟨"GradeRowsModel", "count", "()I"⟩
abbrev wsX6_count : List Cond := .code yX6_count cX6_count 1 (some .int) :: qTb
abbrev cX6_add : ByteArray := prog_8_method_5_code
def yX6_add : MethodName := ⟨"GradeRowsModel", "add", "(III)I"⟩
abbrev wsX6_add : List Cond := .code yX6_add cX6_add 5 (some .int) :: qTb
abbrev cX6_guess : ByteArray := prog_8_method_7_code
def yX6_guess : MethodName := ⟨"GradeRowsModel", "guess", "(I)I"⟩
abbrev wsX6_guess : List Cond := .code yX6_guess cX6_guess 2 (some .int) :: qTb
abbrev cX6_drop : ByteArray := prog_8_method_8_code
def yX6_drop : MethodName := ⟨"GradeRowsModel", "drop", "()Z"⟩
abbrev wsX6_drop : List Cond := .code yX6_drop cX6_drop 1 (some .boolean) :: qTb
abbrev cX6_cost : ByteArray := prog_8_method_12_code
def yX6_cost : MethodName := ⟨"GradeRowsModel", "cost", "(I)J"⟩
abbrev wsX6_cost : List Cond := .code yX6_cost cX6_cost 2 (some .long) :: qTb
abbrev cX6_costOf : ByteArray := prog_8_method_9_code
def yX6_costOf : MethodName := ⟨"GradeRowsModel", "costOf", "(II)J"⟩
abbrev wsX6_costOf : List Cond := .code yX6_costOf cX6_costOf 7 (some .long) :: qTb
abbrev cX6_sum : ByteArray := prog_8_method_13_code
def yX6_sum : MethodName := ⟨"GradeRowsModel", "sum", "(I)J"⟩
abbrev wsX6_sum : List Cond := .code yX6_sum cX6_sum 2 (some .long) :: qTb
abbrev cX6_sumOf : ByteArray := prog_8_method_10_code
def yX6_sumOf : MethodName := ⟨"GradeRowsModel", "sumOf", "(II)J"⟩
abbrev wsX6_sumOf : List Cond := .code yX6_sumOf cX6_sumOf 6 (some .long) :: qTb
abbrev cX6_cls : ByteArray := prog_8_method_14_code
def yX6_cls : MethodName := ⟨"GradeRowsModel", "cls", "(JJ)I"⟩
abbrev wsX6_cls : List Cond := .code yX6_cls cX6_cls 6 (some .int) :: qTb
abbrev cX6_grade : ByteArray := prog_8_method_16_code
def yX6_grade : MethodName := ⟨"GradeRowsModel", "grade", "()I"⟩
abbrev wsX6_grade : List Cond := .code yX6_grade cX6_grade 1 (some .int) :: qTb
abbrev cX6_all : ByteArray := prog_8_method_11_code
def yX6_all : MethodName := ⟨"GradeRowsModel", "all", "()J"⟩
abbrev wsX6_all : List Cond := .code yX6_all cX6_all 1 (some .long) :: qTb
abbrev cX6_classOf : ByteArray := prog_8_method_15_code
def yX6_classOf : MethodName := ⟨"GradeRowsModel", "classOf", "(J)I"⟩
abbrev wsX6_classOf : List Cond := .code yX6_classOf cX6_classOf 4 (some .int) :: qTb
abbrev cX6_rank : ByteArray := prog_8_method_17_code
def yX6_rank : MethodName := ⟨"GradeRowsModel", "rank", "()I"⟩
abbrev wsX6_rank : List Cond := .code yX6_rank cX6_rank 5 (some .int) :: qTb
abbrev cX6_gap : ByteArray := prog_8_method_18_code
def yX6_gap : MethodName := ⟨"GradeRowsModel", "gap", "(J)J"⟩
abbrev wsX6_gap : List Cond := .code yX6_gap cX6_gap 5 (some .long) :: qTb
abbrev cX6_stuck : ByteArray := prog_8_method_19_code
def yX6_stuck : MethodName := ⟨"GradeRowsModel", "stuck", "(I)I"⟩
abbrev wsX6_stuck : List Cond := .code yX6_stuck cX6_stuck 5 (some .int) :: qTb
abbrev cX6_run : ByteArray := prog_8_method_20_code
def yX6_run : MethodName := ⟨"GradeRowsModel", "run", "()I"⟩
abbrev wsX6_run : List Cond := .code yX6_run cX6_run 4 (some .int) :: qTb
abbrev cX6_hardest : ByteArray := prog_8_method_21_code
def yX6_hardest : MethodName := ⟨"GradeRowsModel", "hardest", "()I"⟩
abbrev wsX6_hardest : List Cond := .code yX6_hardest cX6_hardest 8 (some .int) :: qTb
abbrev cX6_go : ByteArray := prog_8_method_22_code
def yX6_go : MethodName := ⟨"GradeRowsModel", "go", "(I)Z"⟩
abbrev wsX6_go : List Cond := .code yX6_go cX6_go 2 (some .boolean) :: qTb
abbrev cX6_hint : ByteArray := prog_8_method_23_code
def yX6_hint : MethodName := ⟨"GradeRowsModel", "hint", "(I)I"⟩
abbrev wsX6_hint : List Cond := .code yX6_hint cX6_hint 3 (some .int) :: qTb
abbrev cX6_keep : ByteArray := prog_8_method_24_code
def yX6_keep : MethodName := ⟨"GradeRowsModel", "keep", "()I"⟩
abbrev wsX6_keep : List Cond := .code yX6_keep cX6_keep 2 (some .int) :: qTb
abbrev cX6_compare : ByteArray := prog_8_method_26_code
def yX6_compare : MethodName := ⟨"GradeRowsModel", "compare", "(I)I"⟩
abbrev wsX6_compare : List Cond := .code yX6_compare cX6_compare 10 (some .int) :: qTb
abbrev cX6_way : ByteArray := prog_8_method_25_code
def yX6_way : MethodName := ⟨"GradeRowsModel", "way", "(JJ)I"⟩
abbrev wsX6_way : List Cond := .code yX6_way cX6_way 4 (some .int) :: qTb
abbrev cX6_same : ByteArray := prog_8_method_28_code
def yX6_same : MethodName := ⟨"GradeRowsModel", "same", "(I)Z"⟩
abbrev wsX6_same : List Cond := .code yX6_same cX6_same 3 (some .boolean) :: qTb
abbrev cX6_like : ByteArray := prog_8_method_27_code
def yX6_like : MethodName := ⟨"GradeRowsModel", "like", "(II)I"⟩
abbrev wsX6_like : List Cond := .code yX6_like cX6_like 6 (some .int) :: qTb
end
section
theorem qw_0 : (Jvm.Cond.selects "GradeRows$Steps" ({ cls := "GradeRows$Steps", name := "wasNarrowAt", desc := "(I)Z" } : Jvm.MethodName) ({ cls := "GradeRows$Steps", name := "wasNarrowAt", desc := "(I)Z" } : Jvm.MethodName)) ∈ qTb := List.mem_filter.mpr ⟨List.mem_of_getElem? (i := 0) (by decide +kernel), rfl⟩
theorem qw_1 : (Jvm.Cond.selects "GradeRows$Classes" ({ cls := "GradeRows$Classes", name := "hasOneOf", desc := "(JJ)Z" } : Jvm.MethodName) ({ cls := "GradeRows$Classes", name := "hasOneOf", desc := "(JJ)Z" } : Jvm.MethodName)) ∈ qTb := List.mem_filter.mpr ⟨List.mem_of_getElem? (i := 1) (by decide +kernel), rfl⟩
theorem qw_2 : (Jvm.Cond.selects "GradeRows" ({ cls := "GradeRows", name := "hintOfGuess", desc := "(I)I" } : Jvm.MethodName) ({ cls := "GradeRows", name := "hintOfGuess", desc := "(I)I" } : Jvm.MethodName)) ∈ qTb := List.mem_filter.mpr ⟨List.mem_of_getElem? (i := 2) (by decide +kernel), rfl⟩
theorem qw_3 : (Jvm.Cond.selects "GradeRows" ({ cls := "GradeRows", name := "hintOfRuleStep", desc := "(I)I" } : Jvm.MethodName) ({ cls := "GradeRows", name := "hintOfRuleStep", desc := "(I)I" } : Jvm.MethodName)) ∈ qTb := List.mem_filter.mpr ⟨List.mem_of_getElem? (i := 3) (by decide +kernel), rfl⟩
theorem qw_5 : (Jvm.Cond.selects "GradeRowsModel" ({ cls := "GradeRowsModel", name := "count", desc := "()I" } : Jvm.MethodName) ({ cls := "GradeRowsModel", name := "count", desc := "()I" } : Jvm.MethodName)) ∈ qTb := List.mem_filter.mpr ⟨List.mem_of_getElem? (i := 5) (by decide +kernel), rfl⟩
theorem qw_6 : (Jvm.Cond.selects "GradeRowsModel" ({ cls := "GradeRowsModel", name := "add", desc := "(III)I" } : Jvm.MethodName) ({ cls := "GradeRowsModel", name := "add", desc := "(III)I" } : Jvm.MethodName)) ∈ qTb := List.mem_filter.mpr ⟨List.mem_of_getElem? (i := 6) (by decide +kernel), rfl⟩
theorem qw_7 : (Jvm.Cond.selects "GradeRowsModel" ({ cls := "GradeRowsModel", name := "costOf", desc := "(II)J" } : Jvm.MethodName) ({ cls := "GradeRowsModel", name := "costOf", desc := "(II)J" } : Jvm.MethodName)) ∈ qTb := List.mem_filter.mpr ⟨List.mem_of_getElem? (i := 7) (by decide +kernel), rfl⟩
theorem qw_8 : (Jvm.Cond.selects "GradeRowsModel" ({ cls := "GradeRowsModel", name := "sumOf", desc := "(II)J" } : Jvm.MethodName) ({ cls := "GradeRowsModel", name := "sumOf", desc := "(II)J" } : Jvm.MethodName)) ∈ qTb := List.mem_filter.mpr ⟨List.mem_of_getElem? (i := 8) (by decide +kernel), rfl⟩
theorem qw_9 : (Jvm.Cond.selects "GradeRowsModel" ({ cls := "GradeRowsModel", name := "all", desc := "()J" } : Jvm.MethodName) ({ cls := "GradeRowsModel", name := "all", desc := "()J" } : Jvm.MethodName)) ∈ qTb := List.mem_filter.mpr ⟨List.mem_of_getElem? (i := 9) (by decide +kernel), rfl⟩
theorem qw_10 : (Jvm.Cond.selects "GradeRowsModel" ({ cls := "GradeRowsModel", name := "classOf", desc := "(J)I" } : Jvm.MethodName) ({ cls := "GradeRowsModel", name := "classOf", desc := "(J)I" } : Jvm.MethodName)) ∈ qTb := List.mem_filter.mpr ⟨List.mem_of_getElem? (i := 10) (by decide +kernel), rfl⟩
theorem qw_11 : (Jvm.Cond.selects "GradeRowsModel" ({ cls := "GradeRowsModel", name := "like", desc := "(II)I" } : Jvm.MethodName) ({ cls := "GradeRowsModel", name := "like", desc := "(II)I" } : Jvm.MethodName)) ∈ qTb := List.mem_filter.mpr ⟨List.mem_of_getElem? (i := 11) (by decide +kernel), rfl⟩
theorem qw_13 : (Jvm.Cond.initialized "GradeRows") ∈ qTb := List.mem_filter.mpr ⟨List.mem_of_getElem? (i := 13) (by decide +kernel), rfl⟩
theorem qw_14 : (Jvm.Cond.initialized "GradeRows$Rules") ∈ qTb := List.mem_filter.mpr ⟨List.mem_of_getElem? (i := 14) (by decide +kernel), rfl⟩
theorem qw_15 : (Jvm.Cond.initialized "GradeRows$Steps") ∈ qTb := List.mem_filter.mpr ⟨List.mem_of_getElem? (i := 15) (by decide +kernel), rfl⟩
theorem qw_16 : (Jvm.Cond.initialized "GradeRows$Sorted") ∈ qTb := List.mem_filter.mpr ⟨List.mem_of_getElem? (i := 16) (by decide +kernel), rfl⟩
theorem qw_17 : (Jvm.Cond.initialized "GradeRows$Classes") ∈ qTb := List.mem_filter.mpr ⟨List.mem_of_getElem? (i := 17) (by decide +kernel), rfl⟩
theorem qw_18 : (Jvm.Cond.initialized "GradeRowsModel") ∈ qTb := List.mem_filter.mpr ⟨List.mem_of_getElem? (i := 18) (by decide +kernel), rfl⟩
theorem qw_19 : (Jvm.Cond.initialized "java/lang/Math") ∈ qTb := List.mem_filter.mpr ⟨List.mem_of_getElem? (i := 19) (by decide +kernel), rfl⟩
theorem qw_29 : (Jvm.Cond.instanceMethod ({ cls := "java/lang/Object", name := "<init>", desc := "()V" } : Jvm.MethodName)) ∈ qTb := List.mem_filter.mpr ⟨List.mem_of_getElem? (i := 29) (by decide +kernel), rfl⟩
theorem qw_30 : (Jvm.Cond.code ({ cls := "java/lang/Object", name := "<init>", desc := "()V" } : Jvm.MethodName) object_method_1_code (1 : Nat) (Option.none : Option Jvm.ClassFile.FieldType)) ∈ qTb := List.mem_filter.mpr ⟨List.mem_of_getElem? (i := 30) (by decide +kernel), rfl⟩
theorem qw_37 : (Jvm.Cond.fieldLink "GradeRows$Rules" (9 : Nat) "GradeRows$Rules" "weights" "[I") ∈ qTb := List.mem_filter.mpr ⟨List.mem_of_getElem? (i := 37) (by decide +kernel), rfl⟩
theorem qw_38 : (Jvm.Cond.fieldLink "GradeRows$Rules" (15 : Nat) "GradeRows$Rules" "extras" "[I") ∈ qTb := List.mem_filter.mpr ⟨List.mem_of_getElem? (i := 38) (by decide +kernel), rfl⟩
theorem qw_39 : (Jvm.Cond.fieldLink "GradeRows$Rules" (18 : Nat) "GradeRows$Rules" "uses" "[I") ∈ qTb := List.mem_filter.mpr ⟨List.mem_of_getElem? (i := 39) (by decide +kernel), rfl⟩
theorem qw_40 : (Jvm.Cond.fieldLink "GradeRows$Rules" (21 : Nat) "GradeRows$Rules" "spent" "[J") ∈ qTb := List.mem_filter.mpr ⟨List.mem_of_getElem? (i := 40) (by decide +kernel), rfl⟩
theorem qw_41 : (Jvm.Cond.fieldLink "GradeRows$Rules" (25 : Nat) "GradeRows$Rules" "count" "I") ∈ qTb := List.mem_filter.mpr ⟨List.mem_of_getElem? (i := 41) (by decide +kernel), rfl⟩
theorem qw_53 : (Jvm.Cond.arrayClass Jvm.ClassFile.FieldType.int) ∈ qTb := List.mem_filter.mpr ⟨List.mem_of_getElem? (i := 53) (by decide +kernel), rfl⟩
theorem qw_54 : (Jvm.Cond.arrayClass Jvm.ClassFile.FieldType.long) ∈ qTb := List.mem_filter.mpr ⟨List.mem_of_getElem? (i := 54) (by decide +kernel), rfl⟩
theorem qw_66 : (Jvm.Cond.methodLink "GradeRows$Sorted" (1 : Nat) ({ cls := "java/lang/Object", name := "<init>", desc := "()V" } : Jvm.MethodName)) ∈ qTb := List.mem_filter.mpr ⟨List.mem_of_getElem? (i := 66) (by decide +kernel), rfl⟩
theorem qw_67 : (Jvm.Cond.fieldLink "GradeRows$Sorted" (7 : Nat) "GradeRows$Sorted" "items" "[I") ∈ qTb := List.mem_filter.mpr ⟨List.mem_of_getElem? (i := 67) (by decide +kernel), rfl⟩
theorem qw_68 : (Jvm.Cond.fieldLink "GradeRows$Sorted" (13 : Nat) "GradeRows$Sorted" "size" "I") ∈ qTb := List.mem_filter.mpr ⟨List.mem_of_getElem? (i := 68) (by decide +kernel), rfl⟩
theorem qw_74 : (Jvm.Cond.arrayClass Jvm.ClassFile.FieldType.boolean) ∈ qTb := List.mem_filter.mpr ⟨List.mem_of_getElem? (i := 74) (by decide +kernel), rfl⟩
theorem qw_75 : (Jvm.Cond.fieldLink "GradeRows$Steps" (9 : Nat) "GradeRows$Steps" "ruleOf" "[I") ∈ qTb := List.mem_filter.mpr ⟨List.mem_of_getElem? (i := 75) (by decide +kernel), rfl⟩
theorem qw_76 : (Jvm.Cond.fieldLink "GradeRows$Steps" (15 : Nat) "GradeRows$Steps" "placeOf" "[I") ∈ qTb := List.mem_filter.mpr ⟨List.mem_of_getElem? (i := 76) (by decide +kernel), rfl⟩
theorem qw_77 : (Jvm.Cond.fieldLink "GradeRows$Steps" (18 : Nat) "GradeRows$Steps" "widthOf" "[I") ∈ qTb := List.mem_filter.mpr ⟨List.mem_of_getElem? (i := 77) (by decide +kernel), rfl⟩
theorem qw_78 : (Jvm.Cond.fieldLink "GradeRows$Steps" (21 : Nat) "GradeRows$Steps" "priceOf" "[I") ∈ qTb := List.mem_filter.mpr ⟨List.mem_of_getElem? (i := 78) (by decide +kernel), rfl⟩
theorem qw_79 : (Jvm.Cond.fieldLink "GradeRows$Steps" (24 : Nat) "GradeRows$Steps" "isFirstNarrow" "[Z") ∈ qTb := List.mem_filter.mpr ⟨List.mem_of_getElem? (i := 79) (by decide +kernel), rfl⟩
theorem qw_80 : (Jvm.Cond.fieldLink "GradeRows$Steps" (28 : Nat) "GradeRows$Steps" "totals" "[J") ∈ qTb := List.mem_filter.mpr ⟨List.mem_of_getElem? (i := 80) (by decide +kernel), rfl⟩
theorem qw_81 : (Jvm.Cond.fieldLink "GradeRows$Steps" (37 : Nat) "GradeRows$Steps" "prices" "LGradeRows$Sorted;") ∈ qTb := List.mem_filter.mpr ⟨List.mem_of_getElem? (i := 81) (by decide +kernel), rfl⟩
theorem qw_82 : (Jvm.Cond.fieldLink "GradeRows$Steps" (41 : Nat) "GradeRows$Steps" "codes" "LGradeRows$Sorted;") ∈ qTb := List.mem_filter.mpr ⟨List.mem_of_getElem? (i := 82) (by decide +kernel), rfl⟩
theorem qw_83 : (Jvm.Cond.fieldLink "GradeRows$Steps" (44 : Nat) "GradeRows$Steps" "count" "I") ∈ qTb := List.mem_filter.mpr ⟨List.mem_of_getElem? (i := 83) (by decide +kernel), rfl⟩
theorem qw_109 : (Jvm.Cond.fieldLink "GradeRows$Classes" (9 : Nat) "GradeRows$Classes" "lows" "[J") ∈ qTb := List.mem_filter.mpr ⟨List.mem_of_getElem? (i := 109) (by decide +kernel), rfl⟩
theorem qw_110 : (Jvm.Cond.fieldLink "GradeRows$Classes" (15 : Nat) "GradeRows$Classes" "highs" "[J") ∈ qTb := List.mem_filter.mpr ⟨List.mem_of_getElem? (i := 110) (by decide +kernel), rfl⟩
theorem qw_111 : (Jvm.Cond.fieldLink "GradeRows$Classes" (18 : Nat) "GradeRows$Classes" "count" "I") ∈ qTb := List.mem_filter.mpr ⟨List.mem_of_getElem? (i := 111) (by decide +kernel), rfl⟩
theorem qw_121 : (Jvm.Cond.fieldLink "GradeRows" (10 : Nat) "GradeRows" "rules" "LGradeRows$Rules;") ∈ qTb := List.mem_filter.mpr ⟨List.mem_of_getElem? (i := 121) (by decide +kernel), rfl⟩
theorem qw_122 : (Jvm.Cond.fieldLink "GradeRows" (19 : Nat) "GradeRows" "steps" "LGradeRows$Steps;") ∈ qTb := List.mem_filter.mpr ⟨List.mem_of_getElem? (i := 122) (by decide +kernel), rfl⟩
theorem qw_123 : (Jvm.Cond.fieldLink "GradeRows" (26 : Nat) "GradeRows" "classes" "LGradeRows$Classes;") ∈ qTb := List.mem_filter.mpr ⟨List.mem_of_getElem? (i := 123) (by decide +kernel), rfl⟩
theorem qw_126 : (Jvm.Cond.fieldLink "GradeRows" (40 : Nat) "GradeRows" "cursor" "I") ∈ qTb := List.mem_filter.mpr ⟨List.mem_of_getElem? (i := 126) (by decide +kernel), rfl⟩
theorem qw_144 : (Jvm.Cond.methodLink "GradeRows" (43 : Nat) ({ cls := "GradeRows", name := "isWithin", desc := "(III)Z" } : Jvm.MethodName)) ∈ qTb := List.mem_filter.mpr ⟨List.mem_of_getElem? (i := 144) (by decide +kernel), rfl⟩
theorem qw_145 : (Jvm.Cond.static ({ cls := "GradeRows", name := "isWithin", desc := "(III)Z" } : Jvm.MethodName)) ∈ qTb := List.mem_filter.mpr ⟨List.mem_of_getElem? (i := 145) (by decide +kernel), rfl⟩
theorem qw_146 : (Jvm.Cond.code ({ cls := "GradeRows", name := "isWithin", desc := "(III)Z" } : Jvm.MethodName) prog_1_method_23_code (3 : Nat) (Option.some Jvm.ClassFile.FieldType.boolean)) ∈ qTb := List.mem_filter.mpr ⟨List.mem_of_getElem? (i := 146) (by decide +kernel), rfl⟩
theorem qw_147 : (Jvm.Cond.constant "GradeRows" (47 : Nat) (100000 : Int32)) ∈ qTb := List.mem_filter.mpr ⟨List.mem_of_getElem? (i := 147) (by decide +kernel), rfl⟩
theorem qw_148 : (Jvm.Cond.methodLink "GradeRows" (48 : Nat) ({ cls := "GradeRows$Rules", name := "add", desc := "(II)I" } : Jvm.MethodName)) ∈ qTb := List.mem_filter.mpr ⟨List.mem_of_getElem? (i := 148) (by decide +kernel), rfl⟩
theorem qw_149 : (Jvm.Cond.instanceMethod ({ cls := "GradeRows$Rules", name := "add", desc := "(II)I" } : Jvm.MethodName)) ∈ qTb := List.mem_filter.mpr ⟨List.mem_of_getElem? (i := 149) (by decide +kernel), rfl⟩
theorem qw_150 : (Jvm.Cond.selects "GradeRows$Rules" ({ cls := "GradeRows$Rules", name := "add", desc := "(II)I" } : Jvm.MethodName) ({ cls := "GradeRows$Rules", name := "add", desc := "(II)I" } : Jvm.MethodName)) ∈ qTb := List.mem_filter.mpr ⟨List.mem_of_getElem? (i := 150) (by decide +kernel), rfl⟩
theorem qw_151 : (Jvm.Cond.code ({ cls := "GradeRows$Rules", name := "add", desc := "(II)I" } : Jvm.MethodName) prog_4_method_3_code (3 : Nat) (Option.some Jvm.ClassFile.FieldType.int)) ∈ qTb := List.mem_filter.mpr ⟨List.mem_of_getElem? (i := 151) (by decide +kernel), rfl⟩
theorem qw_156 : (Jvm.Cond.methodLink "GradeRows" (52 : Nat) ({ cls := "GradeRows$Rules", name := "has", desc := "(I)Z" } : Jvm.MethodName)) ∈ qTb := List.mem_filter.mpr ⟨List.mem_of_getElem? (i := 156) (by decide +kernel), rfl⟩
theorem qw_157 : (Jvm.Cond.instanceMethod ({ cls := "GradeRows$Rules", name := "has", desc := "(I)Z" } : Jvm.MethodName)) ∈ qTb := List.mem_filter.mpr ⟨List.mem_of_getElem? (i := 157) (by decide +kernel), rfl⟩
theorem qw_158 : (Jvm.Cond.selects "GradeRows$Rules" ({ cls := "GradeRows$Rules", name := "has", desc := "(I)Z" } : Jvm.MethodName) ({ cls := "GradeRows$Rules", name := "has", desc := "(I)Z" } : Jvm.MethodName)) ∈ qTb := List.mem_filter.mpr ⟨List.mem_of_getElem? (i := 158) (by decide +kernel), rfl⟩
theorem qw_159 : (Jvm.Cond.code ({ cls := "GradeRows$Rules", name := "has", desc := "(I)Z" } : Jvm.MethodName) prog_4_method_2_code (2 : Nat) (Option.some Jvm.ClassFile.FieldType.boolean)) ∈ qTb := List.mem_filter.mpr ⟨List.mem_of_getElem? (i := 159) (by decide +kernel), rfl⟩
theorem qw_160 : (Jvm.Cond.methodLink "GradeRows" (56 : Nat) ({ cls := "GradeRows$Steps", name := "isFull", desc := "()Z" } : Jvm.MethodName)) ∈ qTb := List.mem_filter.mpr ⟨List.mem_of_getElem? (i := 160) (by decide +kernel), rfl⟩
theorem qw_161 : (Jvm.Cond.instanceMethod ({ cls := "GradeRows$Steps", name := "isFull", desc := "()Z" } : Jvm.MethodName)) ∈ qTb := List.mem_filter.mpr ⟨List.mem_of_getElem? (i := 161) (by decide +kernel), rfl⟩
theorem qw_162 : (Jvm.Cond.selects "GradeRows$Steps" ({ cls := "GradeRows$Steps", name := "isFull", desc := "()Z" } : Jvm.MethodName) ({ cls := "GradeRows$Steps", name := "isFull", desc := "()Z" } : Jvm.MethodName)) ∈ qTb := List.mem_filter.mpr ⟨List.mem_of_getElem? (i := 162) (by decide +kernel), rfl⟩
theorem qw_163 : (Jvm.Cond.code ({ cls := "GradeRows$Steps", name := "isFull", desc := "()Z" } : Jvm.MethodName) prog_6_method_3_code (1 : Nat) (Option.some Jvm.ClassFile.FieldType.boolean)) ∈ qTb := List.mem_filter.mpr ⟨List.mem_of_getElem? (i := 163) (by decide +kernel), rfl⟩
theorem qw_164 : (Jvm.Cond.methodLink "GradeRows" (60 : Nat) ({ cls := "GradeRows$Rules", name := "priceOfNext", desc := "(II)I" } : Jvm.MethodName)) ∈ qTb := List.mem_filter.mpr ⟨List.mem_of_getElem? (i := 164) (by decide +kernel), rfl⟩
theorem qw_165 : (Jvm.Cond.instanceMethod ({ cls := "GradeRows$Rules", name := "priceOfNext", desc := "(II)I" } : Jvm.MethodName)) ∈ qTb := List.mem_filter.mpr ⟨List.mem_of_getElem? (i := 165) (by decide +kernel), rfl⟩
theorem qw_166 : (Jvm.Cond.selects "GradeRows$Rules" ({ cls := "GradeRows$Rules", name := "priceOfNext", desc := "(II)I" } : Jvm.MethodName) ({ cls := "GradeRows$Rules", name := "priceOfNext", desc := "(II)I" } : Jvm.MethodName)) ∈ qTb := List.mem_filter.mpr ⟨List.mem_of_getElem? (i := 166) (by decide +kernel), rfl⟩
theorem qw_167 : (Jvm.Cond.code ({ cls := "GradeRows$Rules", name := "priceOfNext", desc := "(II)I" } : Jvm.MethodName) prog_4_method_4_code (4 : Nat) (Option.some Jvm.ClassFile.FieldType.int)) ∈ qTb := List.mem_filter.mpr ⟨List.mem_of_getElem? (i := 167) (by decide +kernel), rfl⟩
theorem qw_168 : (Jvm.Cond.methodLink "GradeRows$Rules" (29 : Nat) ({ cls := "GradeRows$Rules", name := "has", desc := "(I)Z" } : Jvm.MethodName)) ∈ qTb := List.mem_filter.mpr ⟨List.mem_of_getElem? (i := 168) (by decide +kernel), rfl⟩
theorem qw_169 : (Jvm.Cond.methodLink "GradeRows" (63 : Nat) ({ cls := "GradeRows$Rules", name := "noteStep", desc := "(II)V" } : Jvm.MethodName)) ∈ qTb := List.mem_filter.mpr ⟨List.mem_of_getElem? (i := 169) (by decide +kernel), rfl⟩
theorem qw_170 : (Jvm.Cond.instanceMethod ({ cls := "GradeRows$Rules", name := "noteStep", desc := "(II)V" } : Jvm.MethodName)) ∈ qTb := List.mem_filter.mpr ⟨List.mem_of_getElem? (i := 170) (by decide +kernel), rfl⟩
theorem qw_171 : (Jvm.Cond.selects "GradeRows$Rules" ({ cls := "GradeRows$Rules", name := "noteStep", desc := "(II)V" } : Jvm.MethodName) ({ cls := "GradeRows$Rules", name := "noteStep", desc := "(II)V" } : Jvm.MethodName)) ∈ qTb := List.mem_filter.mpr ⟨List.mem_of_getElem? (i := 171) (by decide +kernel), rfl⟩
theorem qw_172 : (Jvm.Cond.code ({ cls := "GradeRows$Rules", name := "noteStep", desc := "(II)V" } : Jvm.MethodName) prog_4_method_5_code (3 : Nat) (Option.none : Option Jvm.ClassFile.FieldType)) ∈ qTb := List.mem_filter.mpr ⟨List.mem_of_getElem? (i := 172) (by decide +kernel), rfl⟩
theorem qw_173 : (Jvm.Cond.methodLink "GradeRows" (67 : Nat) ({ cls := "GradeRows$Steps", name := "add", desc := "(IIII)I" } : Jvm.MethodName)) ∈ qTb := List.mem_filter.mpr ⟨List.mem_of_getElem? (i := 173) (by decide +kernel), rfl⟩
theorem qw_174 : (Jvm.Cond.instanceMethod ({ cls := "GradeRows$Steps", name := "add", desc := "(IIII)I" } : Jvm.MethodName)) ∈ qTb := List.mem_filter.mpr ⟨List.mem_of_getElem? (i := 174) (by decide +kernel), rfl⟩
theorem qw_175 : (Jvm.Cond.selects "GradeRows$Steps" ({ cls := "GradeRows$Steps", name := "add", desc := "(IIII)I" } : Jvm.MethodName) ({ cls := "GradeRows$Steps", name := "add", desc := "(IIII)I" } : Jvm.MethodName)) ∈ qTb := List.mem_filter.mpr ⟨List.mem_of_getElem? (i := 175) (by decide +kernel), rfl⟩
theorem qw_176 : (Jvm.Cond.code ({ cls := "GradeRows$Steps", name := "add", desc := "(IIII)I" } : Jvm.MethodName) prog_6_method_11_code (5 : Nat) (Option.some Jvm.ClassFile.FieldType.int)) ∈ qTb := List.mem_filter.mpr ⟨List.mem_of_getElem? (i := 176) (by decide +kernel), rfl⟩
theorem qw_177 : (Jvm.Cond.methodLink "GradeRows$Steps" (59 : Nat) ({ cls := "GradeRows$Steps", name := "isFull", desc := "()Z" } : Jvm.MethodName)) ∈ qTb := List.mem_filter.mpr ⟨List.mem_of_getElem? (i := 177) (by decide +kernel), rfl⟩
theorem qw_178 : (Jvm.Cond.methodLink "GradeRows$Steps" (63 : Nat) ({ cls := "GradeRows$Steps", name := "wasNarrowAt", desc := "(I)Z" } : Jvm.MethodName)) ∈ qTb := List.mem_filter.mpr ⟨List.mem_of_getElem? (i := 178) (by decide +kernel), rfl⟩
theorem qw_180 : (Jvm.Cond.instanceMethod ({ cls := "GradeRows$Steps", name := "wasNarrowAt", desc := "(I)Z" } : Jvm.MethodName)) ∈ qTb := List.mem_filter.mpr ⟨List.mem_of_getElem? (i := 180) (by decide +kernel), rfl⟩
theorem qw_181 : (Jvm.Cond.code ({ cls := "GradeRows$Steps", name := "wasNarrowAt", desc := "(I)Z" } : Jvm.MethodName) prog_6_method_20_code (3 : Nat) (Option.some Jvm.ClassFile.FieldType.boolean)) ∈ qTb := List.mem_filter.mpr ⟨List.mem_of_getElem? (i := 181) (by decide +kernel), rfl⟩
theorem qw_182 : (Jvm.Cond.methodLink "GradeRows$Steps" (66 : Nat) ({ cls := "GradeRows$Sorted", name := "put", desc := "(I)V" } : Jvm.MethodName)) ∈ qTb := List.mem_filter.mpr ⟨List.mem_of_getElem? (i := 182) (by decide +kernel), rfl⟩
theorem qw_183 : (Jvm.Cond.instanceMethod ({ cls := "GradeRows$Sorted", name := "put", desc := "(I)V" } : Jvm.MethodName)) ∈ qTb := List.mem_filter.mpr ⟨List.mem_of_getElem? (i := 183) (by decide +kernel), rfl⟩
theorem qw_184 : (Jvm.Cond.selects "GradeRows$Sorted" ({ cls := "GradeRows$Sorted", name := "put", desc := "(I)V" } : Jvm.MethodName) ({ cls := "GradeRows$Sorted", name := "put", desc := "(I)V" } : Jvm.MethodName)) ∈ qTb := List.mem_filter.mpr ⟨List.mem_of_getElem? (i := 184) (by decide +kernel), rfl⟩
theorem qw_185 : (Jvm.Cond.code ({ cls := "GradeRows$Sorted", name := "put", desc := "(I)V" } : Jvm.MethodName) prog_5_method_4_code (3 : Nat) (Option.none : Option Jvm.ClassFile.FieldType)) ∈ qTb := List.mem_filter.mpr ⟨List.mem_of_getElem? (i := 185) (by decide +kernel), rfl⟩
theorem qw_186 : (Jvm.Cond.methodLink "GradeRows$Steps" (70 : Nat) ({ cls := "GradeRows$Steps", name := "codeOf", desc := "(III)I" } : Jvm.MethodName)) ∈ qTb := List.mem_filter.mpr ⟨List.mem_of_getElem? (i := 186) (by decide +kernel), rfl⟩
theorem qw_187 : (Jvm.Cond.static ({ cls := "GradeRows$Steps", name := "codeOf", desc := "(III)I" } : Jvm.MethodName)) ∈ qTb := List.mem_filter.mpr ⟨List.mem_of_getElem? (i := 187) (by decide +kernel), rfl⟩
theorem qw_188 : (Jvm.Cond.code ({ cls := "GradeRows$Steps", name := "codeOf", desc := "(III)I" } : Jvm.MethodName) prog_6_method_21_code (3 : Nat) (Option.some Jvm.ClassFile.FieldType.int)) ∈ qTb := List.mem_filter.mpr ⟨List.mem_of_getElem? (i := 188) (by decide +kernel), rfl⟩
theorem qw_193 : (Jvm.Cond.methodLink "GradeRows" (70 : Nat) ({ cls := "GradeRows$Steps", name := "addGuess", desc := "(I)I" } : Jvm.MethodName)) ∈ qTb := List.mem_filter.mpr ⟨List.mem_of_getElem? (i := 193) (by decide +kernel), rfl⟩
theorem qw_194 : (Jvm.Cond.instanceMethod ({ cls := "GradeRows$Steps", name := "addGuess", desc := "(I)I" } : Jvm.MethodName)) ∈ qTb := List.mem_filter.mpr ⟨List.mem_of_getElem? (i := 194) (by decide +kernel), rfl⟩
theorem qw_195 : (Jvm.Cond.selects "GradeRows$Steps" ({ cls := "GradeRows$Steps", name := "addGuess", desc := "(I)I" } : Jvm.MethodName) ({ cls := "GradeRows$Steps", name := "addGuess", desc := "(I)I" } : Jvm.MethodName)) ∈ qTb := List.mem_filter.mpr ⟨List.mem_of_getElem? (i := 195) (by decide +kernel), rfl⟩
theorem qw_196 : (Jvm.Cond.code ({ cls := "GradeRows$Steps", name := "addGuess", desc := "(I)I" } : Jvm.MethodName) prog_6_method_10_code (3 : Nat) (Option.some Jvm.ClassFile.FieldType.int)) ∈ qTb := List.mem_filter.mpr ⟨List.mem_of_getElem? (i := 196) (by decide +kernel), rfl⟩
theorem qw_197 : (Jvm.Cond.methodLink "GradeRows$Steps" (52 : Nat) ({ cls := "GradeRows$Steps", name := "isGuess", desc := "(I)Z" } : Jvm.MethodName)) ∈ qTb := List.mem_filter.mpr ⟨List.mem_of_getElem? (i := 197) (by decide +kernel), rfl⟩
theorem qw_198 : (Jvm.Cond.instanceMethod ({ cls := "GradeRows$Steps", name := "isGuess", desc := "(I)Z" } : Jvm.MethodName)) ∈ qTb := List.mem_filter.mpr ⟨List.mem_of_getElem? (i := 198) (by decide +kernel), rfl⟩
theorem qw_199 : (Jvm.Cond.selects "GradeRows$Steps" ({ cls := "GradeRows$Steps", name := "isGuess", desc := "(I)Z" } : Jvm.MethodName) ({ cls := "GradeRows$Steps", name := "isGuess", desc := "(I)Z" } : Jvm.MethodName)) ∈ qTb := List.mem_filter.mpr ⟨List.mem_of_getElem? (i := 199) (by decide +kernel), rfl⟩
theorem qw_200 : (Jvm.Cond.code ({ cls := "GradeRows$Steps", name := "isGuess", desc := "(I)Z" } : Jvm.MethodName) prog_6_method_5_code (2 : Nat) (Option.some Jvm.ClassFile.FieldType.boolean)) ∈ qTb := List.mem_filter.mpr ⟨List.mem_of_getElem? (i := 200) (by decide +kernel), rfl⟩
theorem qw_201 : (Jvm.Cond.methodLink "GradeRows$Steps" (48 : Nat) ({ cls := "GradeRows$Steps", name := "has", desc := "(I)Z" } : Jvm.MethodName)) ∈ qTb := List.mem_filter.mpr ⟨List.mem_of_getElem? (i := 201) (by decide +kernel), rfl⟩
theorem qw_202 : (Jvm.Cond.instanceMethod ({ cls := "GradeRows$Steps", name := "has", desc := "(I)Z" } : Jvm.MethodName)) ∈ qTb := List.mem_filter.mpr ⟨List.mem_of_getElem? (i := 202) (by decide +kernel), rfl⟩
theorem qw_203 : (Jvm.Cond.selects "GradeRows$Steps" ({ cls := "GradeRows$Steps", name := "has", desc := "(I)Z" } : Jvm.MethodName) ({ cls := "GradeRows$Steps", name := "has", desc := "(I)Z" } : Jvm.MethodName)) ∈ qTb := List.mem_filter.mpr ⟨List.mem_of_getElem? (i := 203) (by decide +kernel), rfl⟩
theorem qw_204 : (Jvm.Cond.code ({ cls := "GradeRows$Steps", name := "has", desc := "(I)Z" } : Jvm.MethodName) prog_6_method_4_code (2 : Nat) (Option.some Jvm.ClassFile.FieldType.boolean)) ∈ qTb := List.mem_filter.mpr ⟨List.mem_of_getElem? (i := 204) (by decide +kernel), rfl⟩
theorem qw_205 : (Jvm.Cond.methodLink "GradeRows$Steps" (55 : Nat) ({ cls := "GradeRows$Steps", name := "add", desc := "(IIII)I" } : Jvm.MethodName)) ∈ qTb := List.mem_filter.mpr ⟨List.mem_of_getElem? (i := 205) (by decide +kernel), rfl⟩
theorem qw_210 : (Jvm.Cond.methodLink "GradeRows" (74 : Nat) ({ cls := "GradeRows$Steps", name := "count", desc := "()I" } : Jvm.MethodName)) ∈ qTb := List.mem_filter.mpr ⟨List.mem_of_getElem? (i := 210) (by decide +kernel), rfl⟩
theorem qw_211 : (Jvm.Cond.instanceMethod ({ cls := "GradeRows$Steps", name := "count", desc := "()I" } : Jvm.MethodName)) ∈ qTb := List.mem_filter.mpr ⟨List.mem_of_getElem? (i := 211) (by decide +kernel), rfl⟩
theorem qw_212 : (Jvm.Cond.selects "GradeRows$Steps" ({ cls := "GradeRows$Steps", name := "count", desc := "()I" } : Jvm.MethodName) ({ cls := "GradeRows$Steps", name := "count", desc := "()I" } : Jvm.MethodName)) ∈ qTb := List.mem_filter.mpr ⟨List.mem_of_getElem? (i := 212) (by decide +kernel), rfl⟩
theorem qw_213 : (Jvm.Cond.code ({ cls := "GradeRows$Steps", name := "count", desc := "()I" } : Jvm.MethodName) prog_6_method_2_code (1 : Nat) (Option.some Jvm.ClassFile.FieldType.int)) ∈ qTb := List.mem_filter.mpr ⟨List.mem_of_getElem? (i := 213) (by decide +kernel), rfl⟩
theorem qw_214 : (Jvm.Cond.methodLink "GradeRows" (78 : Nat) ({ cls := "GradeRows$Steps", name := "has", desc := "(I)Z" } : Jvm.MethodName)) ∈ qTb := List.mem_filter.mpr ⟨List.mem_of_getElem? (i := 214) (by decide +kernel), rfl⟩
theorem qw_215 : (Jvm.Cond.methodLink "GradeRows" (79 : Nat) ({ cls := "GradeRows$Steps", name := "ruleAt", desc := "(I)I" } : Jvm.MethodName)) ∈ qTb := List.mem_filter.mpr ⟨List.mem_of_getElem? (i := 215) (by decide +kernel), rfl⟩
theorem qw_216 : (Jvm.Cond.instanceMethod ({ cls := "GradeRows$Steps", name := "ruleAt", desc := "(I)I" } : Jvm.MethodName)) ∈ qTb := List.mem_filter.mpr ⟨List.mem_of_getElem? (i := 216) (by decide +kernel), rfl⟩
theorem qw_217 : (Jvm.Cond.selects "GradeRows$Steps" ({ cls := "GradeRows$Steps", name := "ruleAt", desc := "(I)I" } : Jvm.MethodName) ({ cls := "GradeRows$Steps", name := "ruleAt", desc := "(I)I" } : Jvm.MethodName)) ∈ qTb := List.mem_filter.mpr ⟨List.mem_of_getElem? (i := 217) (by decide +kernel), rfl⟩
theorem qw_218 : (Jvm.Cond.code ({ cls := "GradeRows$Steps", name := "ruleAt", desc := "(I)I" } : Jvm.MethodName) prog_6_method_6_code (2 : Nat) (Option.some Jvm.ClassFile.FieldType.int)) ∈ qTb := List.mem_filter.mpr ⟨List.mem_of_getElem? (i := 218) (by decide +kernel), rfl⟩
theorem qw_219 : (Jvm.Cond.methodLink "GradeRows" (82 : Nat) ({ cls := "GradeRows$Steps", name := "priceAt", desc := "(I)I" } : Jvm.MethodName)) ∈ qTb := List.mem_filter.mpr ⟨List.mem_of_getElem? (i := 219) (by decide +kernel), rfl⟩
theorem qw_220 : (Jvm.Cond.instanceMethod ({ cls := "GradeRows$Steps", name := "priceAt", desc := "(I)I" } : Jvm.MethodName)) ∈ qTb := List.mem_filter.mpr ⟨List.mem_of_getElem? (i := 220) (by decide +kernel), rfl⟩
theorem qw_221 : (Jvm.Cond.selects "GradeRows$Steps" ({ cls := "GradeRows$Steps", name := "priceAt", desc := "(I)I" } : Jvm.MethodName) ({ cls := "GradeRows$Steps", name := "priceAt", desc := "(I)I" } : Jvm.MethodName)) ∈ qTb := List.mem_filter.mpr ⟨List.mem_of_getElem? (i := 221) (by decide +kernel), rfl⟩
theorem qw_222 : (Jvm.Cond.code ({ cls := "GradeRows$Steps", name := "priceAt", desc := "(I)I" } : Jvm.MethodName) prog_6_method_9_code (2 : Nat) (Option.some Jvm.ClassFile.FieldType.int)) ∈ qTb := List.mem_filter.mpr ⟨List.mem_of_getElem? (i := 222) (by decide +kernel), rfl⟩
theorem qw_223 : (Jvm.Cond.methodLink "GradeRows" (85 : Nat) ({ cls := "GradeRows$Rules", name := "forgetStep", desc := "(II)V" } : Jvm.MethodName)) ∈ qTb := List.mem_filter.mpr ⟨List.mem_of_getElem? (i := 223) (by decide +kernel), rfl⟩
theorem qw_224 : (Jvm.Cond.instanceMethod ({ cls := "GradeRows$Rules", name := "forgetStep", desc := "(II)V" } : Jvm.MethodName)) ∈ qTb := List.mem_filter.mpr ⟨List.mem_of_getElem? (i := 224) (by decide +kernel), rfl⟩
theorem qw_225 : (Jvm.Cond.selects "GradeRows$Rules" ({ cls := "GradeRows$Rules", name := "forgetStep", desc := "(II)V" } : Jvm.MethodName) ({ cls := "GradeRows$Rules", name := "forgetStep", desc := "(II)V" } : Jvm.MethodName)) ∈ qTb := List.mem_filter.mpr ⟨List.mem_of_getElem? (i := 225) (by decide +kernel), rfl⟩
theorem qw_226 : (Jvm.Cond.code ({ cls := "GradeRows$Rules", name := "forgetStep", desc := "(II)V" } : Jvm.MethodName) prog_4_method_6_code (3 : Nat) (Option.none : Option Jvm.ClassFile.FieldType)) ∈ qTb := List.mem_filter.mpr ⟨List.mem_of_getElem? (i := 226) (by decide +kernel), rfl⟩
theorem qw_227 : (Jvm.Cond.methodLink "GradeRows" (88 : Nat) ({ cls := "GradeRows$Steps", name := "removeLast", desc := "()V" } : Jvm.MethodName)) ∈ qTb := List.mem_filter.mpr ⟨List.mem_of_getElem? (i := 227) (by decide +kernel), rfl⟩
theorem qw_228 : (Jvm.Cond.instanceMethod ({ cls := "GradeRows$Steps", name := "removeLast", desc := "()V" } : Jvm.MethodName)) ∈ qTb := List.mem_filter.mpr ⟨List.mem_of_getElem? (i := 228) (by decide +kernel), rfl⟩
theorem qw_229 : (Jvm.Cond.selects "GradeRows$Steps" ({ cls := "GradeRows$Steps", name := "removeLast", desc := "()V" } : Jvm.MethodName) ({ cls := "GradeRows$Steps", name := "removeLast", desc := "()V" } : Jvm.MethodName)) ∈ qTb := List.mem_filter.mpr ⟨List.mem_of_getElem? (i := 229) (by decide +kernel), rfl⟩
theorem qw_230 : (Jvm.Cond.code ({ cls := "GradeRows$Steps", name := "removeLast", desc := "()V" } : Jvm.MethodName) prog_6_method_12_code (1 : Nat) (Option.none : Option Jvm.ClassFile.FieldType)) ∈ qTb := List.mem_filter.mpr ⟨List.mem_of_getElem? (i := 230) (by decide +kernel), rfl⟩
theorem qw_231 : (Jvm.Cond.methodLink "GradeRows$Steps" (74 : Nat) ({ cls := "GradeRows$Sorted", name := "take", desc := "(I)V" } : Jvm.MethodName)) ∈ qTb := List.mem_filter.mpr ⟨List.mem_of_getElem? (i := 231) (by decide +kernel), rfl⟩
theorem qw_232 : (Jvm.Cond.instanceMethod ({ cls := "GradeRows$Sorted", name := "take", desc := "(I)V" } : Jvm.MethodName)) ∈ qTb := List.mem_filter.mpr ⟨List.mem_of_getElem? (i := 232) (by decide +kernel), rfl⟩
theorem qw_233 : (Jvm.Cond.selects "GradeRows$Sorted" ({ cls := "GradeRows$Sorted", name := "take", desc := "(I)V" } : Jvm.MethodName) ({ cls := "GradeRows$Sorted", name := "take", desc := "(I)V" } : Jvm.MethodName)) ∈ qTb := List.mem_filter.mpr ⟨List.mem_of_getElem? (i := 233) (by decide +kernel), rfl⟩
theorem qw_234 : (Jvm.Cond.code ({ cls := "GradeRows$Sorted", name := "take", desc := "(I)V" } : Jvm.MethodName) prog_5_method_5_code (4 : Nat) (Option.none : Option Jvm.ClassFile.FieldType)) ∈ qTb := List.mem_filter.mpr ⟨List.mem_of_getElem? (i := 234) (by decide +kernel), rfl⟩
theorem qw_235 : (Jvm.Cond.methodLink "GradeRows" (91 : Nat) ({ cls := "java/lang/Math", name := "min", desc := "(II)I" } : Jvm.MethodName)) ∈ qTb := List.mem_filter.mpr ⟨List.mem_of_getElem? (i := 235) (by decide +kernel), rfl⟩
theorem qw_236 : (Jvm.Cond.static ({ cls := "java/lang/Math", name := "min", desc := "(II)I" } : Jvm.MethodName)) ∈ qTb := List.mem_filter.mpr ⟨List.mem_of_getElem? (i := 236) (by decide +kernel), rfl⟩
theorem qw_237 : (Jvm.Cond.code ({ cls := "java/lang/Math", name := "min", desc := "(II)I" } : Jvm.MethodName) prog_10_method_69_code (2 : Nat) (Option.some Jvm.ClassFile.FieldType.int)) ∈ qTb := List.mem_filter.mpr ⟨List.mem_of_getElem? (i := 237) (by decide +kernel), rfl⟩
theorem qw_242 : (Jvm.Cond.constantLong "GradeRows" (96 : Nat) (-1 : Int64)) ∈ qTb := List.mem_filter.mpr ⟨List.mem_of_getElem? (i := 242) (by decide +kernel), rfl⟩
theorem qw_247 : (Jvm.Cond.methodLink "GradeRows" (98 : Nat) ({ cls := "GradeRows$Steps", name := "totalOfFirst", desc := "(I)J" } : Jvm.MethodName)) ∈ qTb := List.mem_filter.mpr ⟨List.mem_of_getElem? (i := 247) (by decide +kernel), rfl⟩
theorem qw_248 : (Jvm.Cond.instanceMethod ({ cls := "GradeRows$Steps", name := "totalOfFirst", desc := "(I)J" } : Jvm.MethodName)) ∈ qTb := List.mem_filter.mpr ⟨List.mem_of_getElem? (i := 248) (by decide +kernel), rfl⟩
theorem qw_249 : (Jvm.Cond.selects "GradeRows$Steps" ({ cls := "GradeRows$Steps", name := "totalOfFirst", desc := "(I)J" } : Jvm.MethodName) ({ cls := "GradeRows$Steps", name := "totalOfFirst", desc := "(I)J" } : Jvm.MethodName)) ∈ qTb := List.mem_filter.mpr ⟨List.mem_of_getElem? (i := 249) (by decide +kernel), rfl⟩
theorem qw_250 : (Jvm.Cond.code ({ cls := "GradeRows$Steps", name := "totalOfFirst", desc := "(I)J" } : Jvm.MethodName) prog_6_method_14_code (2 : Nat) (Option.some Jvm.ClassFile.FieldType.long)) ∈ qTb := List.mem_filter.mpr ⟨List.mem_of_getElem? (i := 250) (by decide +kernel), rfl⟩
theorem qw_251 : (Jvm.Cond.methodLink "GradeRows$Steps" (77 : Nat) ({ cls := "GradeRows$Steps", name := "total", desc := "()J" } : Jvm.MethodName)) ∈ qTb := List.mem_filter.mpr ⟨List.mem_of_getElem? (i := 251) (by decide +kernel), rfl⟩
theorem qw_252 : (Jvm.Cond.instanceMethod ({ cls := "GradeRows$Steps", name := "total", desc := "()J" } : Jvm.MethodName)) ∈ qTb := List.mem_filter.mpr ⟨List.mem_of_getElem? (i := 252) (by decide +kernel), rfl⟩
theorem qw_253 : (Jvm.Cond.selects "GradeRows$Steps" ({ cls := "GradeRows$Steps", name := "total", desc := "()J" } : Jvm.MethodName) ({ cls := "GradeRows$Steps", name := "total", desc := "()J" } : Jvm.MethodName)) ∈ qTb := List.mem_filter.mpr ⟨List.mem_of_getElem? (i := 253) (by decide +kernel), rfl⟩
theorem qw_254 : (Jvm.Cond.code ({ cls := "GradeRows$Steps", name := "total", desc := "()J" } : Jvm.MethodName) prog_6_method_13_code (1 : Nat) (Option.some Jvm.ClassFile.FieldType.long)) ∈ qTb := List.mem_filter.mpr ⟨List.mem_of_getElem? (i := 254) (by decide +kernel), rfl⟩
theorem qw_259 : (Jvm.Cond.constantLong "GradeRows" (102 : Nat) (100000000 : Int64)) ∈ qTb := List.mem_filter.mpr ⟨List.mem_of_getElem? (i := 259) (by decide +kernel), rfl⟩
theorem qw_260 : (Jvm.Cond.methodLink "GradeRows" (104 : Nat) ({ cls := "GradeRows$Classes", name := "add", desc := "(JJ)I" } : Jvm.MethodName)) ∈ qTb := List.mem_filter.mpr ⟨List.mem_of_getElem? (i := 260) (by decide +kernel), rfl⟩
theorem qw_261 : (Jvm.Cond.instanceMethod ({ cls := "GradeRows$Classes", name := "add", desc := "(JJ)I" } : Jvm.MethodName)) ∈ qTb := List.mem_filter.mpr ⟨List.mem_of_getElem? (i := 261) (by decide +kernel), rfl⟩
theorem qw_262 : (Jvm.Cond.selects "GradeRows$Classes" ({ cls := "GradeRows$Classes", name := "add", desc := "(JJ)I" } : Jvm.MethodName) ({ cls := "GradeRows$Classes", name := "add", desc := "(JJ)I" } : Jvm.MethodName)) ∈ qTb := List.mem_filter.mpr ⟨List.mem_of_getElem? (i := 262) (by decide +kernel), rfl⟩
theorem qw_263 : (Jvm.Cond.code ({ cls := "GradeRows$Classes", name := "add", desc := "(JJ)I" } : Jvm.MethodName) prog_2_method_2_code (5 : Nat) (Option.some Jvm.ClassFile.FieldType.int)) ∈ qTb := List.mem_filter.mpr ⟨List.mem_of_getElem? (i := 263) (by decide +kernel), rfl⟩
theorem qw_264 : (Jvm.Cond.methodLink "GradeRows$Classes" (22 : Nat) ({ cls := "GradeRows$Classes", name := "hasOneOf", desc := "(JJ)Z" } : Jvm.MethodName)) ∈ qTb := List.mem_filter.mpr ⟨List.mem_of_getElem? (i := 264) (by decide +kernel), rfl⟩
theorem qw_266 : (Jvm.Cond.instanceMethod ({ cls := "GradeRows$Classes", name := "hasOneOf", desc := "(JJ)Z" } : Jvm.MethodName)) ∈ qTb := List.mem_filter.mpr ⟨List.mem_of_getElem? (i := 266) (by decide +kernel), rfl⟩
theorem qw_267 : (Jvm.Cond.code ({ cls := "GradeRows$Classes", name := "hasOneOf", desc := "(JJ)Z" } : Jvm.MethodName) prog_2_method_6_code (6 : Nat) (Option.some Jvm.ClassFile.FieldType.boolean)) ∈ qTb := List.mem_filter.mpr ⟨List.mem_of_getElem? (i := 267) (by decide +kernel), rfl⟩
theorem qw_272 : (Jvm.Cond.methodLink "GradeRows" (107 : Nat) ({ cls := "GradeRows$Steps", name := "total", desc := "()J" } : Jvm.MethodName)) ∈ qTb := List.mem_filter.mpr ⟨List.mem_of_getElem? (i := 272) (by decide +kernel), rfl⟩
theorem qw_273 : (Jvm.Cond.methodLink "GradeRows" (111 : Nat) ({ cls := "GradeRows$Classes", name := "classOf", desc := "(J)I" } : Jvm.MethodName)) ∈ qTb := List.mem_filter.mpr ⟨List.mem_of_getElem? (i := 273) (by decide +kernel), rfl⟩
theorem qw_274 : (Jvm.Cond.instanceMethod ({ cls := "GradeRows$Classes", name := "classOf", desc := "(J)I" } : Jvm.MethodName)) ∈ qTb := List.mem_filter.mpr ⟨List.mem_of_getElem? (i := 274) (by decide +kernel), rfl⟩
theorem qw_275 : (Jvm.Cond.selects "GradeRows$Classes" ({ cls := "GradeRows$Classes", name := "classOf", desc := "(J)I" } : Jvm.MethodName) ({ cls := "GradeRows$Classes", name := "classOf", desc := "(J)I" } : Jvm.MethodName)) ∈ qTb := List.mem_filter.mpr ⟨List.mem_of_getElem? (i := 275) (by decide +kernel), rfl⟩
theorem qw_276 : (Jvm.Cond.code ({ cls := "GradeRows$Classes", name := "classOf", desc := "(J)I" } : Jvm.MethodName) prog_2_method_3_code (4 : Nat) (Option.some Jvm.ClassFile.FieldType.int)) ∈ qTb := List.mem_filter.mpr ⟨List.mem_of_getElem? (i := 276) (by decide +kernel), rfl⟩
theorem qw_281 : (Jvm.Cond.methodLink "GradeRows" (115 : Nat) ({ cls := "GradeRows$Classes", name := "countBelow", desc := "(J)I" } : Jvm.MethodName)) ∈ qTb := List.mem_filter.mpr ⟨List.mem_of_getElem? (i := 281) (by decide +kernel), rfl⟩
theorem qw_282 : (Jvm.Cond.instanceMethod ({ cls := "GradeRows$Classes", name := "countBelow", desc := "(J)I" } : Jvm.MethodName)) ∈ qTb := List.mem_filter.mpr ⟨List.mem_of_getElem? (i := 282) (by decide +kernel), rfl⟩
theorem qw_283 : (Jvm.Cond.selects "GradeRows$Classes" ({ cls := "GradeRows$Classes", name := "countBelow", desc := "(J)I" } : Jvm.MethodName) ({ cls := "GradeRows$Classes", name := "countBelow", desc := "(J)I" } : Jvm.MethodName)) ∈ qTb := List.mem_filter.mpr ⟨List.mem_of_getElem? (i := 283) (by decide +kernel), rfl⟩
theorem qw_284 : (Jvm.Cond.code ({ cls := "GradeRows$Classes", name := "countBelow", desc := "(J)I" } : Jvm.MethodName) prog_2_method_4_code (5 : Nat) (Option.some Jvm.ClassFile.FieldType.int)) ∈ qTb := List.mem_filter.mpr ⟨List.mem_of_getElem? (i := 284) (by decide +kernel), rfl⟩
theorem qw_289 : (Jvm.Cond.methodLink "GradeRows" (118 : Nat) ({ cls := "GradeRows$Classes", name := "firstFree", desc := "(J)J" } : Jvm.MethodName)) ∈ qTb := List.mem_filter.mpr ⟨List.mem_of_getElem? (i := 289) (by decide +kernel), rfl⟩
theorem qw_290 : (Jvm.Cond.instanceMethod ({ cls := "GradeRows$Classes", name := "firstFree", desc := "(J)J" } : Jvm.MethodName)) ∈ qTb := List.mem_filter.mpr ⟨List.mem_of_getElem? (i := 290) (by decide +kernel), rfl⟩
theorem qw_291 : (Jvm.Cond.selects "GradeRows$Classes" ({ cls := "GradeRows$Classes", name := "firstFree", desc := "(J)J" } : Jvm.MethodName) ({ cls := "GradeRows$Classes", name := "firstFree", desc := "(J)J" } : Jvm.MethodName)) ∈ qTb := List.mem_filter.mpr ⟨List.mem_of_getElem? (i := 291) (by decide +kernel), rfl⟩
theorem qw_292 : (Jvm.Cond.code ({ cls := "GradeRows$Classes", name := "firstFree", desc := "(J)J" } : Jvm.MethodName) prog_2_method_5_code (7 : Nat) (Option.some Jvm.ClassFile.FieldType.long)) ∈ qTb := List.mem_filter.mpr ⟨List.mem_of_getElem? (i := 292) (by decide +kernel), rfl⟩
theorem qw_293 : (Jvm.Cond.methodLink "GradeRows$Classes" (26 : Nat) ({ cls := "GradeRows$Classes", name := "classOf", desc := "(J)I" } : Jvm.MethodName)) ∈ qTb := List.mem_filter.mpr ⟨List.mem_of_getElem? (i := 293) (by decide +kernel), rfl⟩
theorem qw_298 : (Jvm.Cond.methodLink "GradeRows" (122 : Nat) ({ cls := "GradeRows$Steps", name := "narrowPlace", desc := "(I)I" } : Jvm.MethodName)) ∈ qTb := List.mem_filter.mpr ⟨List.mem_of_getElem? (i := 298) (by decide +kernel), rfl⟩
theorem qw_299 : (Jvm.Cond.instanceMethod ({ cls := "GradeRows$Steps", name := "narrowPlace", desc := "(I)I" } : Jvm.MethodName)) ∈ qTb := List.mem_filter.mpr ⟨List.mem_of_getElem? (i := 299) (by decide +kernel), rfl⟩
theorem qw_300 : (Jvm.Cond.selects "GradeRows$Steps" ({ cls := "GradeRows$Steps", name := "narrowPlace", desc := "(I)I" } : Jvm.MethodName) ({ cls := "GradeRows$Steps", name := "narrowPlace", desc := "(I)I" } : Jvm.MethodName)) ∈ qTb := List.mem_filter.mpr ⟨List.mem_of_getElem? (i := 300) (by decide +kernel), rfl⟩
theorem qw_301 : (Jvm.Cond.code ({ cls := "GradeRows$Steps", name := "narrowPlace", desc := "(I)I" } : Jvm.MethodName) prog_6_method_15_code (4 : Nat) (Option.some Jvm.ClassFile.FieldType.int)) ∈ qTb := List.mem_filter.mpr ⟨List.mem_of_getElem? (i := 301) (by decide +kernel), rfl⟩
theorem qw_306 : (Jvm.Cond.methodLink "GradeRows" (125 : Nat) ({ cls := "GradeRows$Steps", name := "longestClimb", desc := "()I" } : Jvm.MethodName)) ∈ qTb := List.mem_filter.mpr ⟨List.mem_of_getElem? (i := 306) (by decide +kernel), rfl⟩
theorem qw_307 : (Jvm.Cond.instanceMethod ({ cls := "GradeRows$Steps", name := "longestClimb", desc := "()I" } : Jvm.MethodName)) ∈ qTb := List.mem_filter.mpr ⟨List.mem_of_getElem? (i := 307) (by decide +kernel), rfl⟩
theorem qw_308 : (Jvm.Cond.selects "GradeRows$Steps" ({ cls := "GradeRows$Steps", name := "longestClimb", desc := "()I" } : Jvm.MethodName) ({ cls := "GradeRows$Steps", name := "longestClimb", desc := "()I" } : Jvm.MethodName)) ∈ qTb := List.mem_filter.mpr ⟨List.mem_of_getElem? (i := 308) (by decide +kernel), rfl⟩
theorem qw_309 : (Jvm.Cond.code ({ cls := "GradeRows$Steps", name := "longestClimb", desc := "()I" } : Jvm.MethodName) prog_6_method_16_code (4 : Nat) (Option.some Jvm.ClassFile.FieldType.int)) ∈ qTb := List.mem_filter.mpr ⟨List.mem_of_getElem? (i := 309) (by decide +kernel), rfl⟩
theorem qw_310 : (Jvm.Cond.methodLink "GradeRows$Steps" (81 : Nat) ({ cls := "java/lang/Math", name := "max", desc := "(II)I" } : Jvm.MethodName)) ∈ qTb := List.mem_filter.mpr ⟨List.mem_of_getElem? (i := 310) (by decide +kernel), rfl⟩
theorem qw_311 : (Jvm.Cond.static ({ cls := "java/lang/Math", name := "max", desc := "(II)I" } : Jvm.MethodName)) ∈ qTb := List.mem_filter.mpr ⟨List.mem_of_getElem? (i := 311) (by decide +kernel), rfl⟩
theorem qw_312 : (Jvm.Cond.code ({ cls := "java/lang/Math", name := "max", desc := "(II)I" } : Jvm.MethodName) prog_10_method_65_code (2 : Nat) (Option.some Jvm.ClassFile.FieldType.int)) ∈ qTb := List.mem_filter.mpr ⟨List.mem_of_getElem? (i := 312) (by decide +kernel), rfl⟩
theorem qw_317 : (Jvm.Cond.methodLink "GradeRows" (128 : Nat) ({ cls := "GradeRows$Rules", name := "dearest", desc := "()I" } : Jvm.MethodName)) ∈ qTb := List.mem_filter.mpr ⟨List.mem_of_getElem? (i := 317) (by decide +kernel), rfl⟩
theorem qw_318 : (Jvm.Cond.instanceMethod ({ cls := "GradeRows$Rules", name := "dearest", desc := "()I" } : Jvm.MethodName)) ∈ qTb := List.mem_filter.mpr ⟨List.mem_of_getElem? (i := 318) (by decide +kernel), rfl⟩
theorem qw_319 : (Jvm.Cond.selects "GradeRows$Rules" ({ cls := "GradeRows$Rules", name := "dearest", desc := "()I" } : Jvm.MethodName) ({ cls := "GradeRows$Rules", name := "dearest", desc := "()I" } : Jvm.MethodName)) ∈ qTb := List.mem_filter.mpr ⟨List.mem_of_getElem? (i := 319) (by decide +kernel), rfl⟩
theorem qw_320 : (Jvm.Cond.code ({ cls := "GradeRows$Rules", name := "dearest", desc := "()I" } : Jvm.MethodName) prog_4_method_7_code (5 : Nat) (Option.some Jvm.ClassFile.FieldType.int)) ∈ qTb := List.mem_filter.mpr ⟨List.mem_of_getElem? (i := 320) (by decide +kernel), rfl⟩
theorem qw_321 : (Jvm.Cond.constantLong "GradeRows$Rules" (33 : Nat) (-1 : Int64)) ∈ qTb := List.mem_filter.mpr ⟨List.mem_of_getElem? (i := 321) (by decide +kernel), rfl⟩
theorem qw_330 : (Jvm.Cond.methodLink "GradeRows" (131 : Nat) ({ cls := "GradeRows$Steps", name := "isGuess", desc := "(I)Z" } : Jvm.MethodName)) ∈ qTb := List.mem_filter.mpr ⟨List.mem_of_getElem? (i := 330) (by decide +kernel), rfl⟩
theorem qw_331 : (Jvm.Cond.methodLink "GradeRows" (134 : Nat) ({ cls := "GradeRows", name := "hintOfGuess", desc := "(I)I" } : Jvm.MethodName)) ∈ qTb := List.mem_filter.mpr ⟨List.mem_of_getElem? (i := 331) (by decide +kernel), rfl⟩
theorem qw_333 : (Jvm.Cond.instanceMethod ({ cls := "GradeRows", name := "hintOfGuess", desc := "(I)I" } : Jvm.MethodName)) ∈ qTb := List.mem_filter.mpr ⟨List.mem_of_getElem? (i := 333) (by decide +kernel), rfl⟩
theorem qw_334 : (Jvm.Cond.code ({ cls := "GradeRows", name := "hintOfGuess", desc := "(I)I" } : Jvm.MethodName) prog_1_method_20_code (2 : Nat) (Option.some Jvm.ClassFile.FieldType.int)) ∈ qTb := List.mem_filter.mpr ⟨List.mem_of_getElem? (i := 334) (by decide +kernel), rfl⟩
theorem qw_335 : (Jvm.Cond.methodLink "GradeRows" (156 : Nat) ({ cls := "GradeRows$Steps", name := "widthAt", desc := "(I)I" } : Jvm.MethodName)) ∈ qTb := List.mem_filter.mpr ⟨List.mem_of_getElem? (i := 335) (by decide +kernel), rfl⟩
theorem qw_336 : (Jvm.Cond.instanceMethod ({ cls := "GradeRows$Steps", name := "widthAt", desc := "(I)I" } : Jvm.MethodName)) ∈ qTb := List.mem_filter.mpr ⟨List.mem_of_getElem? (i := 336) (by decide +kernel), rfl⟩
theorem qw_337 : (Jvm.Cond.selects "GradeRows$Steps" ({ cls := "GradeRows$Steps", name := "widthAt", desc := "(I)I" } : Jvm.MethodName) ({ cls := "GradeRows$Steps", name := "widthAt", desc := "(I)I" } : Jvm.MethodName)) ∈ qTb := List.mem_filter.mpr ⟨List.mem_of_getElem? (i := 337) (by decide +kernel), rfl⟩
theorem qw_338 : (Jvm.Cond.code ({ cls := "GradeRows$Steps", name := "widthAt", desc := "(I)I" } : Jvm.MethodName) prog_6_method_8_code (2 : Nat) (Option.some Jvm.ClassFile.FieldType.int)) ∈ qTb := List.mem_filter.mpr ⟨List.mem_of_getElem? (i := 338) (by decide +kernel), rfl⟩
theorem qw_339 : (Jvm.Cond.methodLink "GradeRows" (137 : Nat) ({ cls := "GradeRows", name := "hintOfRuleStep", desc := "(I)I" } : Jvm.MethodName)) ∈ qTb := List.mem_filter.mpr ⟨List.mem_of_getElem? (i := 339) (by decide +kernel), rfl⟩
theorem qw_341 : (Jvm.Cond.instanceMethod ({ cls := "GradeRows", name := "hintOfRuleStep", desc := "(I)I" } : Jvm.MethodName)) ∈ qTb := List.mem_filter.mpr ⟨List.mem_of_getElem? (i := 341) (by decide +kernel), rfl⟩
theorem qw_342 : (Jvm.Cond.code ({ cls := "GradeRows", name := "hintOfRuleStep", desc := "(I)I" } : Jvm.MethodName) prog_1_method_21_code (2 : Nat) (Option.some Jvm.ClassFile.FieldType.int)) ∈ qTb := List.mem_filter.mpr ⟨List.mem_of_getElem? (i := 342) (by decide +kernel), rfl⟩
theorem qw_343 : (Jvm.Cond.methodLink "GradeRows" (159 : Nat) ({ cls := "GradeRows$Steps", name := "placeAt", desc := "(I)I" } : Jvm.MethodName)) ∈ qTb := List.mem_filter.mpr ⟨List.mem_of_getElem? (i := 343) (by decide +kernel), rfl⟩
theorem qw_344 : (Jvm.Cond.instanceMethod ({ cls := "GradeRows$Steps", name := "placeAt", desc := "(I)I" } : Jvm.MethodName)) ∈ qTb := List.mem_filter.mpr ⟨List.mem_of_getElem? (i := 344) (by decide +kernel), rfl⟩
theorem qw_345 : (Jvm.Cond.selects "GradeRows$Steps" ({ cls := "GradeRows$Steps", name := "placeAt", desc := "(I)I" } : Jvm.MethodName) ({ cls := "GradeRows$Steps", name := "placeAt", desc := "(I)I" } : Jvm.MethodName)) ∈ qTb := List.mem_filter.mpr ⟨List.mem_of_getElem? (i := 345) (by decide +kernel), rfl⟩
theorem qw_346 : (Jvm.Cond.code ({ cls := "GradeRows$Steps", name := "placeAt", desc := "(I)I" } : Jvm.MethodName) prog_6_method_7_code (2 : Nat) (Option.some Jvm.ClassFile.FieldType.int)) ∈ qTb := List.mem_filter.mpr ⟨List.mem_of_getElem? (i := 346) (by decide +kernel), rfl⟩
theorem qw_382 : (Jvm.Cond.fieldLinkNest "GradeRows$Steps" (96 : Nat) "GradeRows$Row" "total" "J" "GradeRows") ∈ qNs := List.mem_of_getElem? (i := 3) rfl
theorem qw_384 : (Jvm.Cond.fieldLinkNest "GradeRows$Steps" (103 : Nat) "GradeRows$Row" "prices" "LGradeRows$Sorted;" "GradeRows") ∈ qNs := List.mem_of_getElem? (i := 4) rfl
theorem qw_386 : (Jvm.Cond.fieldLinkNest "GradeRows$Steps" (112 : Nat) "GradeRows$Row" "codes" "LGradeRows$Sorted;" "GradeRows") ∈ qNs := List.mem_of_getElem? (i := 5) rfl
theorem qw_406 : (Jvm.Cond.methodLinkNest "GradeRows$Steps" (99 : Nat) ({ cls := "GradeRows", name := "order", desc := "(JJ)I" } : Jvm.MethodName) "GradeRows") ∈ qNs := List.mem_of_getElem? (i := 6) rfl
theorem qw_407 : (Jvm.Cond.static ({ cls := "GradeRows", name := "order", desc := "(JJ)I" } : Jvm.MethodName)) ∈ qTb := List.mem_filter.mpr ⟨List.mem_of_getElem? (i := 407) (by decide +kernel), rfl⟩
theorem qw_408 : (Jvm.Cond.code ({ cls := "GradeRows", name := "order", desc := "(JJ)I" } : Jvm.MethodName) prog_1_method_24_code (4 : Nat) (Option.some Jvm.ClassFile.FieldType.int)) ∈ qTb := List.mem_filter.mpr ⟨List.mem_of_getElem? (i := 408) (by decide +kernel), rfl⟩
theorem qw_409 : (Jvm.Cond.methodLink "GradeRows$Steps" (104 : Nat) ({ cls := "GradeRows$Sorted", name := "size", desc := "()I" } : Jvm.MethodName)) ∈ qTb := List.mem_filter.mpr ⟨List.mem_of_getElem? (i := 409) (by decide +kernel), rfl⟩
theorem qw_410 : (Jvm.Cond.instanceMethod ({ cls := "GradeRows$Sorted", name := "size", desc := "()I" } : Jvm.MethodName)) ∈ qTb := List.mem_filter.mpr ⟨List.mem_of_getElem? (i := 410) (by decide +kernel), rfl⟩
theorem qw_411 : (Jvm.Cond.selects "GradeRows$Sorted" ({ cls := "GradeRows$Sorted", name := "size", desc := "()I" } : Jvm.MethodName) ({ cls := "GradeRows$Sorted", name := "size", desc := "()I" } : Jvm.MethodName)) ∈ qTb := List.mem_filter.mpr ⟨List.mem_of_getElem? (i := 411) (by decide +kernel), rfl⟩
theorem qw_412 : (Jvm.Cond.code ({ cls := "GradeRows$Sorted", name := "size", desc := "()I" } : Jvm.MethodName) prog_5_method_2_code (1 : Nat) (Option.some Jvm.ClassFile.FieldType.int)) ∈ qTb := List.mem_filter.mpr ⟨List.mem_of_getElem? (i := 412) (by decide +kernel), rfl⟩
theorem qw_413 : (Jvm.Cond.methodLink "GradeRows$Steps" (108 : Nat) ({ cls := "GradeRows$Sorted", name := "orderFromGreatest", desc := "(LGradeRows$Sorted;)I" } : Jvm.MethodName)) ∈ qTb := List.mem_filter.mpr ⟨List.mem_of_getElem? (i := 413) (by decide +kernel), rfl⟩
theorem qw_414 : (Jvm.Cond.instanceMethod ({ cls := "GradeRows$Sorted", name := "orderFromGreatest", desc := "(LGradeRows$Sorted;)I" } : Jvm.MethodName)) ∈ qTb := List.mem_filter.mpr ⟨List.mem_of_getElem? (i := 414) (by decide +kernel), rfl⟩
theorem qw_415 : (Jvm.Cond.selects "GradeRows$Sorted" ({ cls := "GradeRows$Sorted", name := "orderFromGreatest", desc := "(LGradeRows$Sorted;)I" } : Jvm.MethodName) ({ cls := "GradeRows$Sorted", name := "orderFromGreatest", desc := "(LGradeRows$Sorted;)I" } : Jvm.MethodName)) ∈ qTb := List.mem_filter.mpr ⟨List.mem_of_getElem? (i := 415) (by decide +kernel), rfl⟩
theorem qw_416 : (Jvm.Cond.code ({ cls := "GradeRows$Sorted", name := "orderFromGreatest", desc := "(LGradeRows$Sorted;)I" } : Jvm.MethodName) prog_5_method_6_code (5 : Nat) (Option.some Jvm.ClassFile.FieldType.int)) ∈ qTb := List.mem_filter.mpr ⟨List.mem_of_getElem? (i := 416) (by decide +kernel), rfl⟩
theorem qw_417 : (Jvm.Cond.methodLink "GradeRows$Sorted" (26 : Nat) ({ cls := "java/lang/Math", name := "min", desc := "(II)I" } : Jvm.MethodName)) ∈ qTb := List.mem_filter.mpr ⟨List.mem_of_getElem? (i := 417) (by decide +kernel), rfl⟩
theorem qw_418 : (Jvm.Cond.methodLinkNest "GradeRows$Sorted" (32 : Nat) ({ cls := "GradeRows", name := "order", desc := "(JJ)I" } : Jvm.MethodName) "GradeRows") ∈ qNs := List.mem_of_getElem? (i := 7) rfl
theorem qw_432 : (Jvm.Cond.methodLink "GradeRowsModel" (1 : Nat) ({ cls := "java/lang/Object", name := "<init>", desc := "()V" } : Jvm.MethodName)) ∈ qTb := List.mem_filter.mpr ⟨List.mem_of_getElem? (i := 432) (by decide +kernel), rfl⟩
theorem qw_433 : (Jvm.Cond.fieldLink "GradeRowsModel" (45 : Nat) "GradeRowsModel" "thrown" "I") ∈ qTb := List.mem_filter.mpr ⟨List.mem_of_getElem? (i := 433) (by decide +kernel), rfl⟩
theorem qw_434 : (Jvm.Cond.fieldLink "GradeRowsModel" (50 : Nat) "GradeRowsModel" "rules" "I") ∈ qTb := List.mem_filter.mpr ⟨List.mem_of_getElem? (i := 434) (by decide +kernel), rfl⟩
theorem qw_435 : (Jvm.Cond.fieldLink "GradeRowsModel" (7 : Nat) "GradeRowsModel" "weights" "[I") ∈ qTb := List.mem_filter.mpr ⟨List.mem_of_getElem? (i := 435) (by decide +kernel), rfl⟩
theorem qw_436 : (Jvm.Cond.fieldLink "GradeRowsModel" (13 : Nat) "GradeRowsModel" "extras" "[I") ∈ qTb := List.mem_filter.mpr ⟨List.mem_of_getElem? (i := 436) (by decide +kernel), rfl⟩
theorem qw_437 : (Jvm.Cond.fieldLink "GradeRowsModel" (16 : Nat) "GradeRowsModel" "sizes" "[I") ∈ qTb := List.mem_filter.mpr ⟨List.mem_of_getElem? (i := 437) (by decide +kernel), rfl⟩
theorem qw_438 : (Jvm.Cond.fieldLink "GradeRowsModel" (19 : Nat) "GradeRowsModel" "byRule" "[I") ∈ qTb := List.mem_filter.mpr ⟨List.mem_of_getElem? (i := 438) (by decide +kernel), rfl⟩
theorem qw_439 : (Jvm.Cond.fieldLink "GradeRowsModel" (22 : Nat) "GradeRowsModel" "where" "[I") ∈ qTb := List.mem_filter.mpr ⟨List.mem_of_getElem? (i := 439) (by decide +kernel), rfl⟩
theorem qw_440 : (Jvm.Cond.fieldLink "GradeRowsModel" (25 : Nat) "GradeRowsModel" "widths" "[I") ∈ qTb := List.mem_filter.mpr ⟨List.mem_of_getElem? (i := 440) (by decide +kernel), rfl⟩
theorem qw_441 : (Jvm.Cond.fieldLink "GradeRowsModel" (90 : Nat) "GradeRowsModel" "kept" "I") ∈ qTb := List.mem_filter.mpr ⟨List.mem_of_getElem? (i := 441) (by decide +kernel), rfl⟩
theorem qw_442 : (Jvm.Cond.fieldLink "GradeRowsModel" (79 : Nat) "GradeRowsModel" "classes" "I") ∈ qTb := List.mem_filter.mpr ⟨List.mem_of_getElem? (i := 442) (by decide +kernel), rfl⟩
theorem qw_443 : (Jvm.Cond.fieldLink "GradeRowsModel" (28 : Nat) "GradeRowsModel" "lows" "[J") ∈ qTb := List.mem_filter.mpr ⟨List.mem_of_getElem? (i := 443) (by decide +kernel), rfl⟩
theorem qw_444 : (Jvm.Cond.fieldLink "GradeRowsModel" (32 : Nat) "GradeRowsModel" "highs" "[J") ∈ qTb := List.mem_filter.mpr ⟨List.mem_of_getElem? (i := 444) (by decide +kernel), rfl⟩
theorem qw_445 : (Jvm.Cond.fieldLink "GradeRowsModel" (61 : Nat) "GradeRowsModel" "cursor" "I") ∈ qTb := List.mem_filter.mpr ⟨List.mem_of_getElem? (i := 445) (by decide +kernel), rfl⟩
theorem qw_446 : (Jvm.Cond.fieldLink "GradeRowsModel" (35 : Nat) "GradeRowsModel" "seen" "[Z") ∈ qTb := List.mem_filter.mpr ⟨List.mem_of_getElem? (i := 446) (by decide +kernel), rfl⟩
theorem qw_447 : (Jvm.Cond.fieldLink "GradeRowsModel" (39 : Nat) "GradeRowsModel" "mine" "[J") ∈ qTb := List.mem_filter.mpr ⟨List.mem_of_getElem? (i := 447) (by decide +kernel), rfl⟩
theorem qw_448 : (Jvm.Cond.fieldLink "GradeRowsModel" (42 : Nat) "GradeRowsModel" "theirs" "[J") ∈ qTb := List.mem_filter.mpr ⟨List.mem_of_getElem? (i := 448) (by decide +kernel), rfl⟩
theorem qw_486 : (Jvm.Cond.constant "GradeRowsModel" (49 : Nat) (100000 : Int32)) ∈ qTb := List.mem_filter.mpr ⟨List.mem_of_getElem? (i := 486) (by decide +kernel), rfl⟩
theorem qw_491 : (Jvm.Cond.methodLink "GradeRowsModel" (53 : Nat) ({ cls := "GradeRowsModel", name := "count", desc := "()I" } : Jvm.MethodName)) ∈ qTb := List.mem_filter.mpr ⟨List.mem_of_getElem? (i := 491) (by decide +kernel), rfl⟩
theorem qw_493 : (Jvm.Cond.instanceMethod ({ cls := "GradeRowsModel", name := "count", desc := "()I" } : Jvm.MethodName)) ∈ qTb := List.mem_filter.mpr ⟨List.mem_of_getElem? (i := 493) (by decide +kernel), rfl⟩
theorem qw_494 : (Jvm.Cond.code ({ cls := "GradeRowsModel", name := "count", desc := "()I" } : Jvm.MethodName) prog_8_method_3_code (1 : Nat) (Option.some Jvm.ClassFile.FieldType.int)) ∈ qTb := List.mem_filter.mpr ⟨List.mem_of_getElem? (i := 494) (by decide +kernel), rfl⟩
theorem qw_495 : (Jvm.Cond.methodLink "GradeRowsModel" (57 : Nat) ({ cls := "GradeRowsModel", name := "add", desc := "(III)I" } : Jvm.MethodName)) ∈ qTb := List.mem_filter.mpr ⟨List.mem_of_getElem? (i := 495) (by decide +kernel), rfl⟩
theorem qw_497 : (Jvm.Cond.instanceMethod ({ cls := "GradeRowsModel", name := "add", desc := "(III)I" } : Jvm.MethodName)) ∈ qTb := List.mem_filter.mpr ⟨List.mem_of_getElem? (i := 497) (by decide +kernel), rfl⟩
theorem qw_498 : (Jvm.Cond.code ({ cls := "GradeRowsModel", name := "add", desc := "(III)I" } : Jvm.MethodName) prog_8_method_5_code (5 : Nat) (Option.some Jvm.ClassFile.FieldType.int)) ∈ qTb := List.mem_filter.mpr ⟨List.mem_of_getElem? (i := 498) (by decide +kernel), rfl⟩
theorem qw_511 : (Jvm.Cond.constantLong "GradeRowsModel" (75 : Nat) (-1 : Int64)) ∈ qTb := List.mem_filter.mpr ⟨List.mem_of_getElem? (i := 511) (by decide +kernel), rfl⟩
theorem qw_512 : (Jvm.Cond.methodLink "GradeRowsModel" (68 : Nat) ({ cls := "GradeRowsModel", name := "costOf", desc := "(II)J" } : Jvm.MethodName)) ∈ qTb := List.mem_filter.mpr ⟨List.mem_of_getElem? (i := 512) (by decide +kernel), rfl⟩
theorem qw_514 : (Jvm.Cond.instanceMethod ({ cls := "GradeRowsModel", name := "costOf", desc := "(II)J" } : Jvm.MethodName)) ∈ qTb := List.mem_filter.mpr ⟨List.mem_of_getElem? (i := 514) (by decide +kernel), rfl⟩
theorem qw_515 : (Jvm.Cond.code ({ cls := "GradeRowsModel", name := "costOf", desc := "(II)J" } : Jvm.MethodName) prog_8_method_9_code (7 : Nat) (Option.some Jvm.ClassFile.FieldType.long)) ∈ qTb := List.mem_filter.mpr ⟨List.mem_of_getElem? (i := 515) (by decide +kernel), rfl⟩
theorem qw_516 : (Jvm.Cond.constantLong "GradeRowsModel" (64 : Nat) (1000 : Int64)) ∈ qTb := List.mem_filter.mpr ⟨List.mem_of_getElem? (i := 516) (by decide +kernel), rfl⟩
theorem qw_517 : (Jvm.Cond.constantLong "GradeRowsModel" (66 : Nat) (4 : Int64)) ∈ qTb := List.mem_filter.mpr ⟨List.mem_of_getElem? (i := 517) (by decide +kernel), rfl⟩
theorem qw_522 : (Jvm.Cond.methodLink "GradeRowsModel" (72 : Nat) ({ cls := "GradeRowsModel", name := "sumOf", desc := "(II)J" } : Jvm.MethodName)) ∈ qTb := List.mem_filter.mpr ⟨List.mem_of_getElem? (i := 522) (by decide +kernel), rfl⟩
theorem qw_524 : (Jvm.Cond.instanceMethod ({ cls := "GradeRowsModel", name := "sumOf", desc := "(II)J" } : Jvm.MethodName)) ∈ qTb := List.mem_filter.mpr ⟨List.mem_of_getElem? (i := 524) (by decide +kernel), rfl⟩
theorem qw_525 : (Jvm.Cond.code ({ cls := "GradeRowsModel", name := "sumOf", desc := "(II)J" } : Jvm.MethodName) prog_8_method_10_code (6 : Nat) (Option.some Jvm.ClassFile.FieldType.long)) ∈ qTb := List.mem_filter.mpr ⟨List.mem_of_getElem? (i := 525) (by decide +kernel), rfl⟩
theorem qw_530 : (Jvm.Cond.constantLong "GradeRowsModel" (77 : Nat) (100000000 : Int64)) ∈ qTb := List.mem_filter.mpr ⟨List.mem_of_getElem? (i := 530) (by decide +kernel), rfl⟩
theorem qw_535 : (Jvm.Cond.methodLink "GradeRowsModel" (82 : Nat) ({ cls := "GradeRowsModel", name := "all", desc := "()J" } : Jvm.MethodName)) ∈ qTb := List.mem_filter.mpr ⟨List.mem_of_getElem? (i := 535) (by decide +kernel), rfl⟩
theorem qw_537 : (Jvm.Cond.instanceMethod ({ cls := "GradeRowsModel", name := "all", desc := "()J" } : Jvm.MethodName)) ∈ qTb := List.mem_filter.mpr ⟨List.mem_of_getElem? (i := 537) (by decide +kernel), rfl⟩
theorem qw_538 : (Jvm.Cond.code ({ cls := "GradeRowsModel", name := "all", desc := "()J" } : Jvm.MethodName) prog_8_method_11_code (1 : Nat) (Option.some Jvm.ClassFile.FieldType.long)) ∈ qTb := List.mem_filter.mpr ⟨List.mem_of_getElem? (i := 538) (by decide +kernel), rfl⟩
theorem qw_539 : (Jvm.Cond.methodLink "GradeRowsModel" (86 : Nat) ({ cls := "GradeRowsModel", name := "classOf", desc := "(J)I" } : Jvm.MethodName)) ∈ qTb := List.mem_filter.mpr ⟨List.mem_of_getElem? (i := 539) (by decide +kernel), rfl⟩
theorem qw_541 : (Jvm.Cond.instanceMethod ({ cls := "GradeRowsModel", name := "classOf", desc := "(J)I" } : Jvm.MethodName)) ∈ qTb := List.mem_filter.mpr ⟨List.mem_of_getElem? (i := 541) (by decide +kernel), rfl⟩
theorem qw_542 : (Jvm.Cond.code ({ cls := "GradeRowsModel", name := "classOf", desc := "(J)I" } : Jvm.MethodName) prog_8_method_15_code (4 : Nat) (Option.some Jvm.ClassFile.FieldType.int)) ∈ qTb := List.mem_filter.mpr ⟨List.mem_of_getElem? (i := 542) (by decide +kernel), rfl⟩
theorem qw_579 : (Jvm.Cond.methodLink "GradeRowsModel" (93 : Nat) ({ cls := "GradeRowsModel", name := "way", desc := "(JJ)I" } : Jvm.MethodName)) ∈ qTb := List.mem_filter.mpr ⟨List.mem_of_getElem? (i := 579) (by decide +kernel), rfl⟩
theorem qw_580 : (Jvm.Cond.static ({ cls := "GradeRowsModel", name := "way", desc := "(JJ)I" } : Jvm.MethodName)) ∈ qTb := List.mem_filter.mpr ⟨List.mem_of_getElem? (i := 580) (by decide +kernel), rfl⟩
theorem qw_581 : (Jvm.Cond.code ({ cls := "GradeRowsModel", name := "way", desc := "(JJ)I" } : Jvm.MethodName) prog_8_method_25_code (4 : Nat) (Option.some Jvm.ClassFile.FieldType.int)) ∈ qTb := List.mem_filter.mpr ⟨List.mem_of_getElem? (i := 581) (by decide +kernel), rfl⟩
theorem qw_586 : (Jvm.Cond.methodLink "GradeRowsModel" (97 : Nat) ({ cls := "GradeRowsModel", name := "like", desc := "(II)I" } : Jvm.MethodName)) ∈ qTb := List.mem_filter.mpr ⟨List.mem_of_getElem? (i := 586) (by decide +kernel), rfl⟩
theorem qw_588 : (Jvm.Cond.instanceMethod ({ cls := "GradeRowsModel", name := "like", desc := "(II)I" } : Jvm.MethodName)) ∈ qTb := List.mem_filter.mpr ⟨List.mem_of_getElem? (i := 588) (by decide +kernel), rfl⟩
theorem qw_589 : (Jvm.Cond.code ({ cls := "GradeRowsModel", name := "like", desc := "(II)I" } : Jvm.MethodName) prog_8_method_27_code (6 : Nat) (Option.some Jvm.ClassFile.FieldType.int)) ∈ qTb := List.mem_filter.mpr ⟨List.mem_of_getElem? (i := 589) (by decide +kernel), rfl⟩
end
section
theorem dX0_init_0 : decode cX0_init 0 = .ok (.aload_n 0, 1) := by decide +kernel
theorem dX0_init_1 : decode cX0_init 1 = .ok (.invokespecial 3, 3) := by decide +kernel
theorem dX0_init_4 : decode cX0_init 4 = .ok (.aload_n 0, 1) := by decide +kernel
theorem dX0_init_5 : decode cX0_init 5 = .ok (.bipush 20, 2) := by decide +kernel
theorem dX0_init_7 : decode cX0_init 7 = .ok (.newarray .long, 2) := by decide +kernel
theorem dX0_init_9 : decode cX0_init 9 = .ok (.putfield 9, 3) := by decide +kernel
theorem dX0_init_12 : decode cX0_init 12 = .ok (.aload_n 0, 1) := by decide +kernel
theorem dX0_init_13 : decode cX0_init 13 = .ok (.bipush 20, 2) := by decide +kernel
theorem dX0_init_15 : decode cX0_init 15 = .ok (.newarray .long, 2) := by decide +kernel
theorem dX0_init_17 : decode cX0_init 17 = .ok (.putfield 15, 3) := by decide +kernel
theorem dX0_init_20 : decode cX0_init 20 = .ok (.aload_n 0, 1) := by decide +kernel
theorem dX0_init_21 : decode cX0_init 21 = .ok (.iconst 0, 1) := by decide +kernel
theorem dX0_init_22 : decode cX0_init 22 = .ok (.putfield 18, 3) := by decide +kernel
theorem dX0_init_25 : decode cX0_init 25 = .ok (.return_, 1) := by decide +kernel
theorem dX0_add_0 : decode cX0_add 0 = .ok (.aload_n 0, 1) := by decide +kernel
theorem dX0_add_1 : decode cX0_add 1 = .ok (.getfield 18, 3) := by decide +kernel
theorem dX0_add_4 : decode cX0_add 4 = .ok (.bipush 20, 2) := by decide +kernel
theorem dX0_add_6 : decode cX0_add 6 = .ok (.if_icmp .ge 12, 3) := by decide +kernel
theorem dX0_add_9 : decode cX0_add 9 = .ok (.aload_n 0, 1) := by decide +kernel
theorem dX0_add_10 : decode cX0_add 10 = .ok (.lload_n 1, 1) := by decide +kernel
theorem dX0_add_11 : decode cX0_add 11 = .ok (.lload_n 3, 1) := by decide +kernel
theorem dX0_add_12 : decode cX0_add 12 = .ok (.invokevirtual 22, 3) := by decide +kernel
theorem dX0_add_15 : decode cX0_add 15 = .ok (.ifCond .eq 5, 3) := by decide +kernel
theorem dX0_add_18 : decode cX0_add 18 = .ok (.iconst (-1), 1) := by decide +kernel
theorem dX0_add_19 : decode cX0_add 19 = .ok (.ireturn, 1) := by decide +kernel
theorem dX0_add_20 : decode cX0_add 20 = .ok (.aload_n 0, 1) := by decide +kernel
theorem dX0_add_21 : decode cX0_add 21 = .ok (.getfield 9, 3) := by decide +kernel
theorem dX0_add_24 : decode cX0_add 24 = .ok (.aload_n 0, 1) := by decide +kernel
theorem dX0_add_25 : decode cX0_add 25 = .ok (.getfield 18, 3) := by decide +kernel
theorem dX0_add_28 : decode cX0_add 28 = .ok (.lload_n 1, 1) := by decide +kernel
theorem dX0_add_29 : decode cX0_add 29 = .ok (.lastore, 1) := by decide +kernel
theorem dX0_add_30 : decode cX0_add 30 = .ok (.aload_n 0, 1) := by decide +kernel
theorem dX0_add_31 : decode cX0_add 31 = .ok (.getfield 15, 3) := by decide +kernel
theorem dX0_add_34 : decode cX0_add 34 = .ok (.aload_n 0, 1) := by decide +kernel
theorem dX0_add_35 : decode cX0_add 35 = .ok (.getfield 18, 3) := by decide +kernel
theorem dX0_add_38 : decode cX0_add 38 = .ok (.lload_n 3, 1) := by decide +kernel
theorem dX0_add_39 : decode cX0_add 39 = .ok (.lastore, 1) := by decide +kernel
theorem dX0_add_40 : decode cX0_add 40 = .ok (.aload_n 0, 1) := by decide +kernel
theorem dX0_add_41 : decode cX0_add 41 = .ok (.dup, 1) := by decide +kernel
theorem dX0_add_42 : decode cX0_add 42 = .ok (.getfield 18, 3) := by decide +kernel
theorem dX0_add_45 : decode cX0_add 45 = .ok (.iconst 1, 1) := by decide +kernel
theorem dX0_add_46 : decode cX0_add 46 = .ok (.iadd, 1) := by decide +kernel
theorem dX0_add_47 : decode cX0_add 47 = .ok (.putfield 18, 3) := by decide +kernel
theorem dX0_add_50 : decode cX0_add 50 = .ok (.aload_n 0, 1) := by decide +kernel
theorem dX0_add_51 : decode cX0_add 51 = .ok (.getfield 18, 3) := by decide +kernel
theorem dX0_add_54 : decode cX0_add 54 = .ok (.iconst 1, 1) := by decide +kernel
theorem dX0_add_55 : decode cX0_add 55 = .ok (.isub, 1) := by decide +kernel
theorem dX0_add_56 : decode cX0_add 56 = .ok (.ireturn, 1) := by decide +kernel
theorem dX0_classOf_0 : decode cX0_classOf 0 = .ok (.iconst 0, 1) := by decide +kernel
theorem dX0_classOf_1 : decode cX0_classOf 1 = .ok (.istore_n 3, 1) := by decide +kernel
theorem dX0_classOf_2 : decode cX0_classOf 2 = .ok (.iload_n 3, 1) := by decide +kernel
theorem dX0_classOf_3 : decode cX0_classOf 3 = .ok (.aload_n 0, 1) := by decide +kernel
theorem dX0_classOf_4 : decode cX0_classOf 4 = .ok (.getfield 18, 3) := by decide +kernel
theorem dX0_classOf_7 : decode cX0_classOf 7 = .ok (.if_icmp .ge 33, 3) := by decide +kernel
theorem dX0_classOf_10 : decode cX0_classOf 10 = .ok (.aload_n 0, 1) := by decide +kernel
theorem dX0_classOf_11 : decode cX0_classOf 11 = .ok (.getfield 9, 3) := by decide +kernel
theorem dX0_classOf_14 : decode cX0_classOf 14 = .ok (.iload_n 3, 1) := by decide +kernel
theorem dX0_classOf_15 : decode cX0_classOf 15 = .ok (.laload, 1) := by decide +kernel
theorem dX0_classOf_16 : decode cX0_classOf 16 = .ok (.lload_n 1, 1) := by decide +kernel
theorem dX0_classOf_17 : decode cX0_classOf 17 = .ok (.lcmp, 1) := by decide +kernel
theorem dX0_classOf_18 : decode cX0_classOf 18 = .ok (.ifCond .gt 16, 3) := by decide +kernel
theorem dX0_classOf_21 : decode cX0_classOf 21 = .ok (.lload_n 1, 1) := by decide +kernel
theorem dX0_classOf_22 : decode cX0_classOf 22 = .ok (.aload_n 0, 1) := by decide +kernel
theorem dX0_classOf_23 : decode cX0_classOf 23 = .ok (.getfield 15, 3) := by decide +kernel
theorem dX0_classOf_26 : decode cX0_classOf 26 = .ok (.iload_n 3, 1) := by decide +kernel
theorem dX0_classOf_27 : decode cX0_classOf 27 = .ok (.laload, 1) := by decide +kernel
theorem dX0_classOf_28 : decode cX0_classOf 28 = .ok (.lcmp, 1) := by decide +kernel
theorem dX0_classOf_29 : decode cX0_classOf 29 = .ok (.ifCond .gt 5, 3) := by decide +kernel
theorem dX0_classOf_32 : decode cX0_classOf 32 = .ok (.iload_n 3, 1) := by decide +kernel
theorem dX0_classOf_33 : decode cX0_classOf 33 = .ok (.ireturn, 1) := by decide +kernel
theorem dX0_classOf_34 : decode cX0_classOf 34 = .ok (.iinc 3 1, 3) := by decide +kernel
theorem dX0_classOf_37 : decode cX0_classOf 37 = .ok (.goto (-35), 3) := by decide +kernel
theorem dX0_classOf_40 : decode cX0_classOf 40 = .ok (.iconst (-1), 1) := by decide +kernel
theorem dX0_classOf_41 : decode cX0_classOf 41 = .ok (.ireturn, 1) := by decide +kernel
theorem dX0_countBelow_0 : decode cX0_countBelow 0 = .ok (.iconst 0, 1) := by decide +kernel
theorem dX0_countBelow_1 : decode cX0_countBelow 1 = .ok (.istore_n 3, 1) := by decide +kernel
theorem dX0_countBelow_2 : decode cX0_countBelow 2 = .ok (.iconst 0, 1) := by decide +kernel
theorem dX0_countBelow_3 : decode cX0_countBelow 3 = .ok (.istore 4, 2) := by decide +kernel
theorem dX0_countBelow_5 : decode cX0_countBelow 5 = .ok (.iload 4, 2) := by decide +kernel
theorem dX0_countBelow_7 : decode cX0_countBelow 7 = .ok (.aload_n 0, 1) := by decide +kernel
theorem dX0_countBelow_8 : decode cX0_countBelow 8 = .ok (.getfield 18, 3) := by decide +kernel
theorem dX0_countBelow_11 : decode cX0_countBelow 11 = .ok (.if_icmp .ge 24, 3) := by decide +kernel
theorem dX0_countBelow_14 : decode cX0_countBelow 14 = .ok (.aload_n 0, 1) := by decide +kernel
theorem dX0_countBelow_15 : decode cX0_countBelow 15 = .ok (.getfield 15, 3) := by decide +kernel
theorem dX0_countBelow_18 : decode cX0_countBelow 18 = .ok (.iload 4, 2) := by decide +kernel
theorem dX0_countBelow_20 : decode cX0_countBelow 20 = .ok (.laload, 1) := by decide +kernel
theorem dX0_countBelow_21 : decode cX0_countBelow 21 = .ok (.lload_n 1, 1) := by decide +kernel
theorem dX0_countBelow_22 : decode cX0_countBelow 22 = .ok (.lcmp, 1) := by decide +kernel
theorem dX0_countBelow_23 : decode cX0_countBelow 23 = .ok (.ifCond .ge 6, 3) := by decide +kernel
theorem dX0_countBelow_26 : decode cX0_countBelow 26 = .ok (.iinc 3 1, 3) := by decide +kernel
theorem dX0_countBelow_29 : decode cX0_countBelow 29 = .ok (.iinc 4 1, 3) := by decide +kernel
theorem dX0_countBelow_32 : decode cX0_countBelow 32 = .ok (.goto (-27), 3) := by decide +kernel
theorem dX0_countBelow_35 : decode cX0_countBelow 35 = .ok (.iload_n 3, 1) := by decide +kernel
theorem dX0_countBelow_36 : decode cX0_countBelow 36 = .ok (.ireturn, 1) := by decide +kernel
theorem dX0_firstFree_0 : decode cX0_firstFree 0 = .ok (.lload_n 1, 1) := by decide +kernel
theorem dX0_firstFree_1 : decode cX0_firstFree 1 = .ok (.lstore_n 3, 1) := by decide +kernel
theorem dX0_firstFree_2 : decode cX0_firstFree 2 = .ok (.iconst 0, 1) := by decide +kernel
theorem dX0_firstFree_3 : decode cX0_firstFree 3 = .ok (.istore 5, 2) := by decide +kernel
theorem dX0_firstFree_5 : decode cX0_firstFree 5 = .ok (.iload 5, 2) := by decide +kernel
theorem dX0_firstFree_7 : decode cX0_firstFree 7 = .ok (.aload_n 0, 1) := by decide +kernel
theorem dX0_firstFree_8 : decode cX0_firstFree 8 = .ok (.getfield 18, 3) := by decide +kernel
theorem dX0_firstFree_11 : decode cX0_firstFree 11 = .ok (.if_icmp .ge 33, 3) := by decide +kernel
theorem dX0_firstFree_14 : decode cX0_firstFree 14 = .ok (.aload_n 0, 1) := by decide +kernel
theorem dX0_firstFree_15 : decode cX0_firstFree 15 = .ok (.lload_n 3, 1) := by decide +kernel
theorem dX0_firstFree_16 : decode cX0_firstFree 16 = .ok (.invokevirtual 26, 3) := by decide +kernel
theorem dX0_firstFree_19 : decode cX0_firstFree 19 = .ok (.istore 6, 2) := by decide +kernel
theorem dX0_firstFree_21 : decode cX0_firstFree 21 = .ok (.iload 6, 2) := by decide +kernel
theorem dX0_firstFree_23 : decode cX0_firstFree 23 = .ok (.ifCond .ge 5, 3) := by decide +kernel
theorem dX0_firstFree_26 : decode cX0_firstFree 26 = .ok (.lload_n 3, 1) := by decide +kernel
theorem dX0_firstFree_27 : decode cX0_firstFree 27 = .ok (.lreturn, 1) := by decide +kernel
theorem dX0_firstFree_28 : decode cX0_firstFree 28 = .ok (.aload_n 0, 1) := by decide +kernel
theorem dX0_firstFree_29 : decode cX0_firstFree 29 = .ok (.getfield 15, 3) := by decide +kernel
theorem dX0_firstFree_32 : decode cX0_firstFree 32 = .ok (.iload 6, 2) := by decide +kernel
theorem dX0_firstFree_34 : decode cX0_firstFree 34 = .ok (.laload, 1) := by decide +kernel
theorem dX0_firstFree_35 : decode cX0_firstFree 35 = .ok (.lconst 1, 1) := by decide +kernel
theorem dX0_firstFree_36 : decode cX0_firstFree 36 = .ok (.ladd, 1) := by decide +kernel
theorem dX0_firstFree_37 : decode cX0_firstFree 37 = .ok (.lstore_n 3, 1) := by decide +kernel
theorem dX0_firstFree_38 : decode cX0_firstFree 38 = .ok (.iinc 5 1, 3) := by decide +kernel
theorem dX0_firstFree_41 : decode cX0_firstFree 41 = .ok (.goto (-36), 3) := by decide +kernel
theorem dX0_firstFree_44 : decode cX0_firstFree 44 = .ok (.lload_n 3, 1) := by decide +kernel
theorem dX0_firstFree_45 : decode cX0_firstFree 45 = .ok (.lreturn, 1) := by decide +kernel
theorem dX0_hasOneOf_0 : decode cX0_hasOneOf 0 = .ok (.iconst 0, 1) := by decide +kernel
theorem dX0_hasOneOf_1 : decode cX0_hasOneOf 1 = .ok (.istore 5, 2) := by decide +kernel
theorem dX0_hasOneOf_3 : decode cX0_hasOneOf 3 = .ok (.iload 5, 2) := by decide +kernel
theorem dX0_hasOneOf_5 : decode cX0_hasOneOf 5 = .ok (.aload_n 0, 1) := by decide +kernel
theorem dX0_hasOneOf_6 : decode cX0_hasOneOf 6 = .ok (.getfield 18, 3) := by decide +kernel
theorem dX0_hasOneOf_9 : decode cX0_hasOneOf 9 = .ok (.if_icmp .ge 35, 3) := by decide +kernel
theorem dX0_hasOneOf_12 : decode cX0_hasOneOf 12 = .ok (.aload_n 0, 1) := by decide +kernel
theorem dX0_hasOneOf_13 : decode cX0_hasOneOf 13 = .ok (.getfield 9, 3) := by decide +kernel
theorem dX0_hasOneOf_16 : decode cX0_hasOneOf 16 = .ok (.iload 5, 2) := by decide +kernel
theorem dX0_hasOneOf_18 : decode cX0_hasOneOf 18 = .ok (.laload, 1) := by decide +kernel
theorem dX0_hasOneOf_19 : decode cX0_hasOneOf 19 = .ok (.lload_n 3, 1) := by decide +kernel
theorem dX0_hasOneOf_20 : decode cX0_hasOneOf 20 = .ok (.lcmp, 1) := by decide +kernel
theorem dX0_hasOneOf_21 : decode cX0_hasOneOf 21 = .ok (.ifCond .gt 17, 3) := by decide +kernel
theorem dX0_hasOneOf_24 : decode cX0_hasOneOf 24 = .ok (.lload_n 1, 1) := by decide +kernel
theorem dX0_hasOneOf_25 : decode cX0_hasOneOf 25 = .ok (.aload_n 0, 1) := by decide +kernel
theorem dX0_hasOneOf_26 : decode cX0_hasOneOf 26 = .ok (.getfield 15, 3) := by decide +kernel
theorem dX0_hasOneOf_29 : decode cX0_hasOneOf 29 = .ok (.iload 5, 2) := by decide +kernel
theorem dX0_hasOneOf_31 : decode cX0_hasOneOf 31 = .ok (.laload, 1) := by decide +kernel
theorem dX0_hasOneOf_32 : decode cX0_hasOneOf 32 = .ok (.lcmp, 1) := by decide +kernel
theorem dX0_hasOneOf_33 : decode cX0_hasOneOf 33 = .ok (.ifCond .gt 5, 3) := by decide +kernel
theorem dX0_hasOneOf_36 : decode cX0_hasOneOf 36 = .ok (.iconst 1, 1) := by decide +kernel
theorem dX0_hasOneOf_37 : decode cX0_hasOneOf 37 = .ok (.ireturn, 1) := by decide +kernel
theorem dX0_hasOneOf_38 : decode cX0_hasOneOf 38 = .ok (.iinc 5 1, 3) := by decide +kernel
theorem dX0_hasOneOf_41 : decode cX0_hasOneOf 41 = .ok (.goto (-38), 3) := by decide +kernel
theorem dX0_hasOneOf_44 : decode cX0_hasOneOf 44 = .ok (.iconst 0, 1) := by decide +kernel
theorem dX0_hasOneOf_45 : decode cX0_hasOneOf 45 = .ok (.ireturn, 1) := by decide +kernel
end
section
theorem dX1_init_0 : decode cX1_init 0 = .ok (.aload_n 0, 1) := by decide +kernel
theorem dX1_init_1 : decode cX1_init 1 = .ok (.invokespecial 1, 3) := by decide +kernel
theorem dX1_init_4 : decode cX1_init 4 = .ok (.aload_n 0, 1) := by decide +kernel
theorem dX1_init_5 : decode cX1_init 5 = .ok (.lload_n 1, 1) := by decide +kernel
theorem dX1_init_6 : decode cX1_init 6 = .ok (.putfield 7, 3) := by decide +kernel
theorem dX1_init_9 : decode cX1_init 9 = .ok (.aload_n 0, 1) := by decide +kernel
theorem dX1_init_10 : decode cX1_init 10 = .ok (.aload_n 3, 1) := by decide +kernel
theorem dX1_init_11 : decode cX1_init 11 = .ok (.putfield 13, 3) := by decide +kernel
theorem dX1_init_14 : decode cX1_init 14 = .ok (.aload_n 0, 1) := by decide +kernel
theorem dX1_init_15 : decode cX1_init 15 = .ok (.aload 4, 2) := by decide +kernel
theorem dX1_init_17 : decode cX1_init 17 = .ok (.putfield 17, 3) := by decide +kernel
theorem dX1_init_20 : decode cX1_init 20 = .ok (.return_, 1) := by decide +kernel
end
section
theorem dX2_init_0 : decode cX2_init 0 = .ok (.aload_n 0, 1) := by decide +kernel
theorem dX2_init_1 : decode cX2_init 1 = .ok (.invokespecial 3, 3) := by decide +kernel
theorem dX2_init_4 : decode cX2_init 4 = .ok (.aload_n 0, 1) := by decide +kernel
theorem dX2_init_5 : decode cX2_init 5 = .ok (.bipush 40, 2) := by decide +kernel
theorem dX2_init_7 : decode cX2_init 7 = .ok (.newarray .int, 2) := by decide +kernel
theorem dX2_init_9 : decode cX2_init 9 = .ok (.putfield 9, 3) := by decide +kernel
theorem dX2_init_12 : decode cX2_init 12 = .ok (.aload_n 0, 1) := by decide +kernel
theorem dX2_init_13 : decode cX2_init 13 = .ok (.bipush 40, 2) := by decide +kernel
theorem dX2_init_15 : decode cX2_init 15 = .ok (.newarray .int, 2) := by decide +kernel
theorem dX2_init_17 : decode cX2_init 17 = .ok (.putfield 15, 3) := by decide +kernel
theorem dX2_init_20 : decode cX2_init 20 = .ok (.aload_n 0, 1) := by decide +kernel
theorem dX2_init_21 : decode cX2_init 21 = .ok (.bipush 40, 2) := by decide +kernel
theorem dX2_init_23 : decode cX2_init 23 = .ok (.newarray .int, 2) := by decide +kernel
theorem dX2_init_25 : decode cX2_init 25 = .ok (.putfield 18, 3) := by decide +kernel
theorem dX2_init_28 : decode cX2_init 28 = .ok (.aload_n 0, 1) := by decide +kernel
theorem dX2_init_29 : decode cX2_init 29 = .ok (.bipush 40, 2) := by decide +kernel
theorem dX2_init_31 : decode cX2_init 31 = .ok (.newarray .long, 2) := by decide +kernel
theorem dX2_init_33 : decode cX2_init 33 = .ok (.putfield 21, 3) := by decide +kernel
theorem dX2_init_36 : decode cX2_init 36 = .ok (.aload_n 0, 1) := by decide +kernel
theorem dX2_init_37 : decode cX2_init 37 = .ok (.iconst 0, 1) := by decide +kernel
theorem dX2_init_38 : decode cX2_init 38 = .ok (.putfield 25, 3) := by decide +kernel
theorem dX2_init_41 : decode cX2_init 41 = .ok (.return_, 1) := by decide +kernel
theorem dX2_has_0 : decode cX2_has 0 = .ok (.iload_n 1, 1) := by decide +kernel
theorem dX2_has_1 : decode cX2_has 1 = .ok (.ifCond .lt 15, 3) := by decide +kernel
theorem dX2_has_4 : decode cX2_has 4 = .ok (.iload_n 1, 1) := by decide +kernel
theorem dX2_has_5 : decode cX2_has 5 = .ok (.aload_n 0, 1) := by decide +kernel
theorem dX2_has_6 : decode cX2_has 6 = .ok (.getfield 25, 3) := by decide +kernel
theorem dX2_has_9 : decode cX2_has 9 = .ok (.if_icmp .ge 7, 3) := by decide +kernel
theorem dX2_has_12 : decode cX2_has 12 = .ok (.iconst 1, 1) := by decide +kernel
theorem dX2_has_13 : decode cX2_has 13 = .ok (.goto 4, 3) := by decide +kernel
theorem dX2_has_16 : decode cX2_has 16 = .ok (.iconst 0, 1) := by decide +kernel
theorem dX2_has_17 : decode cX2_has 17 = .ok (.ireturn, 1) := by decide +kernel
theorem dX2_add_0 : decode cX2_add 0 = .ok (.aload_n 0, 1) := by decide +kernel
theorem dX2_add_1 : decode cX2_add 1 = .ok (.getfield 25, 3) := by decide +kernel
theorem dX2_add_4 : decode cX2_add 4 = .ok (.bipush 40, 2) := by decide +kernel
theorem dX2_add_6 : decode cX2_add 6 = .ok (.if_icmp .lt 5, 3) := by decide +kernel
theorem dX2_add_9 : decode cX2_add 9 = .ok (.iconst (-1), 1) := by decide +kernel
theorem dX2_add_10 : decode cX2_add 10 = .ok (.ireturn, 1) := by decide +kernel
theorem dX2_add_11 : decode cX2_add 11 = .ok (.aload_n 0, 1) := by decide +kernel
theorem dX2_add_12 : decode cX2_add 12 = .ok (.getfield 9, 3) := by decide +kernel
theorem dX2_add_15 : decode cX2_add 15 = .ok (.aload_n 0, 1) := by decide +kernel
theorem dX2_add_16 : decode cX2_add 16 = .ok (.getfield 25, 3) := by decide +kernel
theorem dX2_add_19 : decode cX2_add 19 = .ok (.iload_n 1, 1) := by decide +kernel
theorem dX2_add_20 : decode cX2_add 20 = .ok (.iastore, 1) := by decide +kernel
theorem dX2_add_21 : decode cX2_add 21 = .ok (.aload_n 0, 1) := by decide +kernel
theorem dX2_add_22 : decode cX2_add 22 = .ok (.getfield 15, 3) := by decide +kernel
theorem dX2_add_25 : decode cX2_add 25 = .ok (.aload_n 0, 1) := by decide +kernel
theorem dX2_add_26 : decode cX2_add 26 = .ok (.getfield 25, 3) := by decide +kernel
theorem dX2_add_29 : decode cX2_add 29 = .ok (.iload_n 2, 1) := by decide +kernel
theorem dX2_add_30 : decode cX2_add 30 = .ok (.iastore, 1) := by decide +kernel
theorem dX2_add_31 : decode cX2_add 31 = .ok (.aload_n 0, 1) := by decide +kernel
theorem dX2_add_32 : decode cX2_add 32 = .ok (.dup, 1) := by decide +kernel
theorem dX2_add_33 : decode cX2_add 33 = .ok (.getfield 25, 3) := by decide +kernel
theorem dX2_add_36 : decode cX2_add 36 = .ok (.iconst 1, 1) := by decide +kernel
theorem dX2_add_37 : decode cX2_add 37 = .ok (.iadd, 1) := by decide +kernel
theorem dX2_add_38 : decode cX2_add 38 = .ok (.putfield 25, 3) := by decide +kernel
theorem dX2_add_41 : decode cX2_add 41 = .ok (.aload_n 0, 1) := by decide +kernel
theorem dX2_add_42 : decode cX2_add 42 = .ok (.getfield 25, 3) := by decide +kernel
theorem dX2_add_45 : decode cX2_add 45 = .ok (.iconst 1, 1) := by decide +kernel
theorem dX2_add_46 : decode cX2_add 46 = .ok (.isub, 1) := by decide +kernel
theorem dX2_add_47 : decode cX2_add 47 = .ok (.ireturn, 1) := by decide +kernel
theorem dX2_priceOfNext_0 : decode cX2_priceOfNext 0 = .ok (.aload_n 0, 1) := by decide +kernel
theorem dX2_priceOfNext_1 : decode cX2_priceOfNext 1 = .ok (.iload_n 1, 1) := by decide +kernel
theorem dX2_priceOfNext_2 : decode cX2_priceOfNext 2 = .ok (.invokevirtual 29, 3) := by decide +kernel
theorem dX2_priceOfNext_5 : decode cX2_priceOfNext 5 = .ok (.ifCond .ne 5, 3) := by decide +kernel
theorem dX2_priceOfNext_8 : decode cX2_priceOfNext 8 = .ok (.iconst 0, 1) := by decide +kernel
theorem dX2_priceOfNext_9 : decode cX2_priceOfNext 9 = .ok (.ireturn, 1) := by decide +kernel
theorem dX2_priceOfNext_10 : decode cX2_priceOfNext 10 = .ok (.aload_n 0, 1) := by decide +kernel
theorem dX2_priceOfNext_11 : decode cX2_priceOfNext 11 = .ok (.getfield 9, 3) := by decide +kernel
theorem dX2_priceOfNext_14 : decode cX2_priceOfNext 14 = .ok (.iload_n 1, 1) := by decide +kernel
theorem dX2_priceOfNext_15 : decode cX2_priceOfNext 15 = .ok (.iaload, 1) := by decide +kernel
theorem dX2_priceOfNext_16 : decode cX2_priceOfNext 16 = .ok (.bipush 12, 2) := by decide +kernel
theorem dX2_priceOfNext_18 : decode cX2_priceOfNext 18 = .ok (.iload_n 2, 1) := by decide +kernel
theorem dX2_priceOfNext_19 : decode cX2_priceOfNext 19 = .ok (.isub, 1) := by decide +kernel
theorem dX2_priceOfNext_20 : decode cX2_priceOfNext 20 = .ok (.imul, 1) := by decide +kernel
theorem dX2_priceOfNext_21 : decode cX2_priceOfNext 21 = .ok (.iconst 4, 1) := by decide +kernel
theorem dX2_priceOfNext_22 : decode cX2_priceOfNext 22 = .ok (.idiv, 1) := by decide +kernel
theorem dX2_priceOfNext_23 : decode cX2_priceOfNext 23 = .ok (.istore_n 3, 1) := by decide +kernel
theorem dX2_priceOfNext_24 : decode cX2_priceOfNext 24 = .ok (.aload_n 0, 1) := by decide +kernel
theorem dX2_priceOfNext_25 : decode cX2_priceOfNext 25 = .ok (.getfield 18, 3) := by decide +kernel
theorem dX2_priceOfNext_28 : decode cX2_priceOfNext 28 = .ok (.iload_n 1, 1) := by decide +kernel
theorem dX2_priceOfNext_29 : decode cX2_priceOfNext 29 = .ok (.iaload, 1) := by decide +kernel
theorem dX2_priceOfNext_30 : decode cX2_priceOfNext 30 = .ok (.ifCond .ne 14, 3) := by decide +kernel
theorem dX2_priceOfNext_33 : decode cX2_priceOfNext 33 = .ok (.iload_n 3, 1) := by decide +kernel
theorem dX2_priceOfNext_34 : decode cX2_priceOfNext 34 = .ok (.aload_n 0, 1) := by decide +kernel
theorem dX2_priceOfNext_35 : decode cX2_priceOfNext 35 = .ok (.getfield 15, 3) := by decide +kernel
theorem dX2_priceOfNext_38 : decode cX2_priceOfNext 38 = .ok (.iload_n 1, 1) := by decide +kernel
theorem dX2_priceOfNext_39 : decode cX2_priceOfNext 39 = .ok (.iaload, 1) := by decide +kernel
theorem dX2_priceOfNext_40 : decode cX2_priceOfNext 40 = .ok (.iadd, 1) := by decide +kernel
theorem dX2_priceOfNext_41 : decode cX2_priceOfNext 41 = .ok (.goto 4, 3) := by decide +kernel
theorem dX2_priceOfNext_44 : decode cX2_priceOfNext 44 = .ok (.iload_n 3, 1) := by decide +kernel
theorem dX2_priceOfNext_45 : decode cX2_priceOfNext 45 = .ok (.ireturn, 1) := by decide +kernel
theorem dX2_noteStep_0 : decode cX2_noteStep 0 = .ok (.aload_n 0, 1) := by decide +kernel
theorem dX2_noteStep_1 : decode cX2_noteStep 1 = .ok (.iload_n 1, 1) := by decide +kernel
theorem dX2_noteStep_2 : decode cX2_noteStep 2 = .ok (.invokevirtual 29, 3) := by decide +kernel
theorem dX2_noteStep_5 : decode cX2_noteStep 5 = .ok (.ifCond .eq 24, 3) := by decide +kernel
theorem dX2_noteStep_8 : decode cX2_noteStep 8 = .ok (.aload_n 0, 1) := by decide +kernel
theorem dX2_noteStep_9 : decode cX2_noteStep 9 = .ok (.getfield 18, 3) := by decide +kernel
theorem dX2_noteStep_12 : decode cX2_noteStep 12 = .ok (.iload_n 1, 1) := by decide +kernel
theorem dX2_noteStep_13 : decode cX2_noteStep 13 = .ok (.dup2, 1) := by decide +kernel
theorem dX2_noteStep_14 : decode cX2_noteStep 14 = .ok (.iaload, 1) := by decide +kernel
theorem dX2_noteStep_15 : decode cX2_noteStep 15 = .ok (.iconst 1, 1) := by decide +kernel
theorem dX2_noteStep_16 : decode cX2_noteStep 16 = .ok (.iadd, 1) := by decide +kernel
theorem dX2_noteStep_17 : decode cX2_noteStep 17 = .ok (.iastore, 1) := by decide +kernel
theorem dX2_noteStep_18 : decode cX2_noteStep 18 = .ok (.aload_n 0, 1) := by decide +kernel
theorem dX2_noteStep_19 : decode cX2_noteStep 19 = .ok (.getfield 21, 3) := by decide +kernel
theorem dX2_noteStep_22 : decode cX2_noteStep 22 = .ok (.iload_n 1, 1) := by decide +kernel
theorem dX2_noteStep_23 : decode cX2_noteStep 23 = .ok (.dup2, 1) := by decide +kernel
theorem dX2_noteStep_24 : decode cX2_noteStep 24 = .ok (.laload, 1) := by decide +kernel
theorem dX2_noteStep_25 : decode cX2_noteStep 25 = .ok (.iload_n 2, 1) := by decide +kernel
theorem dX2_noteStep_26 : decode cX2_noteStep 26 = .ok (.i2l, 1) := by decide +kernel
theorem dX2_noteStep_27 : decode cX2_noteStep 27 = .ok (.ladd, 1) := by decide +kernel
theorem dX2_noteStep_28 : decode cX2_noteStep 28 = .ok (.lastore, 1) := by decide +kernel
theorem dX2_noteStep_29 : decode cX2_noteStep 29 = .ok (.return_, 1) := by decide +kernel
theorem dX2_forgetStep_0 : decode cX2_forgetStep 0 = .ok (.aload_n 0, 1) := by decide +kernel
theorem dX2_forgetStep_1 : decode cX2_forgetStep 1 = .ok (.iload_n 1, 1) := by decide +kernel
theorem dX2_forgetStep_2 : decode cX2_forgetStep 2 = .ok (.invokevirtual 29, 3) := by decide +kernel
theorem dX2_forgetStep_5 : decode cX2_forgetStep 5 = .ok (.ifCond .eq 24, 3) := by decide +kernel
theorem dX2_forgetStep_8 : decode cX2_forgetStep 8 = .ok (.aload_n 0, 1) := by decide +kernel
theorem dX2_forgetStep_9 : decode cX2_forgetStep 9 = .ok (.getfield 18, 3) := by decide +kernel
theorem dX2_forgetStep_12 : decode cX2_forgetStep 12 = .ok (.iload_n 1, 1) := by decide +kernel
theorem dX2_forgetStep_13 : decode cX2_forgetStep 13 = .ok (.dup2, 1) := by decide +kernel
theorem dX2_forgetStep_14 : decode cX2_forgetStep 14 = .ok (.iaload, 1) := by decide +kernel
theorem dX2_forgetStep_15 : decode cX2_forgetStep 15 = .ok (.iconst 1, 1) := by decide +kernel
theorem dX2_forgetStep_16 : decode cX2_forgetStep 16 = .ok (.isub, 1) := by decide +kernel
theorem dX2_forgetStep_17 : decode cX2_forgetStep 17 = .ok (.iastore, 1) := by decide +kernel
theorem dX2_forgetStep_18 : decode cX2_forgetStep 18 = .ok (.aload_n 0, 1) := by decide +kernel
theorem dX2_forgetStep_19 : decode cX2_forgetStep 19 = .ok (.getfield 21, 3) := by decide +kernel
theorem dX2_forgetStep_22 : decode cX2_forgetStep 22 = .ok (.iload_n 1, 1) := by decide +kernel
theorem dX2_forgetStep_23 : decode cX2_forgetStep 23 = .ok (.dup2, 1) := by decide +kernel
theorem dX2_forgetStep_24 : decode cX2_forgetStep 24 = .ok (.laload, 1) := by decide +kernel
theorem dX2_forgetStep_25 : decode cX2_forgetStep 25 = .ok (.iload_n 2, 1) := by decide +kernel
theorem dX2_forgetStep_26 : decode cX2_forgetStep 26 = .ok (.i2l, 1) := by decide +kernel
theorem dX2_forgetStep_27 : decode cX2_forgetStep 27 = .ok (.lsub, 1) := by decide +kernel
theorem dX2_forgetStep_28 : decode cX2_forgetStep 28 = .ok (.lastore, 1) := by decide +kernel
theorem dX2_forgetStep_29 : decode cX2_forgetStep 29 = .ok (.return_, 1) := by decide +kernel
theorem dX2_dearest_0 : decode cX2_dearest 0 = .ok (.iconst (-1), 1) := by decide +kernel
theorem dX2_dearest_1 : decode cX2_dearest 1 = .ok (.istore_n 1, 1) := by decide +kernel
theorem dX2_dearest_2 : decode cX2_dearest 2 = .ok (.ldc2_w 33, 3) := by decide +kernel
theorem dX2_dearest_5 : decode cX2_dearest 5 = .ok (.lstore_n 2, 1) := by decide +kernel
theorem dX2_dearest_6 : decode cX2_dearest 6 = .ok (.iconst 0, 1) := by decide +kernel
theorem dX2_dearest_7 : decode cX2_dearest 7 = .ok (.istore 4, 2) := by decide +kernel
theorem dX2_dearest_9 : decode cX2_dearest 9 = .ok (.iload 4, 2) := by decide +kernel
theorem dX2_dearest_11 : decode cX2_dearest 11 = .ok (.aload_n 0, 1) := by decide +kernel
theorem dX2_dearest_12 : decode cX2_dearest 12 = .ok (.getfield 25, 3) := by decide +kernel
theorem dX2_dearest_15 : decode cX2_dearest 15 = .ok (.if_icmp .ge 42, 3) := by decide +kernel
theorem dX2_dearest_18 : decode cX2_dearest 18 = .ok (.aload_n 0, 1) := by decide +kernel
theorem dX2_dearest_19 : decode cX2_dearest 19 = .ok (.getfield 18, 3) := by decide +kernel
theorem dX2_dearest_22 : decode cX2_dearest 22 = .ok (.iload 4, 2) := by decide +kernel
theorem dX2_dearest_24 : decode cX2_dearest 24 = .ok (.iaload, 1) := by decide +kernel
theorem dX2_dearest_25 : decode cX2_dearest 25 = .ok (.ifCond .le 26, 3) := by decide +kernel
theorem dX2_dearest_28 : decode cX2_dearest 28 = .ok (.aload_n 0, 1) := by decide +kernel
theorem dX2_dearest_29 : decode cX2_dearest 29 = .ok (.getfield 21, 3) := by decide +kernel
theorem dX2_dearest_32 : decode cX2_dearest 32 = .ok (.iload 4, 2) := by decide +kernel
theorem dX2_dearest_34 : decode cX2_dearest 34 = .ok (.laload, 1) := by decide +kernel
theorem dX2_dearest_35 : decode cX2_dearest 35 = .ok (.lload_n 2, 1) := by decide +kernel
theorem dX2_dearest_36 : decode cX2_dearest 36 = .ok (.lcmp, 1) := by decide +kernel
theorem dX2_dearest_37 : decode cX2_dearest 37 = .ok (.ifCond .le 14, 3) := by decide +kernel
theorem dX2_dearest_40 : decode cX2_dearest 40 = .ok (.iload 4, 2) := by decide +kernel
theorem dX2_dearest_42 : decode cX2_dearest 42 = .ok (.istore_n 1, 1) := by decide +kernel
theorem dX2_dearest_43 : decode cX2_dearest 43 = .ok (.aload_n 0, 1) := by decide +kernel
theorem dX2_dearest_44 : decode cX2_dearest 44 = .ok (.getfield 21, 3) := by decide +kernel
theorem dX2_dearest_47 : decode cX2_dearest 47 = .ok (.iload 4, 2) := by decide +kernel
theorem dX2_dearest_49 : decode cX2_dearest 49 = .ok (.laload, 1) := by decide +kernel
theorem dX2_dearest_50 : decode cX2_dearest 50 = .ok (.lstore_n 2, 1) := by decide +kernel
theorem dX2_dearest_51 : decode cX2_dearest 51 = .ok (.iinc 4 1, 3) := by decide +kernel
theorem dX2_dearest_54 : decode cX2_dearest 54 = .ok (.goto (-45), 3) := by decide +kernel
theorem dX2_dearest_57 : decode cX2_dearest 57 = .ok (.iload_n 1, 1) := by decide +kernel
theorem dX2_dearest_58 : decode cX2_dearest 58 = .ok (.ireturn, 1) := by decide +kernel
end
section
theorem dX3_init_0 : decode cX3_init 0 = .ok (.aload_n 0, 1) := by decide +kernel
theorem dX3_init_1 : decode cX3_init 1 = .ok (.invokespecial 1, 3) := by decide +kernel
theorem dX3_init_4 : decode cX3_init 4 = .ok (.aload_n 0, 1) := by decide +kernel
theorem dX3_init_5 : decode cX3_init 5 = .ok (.aload_n 1, 1) := by decide +kernel
theorem dX3_init_6 : decode cX3_init 6 = .ok (.putfield 7, 3) := by decide +kernel
theorem dX3_init_9 : decode cX3_init 9 = .ok (.aload_n 0, 1) := by decide +kernel
theorem dX3_init_10 : decode cX3_init 10 = .ok (.iload_n 2, 1) := by decide +kernel
theorem dX3_init_11 : decode cX3_init 11 = .ok (.putfield 13, 3) := by decide +kernel
theorem dX3_init_14 : decode cX3_init 14 = .ok (.return_, 1) := by decide +kernel
theorem dX3_size_0 : decode cX3_size 0 = .ok (.aload_n 0, 1) := by decide +kernel
theorem dX3_size_1 : decode cX3_size 1 = .ok (.getfield 13, 3) := by decide +kernel
theorem dX3_size_4 : decode cX3_size 4 = .ok (.ireturn, 1) := by decide +kernel
theorem dX3_copy_0 : decode cX3_copy 0 = .ok (.new 8, 3) := by decide +kernel
theorem dX3_copy_3 : decode cX3_copy 3 = .ok (.dup, 1) := by decide +kernel
theorem dX3_copy_4 : decode cX3_copy 4 = .ok (.aload_n 0, 1) := by decide +kernel
theorem dX3_copy_5 : decode cX3_copy 5 = .ok (.getfield 7, 3) := by decide +kernel
theorem dX3_copy_8 : decode cX3_copy 8 = .ok (.aload_n 0, 1) := by decide +kernel
theorem dX3_copy_9 : decode cX3_copy 9 = .ok (.getfield 13, 3) := by decide +kernel
theorem dX3_copy_12 : decode cX3_copy 12 = .ok (.invokestatic 17, 3) := by decide +kernel
theorem dX3_copy_15 : decode cX3_copy 15 = .ok (.aload_n 0, 1) := by decide +kernel
theorem dX3_copy_16 : decode cX3_copy 16 = .ok (.getfield 13, 3) := by decide +kernel
theorem dX3_copy_19 : decode cX3_copy 19 = .ok (.invokespecial 23, 3) := by decide +kernel
theorem dX3_copy_22 : decode cX3_copy 22 = .ok (.areturn, 1) := by decide +kernel
theorem dX3_put_0 : decode cX3_put 0 = .ok (.aload_n 0, 1) := by decide +kernel
theorem dX3_put_1 : decode cX3_put 1 = .ok (.getfield 13, 3) := by decide +kernel
theorem dX3_put_4 : decode cX3_put 4 = .ok (.aload_n 0, 1) := by decide +kernel
theorem dX3_put_5 : decode cX3_put 5 = .ok (.getfield 7, 3) := by decide +kernel
theorem dX3_put_8 : decode cX3_put 8 = .ok (.arraylength, 1) := by decide +kernel
theorem dX3_put_9 : decode cX3_put 9 = .ok (.if_icmp .lt 4, 3) := by decide +kernel
theorem dX3_put_12 : decode cX3_put 12 = .ok (.return_, 1) := by decide +kernel
theorem dX3_put_13 : decode cX3_put 13 = .ok (.aload_n 0, 1) := by decide +kernel
theorem dX3_put_14 : decode cX3_put 14 = .ok (.getfield 13, 3) := by decide +kernel
theorem dX3_put_17 : decode cX3_put 17 = .ok (.istore_n 2, 1) := by decide +kernel
theorem dX3_put_18 : decode cX3_put 18 = .ok (.iload_n 2, 1) := by decide +kernel
theorem dX3_put_19 : decode cX3_put 19 = .ok (.ifCond .le 35, 3) := by decide +kernel
theorem dX3_put_22 : decode cX3_put 22 = .ok (.aload_n 0, 1) := by decide +kernel
theorem dX3_put_23 : decode cX3_put 23 = .ok (.getfield 7, 3) := by decide +kernel
theorem dX3_put_26 : decode cX3_put 26 = .ok (.iload_n 2, 1) := by decide +kernel
theorem dX3_put_27 : decode cX3_put 27 = .ok (.iconst 1, 1) := by decide +kernel
theorem dX3_put_28 : decode cX3_put 28 = .ok (.isub, 1) := by decide +kernel
theorem dX3_put_29 : decode cX3_put 29 = .ok (.iaload, 1) := by decide +kernel
theorem dX3_put_30 : decode cX3_put 30 = .ok (.iload_n 1, 1) := by decide +kernel
theorem dX3_put_31 : decode cX3_put 31 = .ok (.if_icmp .le 23, 3) := by decide +kernel
theorem dX3_put_34 : decode cX3_put 34 = .ok (.aload_n 0, 1) := by decide +kernel
theorem dX3_put_35 : decode cX3_put 35 = .ok (.getfield 7, 3) := by decide +kernel
theorem dX3_put_38 : decode cX3_put 38 = .ok (.iload_n 2, 1) := by decide +kernel
theorem dX3_put_39 : decode cX3_put 39 = .ok (.aload_n 0, 1) := by decide +kernel
theorem dX3_put_40 : decode cX3_put 40 = .ok (.getfield 7, 3) := by decide +kernel
theorem dX3_put_43 : decode cX3_put 43 = .ok (.iload_n 2, 1) := by decide +kernel
theorem dX3_put_44 : decode cX3_put 44 = .ok (.iconst 1, 1) := by decide +kernel
theorem dX3_put_45 : decode cX3_put 45 = .ok (.isub, 1) := by decide +kernel
theorem dX3_put_46 : decode cX3_put 46 = .ok (.iaload, 1) := by decide +kernel
theorem dX3_put_47 : decode cX3_put 47 = .ok (.iastore, 1) := by decide +kernel
theorem dX3_put_48 : decode cX3_put 48 = .ok (.iinc 2 (-1), 3) := by decide +kernel
theorem dX3_put_51 : decode cX3_put 51 = .ok (.goto (-33), 3) := by decide +kernel
theorem dX3_put_54 : decode cX3_put 54 = .ok (.aload_n 0, 1) := by decide +kernel
theorem dX3_put_55 : decode cX3_put 55 = .ok (.getfield 7, 3) := by decide +kernel
theorem dX3_put_58 : decode cX3_put 58 = .ok (.iload_n 2, 1) := by decide +kernel
theorem dX3_put_59 : decode cX3_put 59 = .ok (.iload_n 1, 1) := by decide +kernel
theorem dX3_put_60 : decode cX3_put 60 = .ok (.iastore, 1) := by decide +kernel
theorem dX3_put_61 : decode cX3_put 61 = .ok (.aload_n 0, 1) := by decide +kernel
theorem dX3_put_62 : decode cX3_put 62 = .ok (.dup, 1) := by decide +kernel
theorem dX3_put_63 : decode cX3_put 63 = .ok (.getfield 13, 3) := by decide +kernel
theorem dX3_put_66 : decode cX3_put 66 = .ok (.iconst 1, 1) := by decide +kernel
theorem dX3_put_67 : decode cX3_put 67 = .ok (.iadd, 1) := by decide +kernel
theorem dX3_put_68 : decode cX3_put 68 = .ok (.putfield 13, 3) := by decide +kernel
theorem dX3_put_71 : decode cX3_put 71 = .ok (.return_, 1) := by decide +kernel
theorem dX3_take_0 : decode cX3_take 0 = .ok (.iconst 0, 1) := by decide +kernel
theorem dX3_take_1 : decode cX3_take 1 = .ok (.istore_n 2, 1) := by decide +kernel
theorem dX3_take_2 : decode cX3_take 2 = .ok (.iload_n 2, 1) := by decide +kernel
theorem dX3_take_3 : decode cX3_take 3 = .ok (.aload_n 0, 1) := by decide +kernel
theorem dX3_take_4 : decode cX3_take 4 = .ok (.getfield 13, 3) := by decide +kernel
theorem dX3_take_7 : decode cX3_take 7 = .ok (.if_icmp .ge 19, 3) := by decide +kernel
theorem dX3_take_10 : decode cX3_take 10 = .ok (.aload_n 0, 1) := by decide +kernel
theorem dX3_take_11 : decode cX3_take 11 = .ok (.getfield 7, 3) := by decide +kernel
theorem dX3_take_14 : decode cX3_take 14 = .ok (.iload_n 2, 1) := by decide +kernel
theorem dX3_take_15 : decode cX3_take 15 = .ok (.iaload, 1) := by decide +kernel
theorem dX3_take_16 : decode cX3_take 16 = .ok (.iload_n 1, 1) := by decide +kernel
theorem dX3_take_17 : decode cX3_take 17 = .ok (.if_icmp .eq 9, 3) := by decide +kernel
theorem dX3_take_20 : decode cX3_take 20 = .ok (.iinc 2 1, 3) := by decide +kernel
theorem dX3_take_23 : decode cX3_take 23 = .ok (.goto (-21), 3) := by decide +kernel
theorem dX3_take_26 : decode cX3_take 26 = .ok (.iload_n 2, 1) := by decide +kernel
theorem dX3_take_27 : decode cX3_take 27 = .ok (.aload_n 0, 1) := by decide +kernel
theorem dX3_take_28 : decode cX3_take 28 = .ok (.getfield 13, 3) := by decide +kernel
theorem dX3_take_31 : decode cX3_take 31 = .ok (.if_icmp .lt 4, 3) := by decide +kernel
theorem dX3_take_34 : decode cX3_take 34 = .ok (.return_, 1) := by decide +kernel
theorem dX3_take_35 : decode cX3_take 35 = .ok (.iload_n 2, 1) := by decide +kernel
theorem dX3_take_36 : decode cX3_take 36 = .ok (.iconst 1, 1) := by decide +kernel
theorem dX3_take_37 : decode cX3_take 37 = .ok (.iadd, 1) := by decide +kernel
theorem dX3_take_38 : decode cX3_take 38 = .ok (.istore_n 3, 1) := by decide +kernel
theorem dX3_take_39 : decode cX3_take 39 = .ok (.iload_n 3, 1) := by decide +kernel
theorem dX3_take_40 : decode cX3_take 40 = .ok (.aload_n 0, 1) := by decide +kernel
theorem dX3_take_41 : decode cX3_take 41 = .ok (.getfield 13, 3) := by decide +kernel
theorem dX3_take_44 : decode cX3_take 44 = .ok (.if_icmp .ge 23, 3) := by decide +kernel
theorem dX3_take_47 : decode cX3_take 47 = .ok (.aload_n 0, 1) := by decide +kernel
theorem dX3_take_48 : decode cX3_take 48 = .ok (.getfield 7, 3) := by decide +kernel
theorem dX3_take_51 : decode cX3_take 51 = .ok (.iload_n 3, 1) := by decide +kernel
theorem dX3_take_52 : decode cX3_take 52 = .ok (.iconst 1, 1) := by decide +kernel
theorem dX3_take_53 : decode cX3_take 53 = .ok (.isub, 1) := by decide +kernel
theorem dX3_take_54 : decode cX3_take 54 = .ok (.aload_n 0, 1) := by decide +kernel
theorem dX3_take_55 : decode cX3_take 55 = .ok (.getfield 7, 3) := by decide +kernel
theorem dX3_take_58 : decode cX3_take 58 = .ok (.iload_n 3, 1) := by decide +kernel
theorem dX3_take_59 : decode cX3_take 59 = .ok (.iaload, 1) := by decide +kernel
theorem dX3_take_60 : decode cX3_take 60 = .ok (.iastore, 1) := by decide +kernel
theorem dX3_take_61 : decode cX3_take 61 = .ok (.iinc 3 1, 3) := by decide +kernel
theorem dX3_take_64 : decode cX3_take 64 = .ok (.goto (-25), 3) := by decide +kernel
theorem dX3_take_67 : decode cX3_take 67 = .ok (.aload_n 0, 1) := by decide +kernel
theorem dX3_take_68 : decode cX3_take 68 = .ok (.dup, 1) := by decide +kernel
theorem dX3_take_69 : decode cX3_take 69 = .ok (.getfield 13, 3) := by decide +kernel
theorem dX3_take_72 : decode cX3_take 72 = .ok (.iconst 1, 1) := by decide +kernel
theorem dX3_take_73 : decode cX3_take 73 = .ok (.isub, 1) := by decide +kernel
theorem dX3_take_74 : decode cX3_take 74 = .ok (.putfield 13, 3) := by decide +kernel
theorem dX3_take_77 : decode cX3_take 77 = .ok (.return_, 1) := by decide +kernel
theorem dX3_orderFromGreatest_0 : decode cX3_orderFromGreatest 0 = .ok (.aload_n 0, 1) := by decide +kernel
theorem dX3_orderFromGreatest_1 : decode cX3_orderFromGreatest 1 = .ok (.getfield 13, 3) := by decide +kernel
theorem dX3_orderFromGreatest_4 : decode cX3_orderFromGreatest 4 = .ok (.aload_n 1, 1) := by decide +kernel
theorem dX3_orderFromGreatest_5 : decode cX3_orderFromGreatest 5 = .ok (.getfield 13, 3) := by decide +kernel
theorem dX3_orderFromGreatest_8 : decode cX3_orderFromGreatest 8 = .ok (.invokestatic 26, 3) := by decide +kernel
theorem dX3_orderFromGreatest_11 : decode cX3_orderFromGreatest 11 = .ok (.istore_n 2, 1) := by decide +kernel
theorem dX3_orderFromGreatest_12 : decode cX3_orderFromGreatest 12 = .ok (.iconst 1, 1) := by decide +kernel
theorem dX3_orderFromGreatest_13 : decode cX3_orderFromGreatest 13 = .ok (.istore_n 3, 1) := by decide +kernel
theorem dX3_orderFromGreatest_14 : decode cX3_orderFromGreatest 14 = .ok (.iload_n 3, 1) := by decide +kernel
theorem dX3_orderFromGreatest_15 : decode cX3_orderFromGreatest 15 = .ok (.iload_n 2, 1) := by decide +kernel
theorem dX3_orderFromGreatest_16 : decode cX3_orderFromGreatest 16 = .ok (.if_icmp .gt 46, 3) := by decide +kernel
theorem dX3_orderFromGreatest_19 : decode cX3_orderFromGreatest 19 = .ok (.aload_n 0, 1) := by decide +kernel
theorem dX3_orderFromGreatest_20 : decode cX3_orderFromGreatest 20 = .ok (.getfield 7, 3) := by decide +kernel
theorem dX3_orderFromGreatest_23 : decode cX3_orderFromGreatest 23 = .ok (.aload_n 0, 1) := by decide +kernel
theorem dX3_orderFromGreatest_24 : decode cX3_orderFromGreatest 24 = .ok (.getfield 13, 3) := by decide +kernel
theorem dX3_orderFromGreatest_27 : decode cX3_orderFromGreatest 27 = .ok (.iload_n 3, 1) := by decide +kernel
theorem dX3_orderFromGreatest_28 : decode cX3_orderFromGreatest 28 = .ok (.isub, 1) := by decide +kernel
theorem dX3_orderFromGreatest_29 : decode cX3_orderFromGreatest 29 = .ok (.iaload, 1) := by decide +kernel
theorem dX3_orderFromGreatest_30 : decode cX3_orderFromGreatest 30 = .ok (.i2l, 1) := by decide +kernel
theorem dX3_orderFromGreatest_31 : decode cX3_orderFromGreatest 31 = .ok (.aload_n 1, 1) := by decide +kernel
theorem dX3_orderFromGreatest_32 : decode cX3_orderFromGreatest 32 = .ok (.getfield 7, 3) := by decide +kernel
theorem dX3_orderFromGreatest_35 : decode cX3_orderFromGreatest 35 = .ok (.aload_n 1, 1) := by decide +kernel
theorem dX3_orderFromGreatest_36 : decode cX3_orderFromGreatest 36 = .ok (.getfield 13, 3) := by decide +kernel
theorem dX3_orderFromGreatest_39 : decode cX3_orderFromGreatest 39 = .ok (.iload_n 3, 1) := by decide +kernel
theorem dX3_orderFromGreatest_40 : decode cX3_orderFromGreatest 40 = .ok (.isub, 1) := by decide +kernel
theorem dX3_orderFromGreatest_41 : decode cX3_orderFromGreatest 41 = .ok (.iaload, 1) := by decide +kernel
theorem dX3_orderFromGreatest_42 : decode cX3_orderFromGreatest 42 = .ok (.i2l, 1) := by decide +kernel
theorem dX3_orderFromGreatest_43 : decode cX3_orderFromGreatest 43 = .ok (.invokestatic 32, 3) := by decide +kernel
theorem dX3_orderFromGreatest_46 : decode cX3_orderFromGreatest 46 = .ok (.istore 4, 2) := by decide +kernel
theorem dX3_orderFromGreatest_48 : decode cX3_orderFromGreatest 48 = .ok (.iload 4, 2) := by decide +kernel
theorem dX3_orderFromGreatest_50 : decode cX3_orderFromGreatest 50 = .ok (.ifCond .eq 6, 3) := by decide +kernel
theorem dX3_orderFromGreatest_53 : decode cX3_orderFromGreatest 53 = .ok (.iload 4, 2) := by decide +kernel
theorem dX3_orderFromGreatest_55 : decode cX3_orderFromGreatest 55 = .ok (.ireturn, 1) := by decide +kernel
theorem dX3_orderFromGreatest_56 : decode cX3_orderFromGreatest 56 = .ok (.iinc 3 1, 3) := by decide +kernel
theorem dX3_orderFromGreatest_59 : decode cX3_orderFromGreatest 59 = .ok (.goto (-45), 3) := by decide +kernel
theorem dX3_orderFromGreatest_62 : decode cX3_orderFromGreatest 62 = .ok (.iconst 0, 1) := by decide +kernel
theorem dX3_orderFromGreatest_63 : decode cX3_orderFromGreatest 63 = .ok (.ireturn, 1) := by decide +kernel
end
section
theorem dX4_init_0 : decode cX4_init 0 = .ok (.aload_n 0, 1) := by decide +kernel
theorem dX4_init_1 : decode cX4_init 1 = .ok (.invokespecial 3, 3) := by decide +kernel
theorem dX4_init_4 : decode cX4_init 4 = .ok (.aload_n 0, 1) := by decide +kernel
theorem dX4_init_5 : decode cX4_init 5 = .ok (.sipush 200, 3) := by decide +kernel
theorem dX4_init_8 : decode cX4_init 8 = .ok (.newarray .int, 2) := by decide +kernel
theorem dX4_init_10 : decode cX4_init 10 = .ok (.putfield 9, 3) := by decide +kernel
theorem dX4_init_13 : decode cX4_init 13 = .ok (.aload_n 0, 1) := by decide +kernel
theorem dX4_init_14 : decode cX4_init 14 = .ok (.sipush 200, 3) := by decide +kernel
theorem dX4_init_17 : decode cX4_init 17 = .ok (.newarray .int, 2) := by decide +kernel
theorem dX4_init_19 : decode cX4_init 19 = .ok (.putfield 15, 3) := by decide +kernel
theorem dX4_init_22 : decode cX4_init 22 = .ok (.aload_n 0, 1) := by decide +kernel
theorem dX4_init_23 : decode cX4_init 23 = .ok (.sipush 200, 3) := by decide +kernel
theorem dX4_init_26 : decode cX4_init 26 = .ok (.newarray .int, 2) := by decide +kernel
theorem dX4_init_28 : decode cX4_init 28 = .ok (.putfield 18, 3) := by decide +kernel
theorem dX4_init_31 : decode cX4_init 31 = .ok (.aload_n 0, 1) := by decide +kernel
theorem dX4_init_32 : decode cX4_init 32 = .ok (.sipush 200, 3) := by decide +kernel
theorem dX4_init_35 : decode cX4_init 35 = .ok (.newarray .int, 2) := by decide +kernel
theorem dX4_init_37 : decode cX4_init 37 = .ok (.putfield 21, 3) := by decide +kernel
theorem dX4_init_40 : decode cX4_init 40 = .ok (.aload_n 0, 1) := by decide +kernel
theorem dX4_init_41 : decode cX4_init 41 = .ok (.sipush 200, 3) := by decide +kernel
theorem dX4_init_44 : decode cX4_init 44 = .ok (.newarray .boolean, 2) := by decide +kernel
theorem dX4_init_46 : decode cX4_init 46 = .ok (.putfield 24, 3) := by decide +kernel
theorem dX4_init_49 : decode cX4_init 49 = .ok (.aload_n 0, 1) := by decide +kernel
theorem dX4_init_50 : decode cX4_init 50 = .ok (.sipush 201, 3) := by decide +kernel
theorem dX4_init_53 : decode cX4_init 53 = .ok (.newarray .long, 2) := by decide +kernel
theorem dX4_init_55 : decode cX4_init 55 = .ok (.putfield 28, 3) := by decide +kernel
theorem dX4_init_58 : decode cX4_init 58 = .ok (.aload_n 0, 1) := by decide +kernel
theorem dX4_init_59 : decode cX4_init 59 = .ok (.new 32, 3) := by decide +kernel
theorem dX4_init_62 : decode cX4_init 62 = .ok (.dup, 1) := by decide +kernel
theorem dX4_init_63 : decode cX4_init 63 = .ok (.sipush 200, 3) := by decide +kernel
theorem dX4_init_66 : decode cX4_init 66 = .ok (.newarray .int, 2) := by decide +kernel
theorem dX4_init_68 : decode cX4_init 68 = .ok (.iconst 0, 1) := by decide +kernel
theorem dX4_init_69 : decode cX4_init 69 = .ok (.invokespecial 34, 3) := by decide +kernel
theorem dX4_init_72 : decode cX4_init 72 = .ok (.putfield 37, 3) := by decide +kernel
theorem dX4_init_75 : decode cX4_init 75 = .ok (.aload_n 0, 1) := by decide +kernel
theorem dX4_init_76 : decode cX4_init 76 = .ok (.new 32, 3) := by decide +kernel
theorem dX4_init_79 : decode cX4_init 79 = .ok (.dup, 1) := by decide +kernel
theorem dX4_init_80 : decode cX4_init 80 = .ok (.sipush 200, 3) := by decide +kernel
theorem dX4_init_83 : decode cX4_init 83 = .ok (.newarray .int, 2) := by decide +kernel
theorem dX4_init_85 : decode cX4_init 85 = .ok (.iconst 0, 1) := by decide +kernel
theorem dX4_init_86 : decode cX4_init 86 = .ok (.invokespecial 34, 3) := by decide +kernel
theorem dX4_init_89 : decode cX4_init 89 = .ok (.putfield 41, 3) := by decide +kernel
theorem dX4_init_92 : decode cX4_init 92 = .ok (.aload_n 0, 1) := by decide +kernel
theorem dX4_init_93 : decode cX4_init 93 = .ok (.iconst 0, 1) := by decide +kernel
theorem dX4_init_94 : decode cX4_init 94 = .ok (.putfield 44, 3) := by decide +kernel
theorem dX4_init_97 : decode cX4_init 97 = .ok (.return_, 1) := by decide +kernel
theorem dX4_count_0 : decode cX4_count 0 = .ok (.aload_n 0, 1) := by decide +kernel
theorem dX4_count_1 : decode cX4_count 1 = .ok (.getfield 44, 3) := by decide +kernel
theorem dX4_count_4 : decode cX4_count 4 = .ok (.ireturn, 1) := by decide +kernel
theorem dX4_isFull_0 : decode cX4_isFull 0 = .ok (.aload_n 0, 1) := by decide +kernel
theorem dX4_isFull_1 : decode cX4_isFull 1 = .ok (.getfield 44, 3) := by decide +kernel
theorem dX4_isFull_4 : decode cX4_isFull 4 = .ok (.sipush 200, 3) := by decide +kernel
theorem dX4_isFull_7 : decode cX4_isFull 7 = .ok (.if_icmp .lt 7, 3) := by decide +kernel
theorem dX4_isFull_10 : decode cX4_isFull 10 = .ok (.iconst 1, 1) := by decide +kernel
theorem dX4_isFull_11 : decode cX4_isFull 11 = .ok (.goto 4, 3) := by decide +kernel
theorem dX4_isFull_14 : decode cX4_isFull 14 = .ok (.iconst 0, 1) := by decide +kernel
theorem dX4_isFull_15 : decode cX4_isFull 15 = .ok (.ireturn, 1) := by decide +kernel
theorem dX4_has_0 : decode cX4_has 0 = .ok (.iload_n 1, 1) := by decide +kernel
theorem dX4_has_1 : decode cX4_has 1 = .ok (.ifCond .lt 15, 3) := by decide +kernel
theorem dX4_has_4 : decode cX4_has 4 = .ok (.iload_n 1, 1) := by decide +kernel
theorem dX4_has_5 : decode cX4_has 5 = .ok (.aload_n 0, 1) := by decide +kernel
theorem dX4_has_6 : decode cX4_has 6 = .ok (.getfield 44, 3) := by decide +kernel
theorem dX4_has_9 : decode cX4_has 9 = .ok (.if_icmp .ge 7, 3) := by decide +kernel
theorem dX4_has_12 : decode cX4_has 12 = .ok (.iconst 1, 1) := by decide +kernel
theorem dX4_has_13 : decode cX4_has 13 = .ok (.goto 4, 3) := by decide +kernel
theorem dX4_has_16 : decode cX4_has 16 = .ok (.iconst 0, 1) := by decide +kernel
theorem dX4_has_17 : decode cX4_has 17 = .ok (.ireturn, 1) := by decide +kernel
theorem dX4_isGuess_0 : decode cX4_isGuess 0 = .ok (.aload_n 0, 1) := by decide +kernel
theorem dX4_isGuess_1 : decode cX4_isGuess 1 = .ok (.iload_n 1, 1) := by decide +kernel
theorem dX4_isGuess_2 : decode cX4_isGuess 2 = .ok (.invokevirtual 48, 3) := by decide +kernel
theorem dX4_isGuess_5 : decode cX4_isGuess 5 = .ok (.ifCond .eq 17, 3) := by decide +kernel
theorem dX4_isGuess_8 : decode cX4_isGuess 8 = .ok (.aload_n 0, 1) := by decide +kernel
theorem dX4_isGuess_9 : decode cX4_isGuess 9 = .ok (.getfield 9, 3) := by decide +kernel
theorem dX4_isGuess_12 : decode cX4_isGuess 12 = .ok (.iload_n 1, 1) := by decide +kernel
theorem dX4_isGuess_13 : decode cX4_isGuess 13 = .ok (.iaload, 1) := by decide +kernel
theorem dX4_isGuess_14 : decode cX4_isGuess 14 = .ok (.iconst (-1), 1) := by decide +kernel
theorem dX4_isGuess_15 : decode cX4_isGuess 15 = .ok (.if_icmp .ne 7, 3) := by decide +kernel
theorem dX4_isGuess_18 : decode cX4_isGuess 18 = .ok (.iconst 1, 1) := by decide +kernel
theorem dX4_isGuess_19 : decode cX4_isGuess 19 = .ok (.goto 4, 3) := by decide +kernel
theorem dX4_isGuess_22 : decode cX4_isGuess 22 = .ok (.iconst 0, 1) := by decide +kernel
theorem dX4_isGuess_23 : decode cX4_isGuess 23 = .ok (.ireturn, 1) := by decide +kernel
theorem dX4_ruleAt_0 : decode cX4_ruleAt 0 = .ok (.aload_n 0, 1) := by decide +kernel
theorem dX4_ruleAt_1 : decode cX4_ruleAt 1 = .ok (.iload_n 1, 1) := by decide +kernel
theorem dX4_ruleAt_2 : decode cX4_ruleAt 2 = .ok (.invokevirtual 48, 3) := by decide +kernel
theorem dX4_ruleAt_5 : decode cX4_ruleAt 5 = .ok (.ifCond .eq 12, 3) := by decide +kernel
theorem dX4_ruleAt_8 : decode cX4_ruleAt 8 = .ok (.aload_n 0, 1) := by decide +kernel
theorem dX4_ruleAt_9 : decode cX4_ruleAt 9 = .ok (.getfield 9, 3) := by decide +kernel
theorem dX4_ruleAt_12 : decode cX4_ruleAt 12 = .ok (.iload_n 1, 1) := by decide +kernel
theorem dX4_ruleAt_13 : decode cX4_ruleAt 13 = .ok (.iaload, 1) := by decide +kernel
theorem dX4_ruleAt_14 : decode cX4_ruleAt 14 = .ok (.goto 4, 3) := by decide +kernel
theorem dX4_ruleAt_17 : decode cX4_ruleAt 17 = .ok (.iconst (-1), 1) := by decide +kernel
theorem dX4_ruleAt_18 : decode cX4_ruleAt 18 = .ok (.ireturn, 1) := by decide +kernel
theorem dX4_placeAt_0 : decode cX4_placeAt 0 = .ok (.aload_n 0, 1) := by decide +kernel
theorem dX4_placeAt_1 : decode cX4_placeAt 1 = .ok (.iload_n 1, 1) := by decide +kernel
theorem dX4_placeAt_2 : decode cX4_placeAt 2 = .ok (.invokevirtual 48, 3) := by decide +kernel
theorem dX4_placeAt_5 : decode cX4_placeAt 5 = .ok (.ifCond .eq 12, 3) := by decide +kernel
theorem dX4_placeAt_8 : decode cX4_placeAt 8 = .ok (.aload_n 0, 1) := by decide +kernel
theorem dX4_placeAt_9 : decode cX4_placeAt 9 = .ok (.getfield 15, 3) := by decide +kernel
theorem dX4_placeAt_12 : decode cX4_placeAt 12 = .ok (.iload_n 1, 1) := by decide +kernel
theorem dX4_placeAt_13 : decode cX4_placeAt 13 = .ok (.iaload, 1) := by decide +kernel
theorem dX4_placeAt_14 : decode cX4_placeAt 14 = .ok (.goto 4, 3) := by decide +kernel
theorem dX4_placeAt_17 : decode cX4_placeAt 17 = .ok (.iconst (-1), 1) := by decide +kernel
theorem dX4_placeAt_18 : decode cX4_placeAt 18 = .ok (.ireturn, 1) := by decide +kernel
theorem dX4_widthAt_0 : decode cX4_widthAt 0 = .ok (.aload_n 0, 1) := by decide +kernel
theorem dX4_widthAt_1 : decode cX4_widthAt 1 = .ok (.iload_n 1, 1) := by decide +kernel
theorem dX4_widthAt_2 : decode cX4_widthAt 2 = .ok (.invokevirtual 48, 3) := by decide +kernel
theorem dX4_widthAt_5 : decode cX4_widthAt 5 = .ok (.ifCond .eq 12, 3) := by decide +kernel
theorem dX4_widthAt_8 : decode cX4_widthAt 8 = .ok (.aload_n 0, 1) := by decide +kernel
theorem dX4_widthAt_9 : decode cX4_widthAt 9 = .ok (.getfield 18, 3) := by decide +kernel
theorem dX4_widthAt_12 : decode cX4_widthAt 12 = .ok (.iload_n 1, 1) := by decide +kernel
theorem dX4_widthAt_13 : decode cX4_widthAt 13 = .ok (.iaload, 1) := by decide +kernel
theorem dX4_widthAt_14 : decode cX4_widthAt 14 = .ok (.goto 4, 3) := by decide +kernel
theorem dX4_widthAt_17 : decode cX4_widthAt 17 = .ok (.iconst (-1), 1) := by decide +kernel
theorem dX4_widthAt_18 : decode cX4_widthAt 18 = .ok (.ireturn, 1) := by decide +kernel
theorem dX4_priceAt_0 : decode cX4_priceAt 0 = .ok (.aload_n 0, 1) := by decide +kernel
theorem dX4_priceAt_1 : decode cX4_priceAt 1 = .ok (.iload_n 1, 1) := by decide +kernel
theorem dX4_priceAt_2 : decode cX4_priceAt 2 = .ok (.invokevirtual 48, 3) := by decide +kernel
theorem dX4_priceAt_5 : decode cX4_priceAt 5 = .ok (.ifCond .eq 12, 3) := by decide +kernel
theorem dX4_priceAt_8 : decode cX4_priceAt 8 = .ok (.aload_n 0, 1) := by decide +kernel
theorem dX4_priceAt_9 : decode cX4_priceAt 9 = .ok (.getfield 21, 3) := by decide +kernel
theorem dX4_priceAt_12 : decode cX4_priceAt 12 = .ok (.iload_n 1, 1) := by decide +kernel
theorem dX4_priceAt_13 : decode cX4_priceAt 13 = .ok (.iaload, 1) := by decide +kernel
theorem dX4_priceAt_14 : decode cX4_priceAt 14 = .ok (.goto 4, 3) := by decide +kernel
theorem dX4_priceAt_17 : decode cX4_priceAt 17 = .ok (.iconst (-1), 1) := by decide +kernel
theorem dX4_priceAt_18 : decode cX4_priceAt 18 = .ok (.ireturn, 1) := by decide +kernel
theorem dX4_addGuess_0 : decode cX4_addGuess 0 = .ok (.sipush 1000, 3) := by decide +kernel
theorem dX4_addGuess_3 : decode cX4_addGuess 3 = .ok (.iload_n 1, 1) := by decide +kernel
theorem dX4_addGuess_4 : decode cX4_addGuess 4 = .ok (.imul, 1) := by decide +kernel
theorem dX4_addGuess_5 : decode cX4_addGuess 5 = .ok (.istore_n 2, 1) := by decide +kernel
theorem dX4_addGuess_6 : decode cX4_addGuess 6 = .ok (.aload_n 0, 1) := by decide +kernel
theorem dX4_addGuess_7 : decode cX4_addGuess 7 = .ok (.iconst (-1), 1) := by decide +kernel
theorem dX4_addGuess_8 : decode cX4_addGuess 8 = .ok (.iconst 0, 1) := by decide +kernel
theorem dX4_addGuess_9 : decode cX4_addGuess 9 = .ok (.iload_n 1, 1) := by decide +kernel
theorem dX4_addGuess_10 : decode cX4_addGuess 10 = .ok (.aload_n 0, 1) := by decide +kernel
theorem dX4_addGuess_11 : decode cX4_addGuess 11 = .ok (.aload_n 0, 1) := by decide +kernel
theorem dX4_addGuess_12 : decode cX4_addGuess 12 = .ok (.getfield 44, 3) := by decide +kernel
theorem dX4_addGuess_15 : decode cX4_addGuess 15 = .ok (.iconst 1, 1) := by decide +kernel
theorem dX4_addGuess_16 : decode cX4_addGuess 16 = .ok (.isub, 1) := by decide +kernel
theorem dX4_addGuess_17 : decode cX4_addGuess 17 = .ok (.invokevirtual 52, 3) := by decide +kernel
theorem dX4_addGuess_20 : decode cX4_addGuess 20 = .ok (.ifCond .eq 9, 3) := by decide +kernel
theorem dX4_addGuess_23 : decode cX4_addGuess 23 = .ok (.iconst 2, 1) := by decide +kernel
theorem dX4_addGuess_24 : decode cX4_addGuess 24 = .ok (.iload_n 2, 1) := by decide +kernel
theorem dX4_addGuess_25 : decode cX4_addGuess 25 = .ok (.imul, 1) := by decide +kernel
theorem dX4_addGuess_26 : decode cX4_addGuess 26 = .ok (.goto 4, 3) := by decide +kernel
theorem dX4_addGuess_29 : decode cX4_addGuess 29 = .ok (.iload_n 2, 1) := by decide +kernel
theorem dX4_addGuess_30 : decode cX4_addGuess 30 = .ok (.invokevirtual 55, 3) := by decide +kernel
theorem dX4_addGuess_33 : decode cX4_addGuess 33 = .ok (.ireturn, 1) := by decide +kernel
theorem dX4_add_0 : decode cX4_add 0 = .ok (.aload_n 0, 1) := by decide +kernel
theorem dX4_add_1 : decode cX4_add 1 = .ok (.invokevirtual 59, 3) := by decide +kernel
theorem dX4_add_4 : decode cX4_add 4 = .ok (.ifCond .eq 5, 3) := by decide +kernel
theorem dX4_add_7 : decode cX4_add 7 = .ok (.iconst (-1), 1) := by decide +kernel
theorem dX4_add_8 : decode cX4_add 8 = .ok (.ireturn, 1) := by decide +kernel
theorem dX4_add_9 : decode cX4_add 9 = .ok (.aload_n 0, 1) := by decide +kernel
theorem dX4_add_10 : decode cX4_add 10 = .ok (.getfield 9, 3) := by decide +kernel
theorem dX4_add_13 : decode cX4_add 13 = .ok (.aload_n 0, 1) := by decide +kernel
theorem dX4_add_14 : decode cX4_add 14 = .ok (.getfield 44, 3) := by decide +kernel
theorem dX4_add_17 : decode cX4_add 17 = .ok (.iload_n 1, 1) := by decide +kernel
theorem dX4_add_18 : decode cX4_add 18 = .ok (.iastore, 1) := by decide +kernel
theorem dX4_add_19 : decode cX4_add 19 = .ok (.aload_n 0, 1) := by decide +kernel
theorem dX4_add_20 : decode cX4_add 20 = .ok (.getfield 15, 3) := by decide +kernel
theorem dX4_add_23 : decode cX4_add 23 = .ok (.aload_n 0, 1) := by decide +kernel
theorem dX4_add_24 : decode cX4_add 24 = .ok (.getfield 44, 3) := by decide +kernel
theorem dX4_add_27 : decode cX4_add 27 = .ok (.iload_n 2, 1) := by decide +kernel
theorem dX4_add_28 : decode cX4_add 28 = .ok (.iastore, 1) := by decide +kernel
theorem dX4_add_29 : decode cX4_add 29 = .ok (.aload_n 0, 1) := by decide +kernel
theorem dX4_add_30 : decode cX4_add 30 = .ok (.getfield 18, 3) := by decide +kernel
theorem dX4_add_33 : decode cX4_add 33 = .ok (.aload_n 0, 1) := by decide +kernel
theorem dX4_add_34 : decode cX4_add 34 = .ok (.getfield 44, 3) := by decide +kernel
theorem dX4_add_37 : decode cX4_add 37 = .ok (.iload_n 3, 1) := by decide +kernel
theorem dX4_add_38 : decode cX4_add 38 = .ok (.iastore, 1) := by decide +kernel
theorem dX4_add_39 : decode cX4_add 39 = .ok (.aload_n 0, 1) := by decide +kernel
theorem dX4_add_40 : decode cX4_add 40 = .ok (.getfield 21, 3) := by decide +kernel
theorem dX4_add_43 : decode cX4_add 43 = .ok (.aload_n 0, 1) := by decide +kernel
theorem dX4_add_44 : decode cX4_add 44 = .ok (.getfield 44, 3) := by decide +kernel
theorem dX4_add_47 : decode cX4_add 47 = .ok (.iload 4, 2) := by decide +kernel
theorem dX4_add_49 : decode cX4_add 49 = .ok (.iastore, 1) := by decide +kernel
theorem dX4_add_50 : decode cX4_add 50 = .ok (.aload_n 0, 1) := by decide +kernel
theorem dX4_add_51 : decode cX4_add 51 = .ok (.getfield 24, 3) := by decide +kernel
theorem dX4_add_54 : decode cX4_add 54 = .ok (.aload_n 0, 1) := by decide +kernel
theorem dX4_add_55 : decode cX4_add 55 = .ok (.getfield 44, 3) := by decide +kernel
theorem dX4_add_58 : decode cX4_add 58 = .ok (.iload_n 1, 1) := by decide +kernel
theorem dX4_add_59 : decode cX4_add 59 = .ok (.iconst (-1), 1) := by decide +kernel
theorem dX4_add_60 : decode cX4_add 60 = .ok (.if_icmp .eq 20, 3) := by decide +kernel
theorem dX4_add_63 : decode cX4_add 63 = .ok (.iload_n 3, 1) := by decide +kernel
theorem dX4_add_64 : decode cX4_add 64 = .ok (.iconst 1, 1) := by decide +kernel
theorem dX4_add_65 : decode cX4_add 65 = .ok (.if_icmp .ne 15, 3) := by decide +kernel
theorem dX4_add_68 : decode cX4_add 68 = .ok (.aload_n 0, 1) := by decide +kernel
theorem dX4_add_69 : decode cX4_add 69 = .ok (.iload_n 2, 1) := by decide +kernel
theorem dX4_add_70 : decode cX4_add 70 = .ok (.invokevirtual 63, 3) := by decide +kernel
theorem dX4_add_73 : decode cX4_add 73 = .ok (.ifCond .ne 7, 3) := by decide +kernel
theorem dX4_add_76 : decode cX4_add 76 = .ok (.iconst 1, 1) := by decide +kernel
theorem dX4_add_77 : decode cX4_add 77 = .ok (.goto 4, 3) := by decide +kernel
theorem dX4_add_80 : decode cX4_add 80 = .ok (.iconst 0, 1) := by decide +kernel
theorem dX4_add_81 : decode cX4_add 81 = .ok (.bastore, 1) := by decide +kernel
theorem dX4_add_82 : decode cX4_add 82 = .ok (.aload_n 0, 1) := by decide +kernel
theorem dX4_add_83 : decode cX4_add 83 = .ok (.getfield 28, 3) := by decide +kernel
theorem dX4_add_86 : decode cX4_add 86 = .ok (.aload_n 0, 1) := by decide +kernel
theorem dX4_add_87 : decode cX4_add 87 = .ok (.getfield 44, 3) := by decide +kernel
theorem dX4_add_90 : decode cX4_add 90 = .ok (.iconst 1, 1) := by decide +kernel
theorem dX4_add_91 : decode cX4_add 91 = .ok (.iadd, 1) := by decide +kernel
theorem dX4_add_92 : decode cX4_add 92 = .ok (.aload_n 0, 1) := by decide +kernel
theorem dX4_add_93 : decode cX4_add 93 = .ok (.getfield 28, 3) := by decide +kernel
theorem dX4_add_96 : decode cX4_add 96 = .ok (.aload_n 0, 1) := by decide +kernel
theorem dX4_add_97 : decode cX4_add 97 = .ok (.getfield 44, 3) := by decide +kernel
theorem dX4_add_100 : decode cX4_add 100 = .ok (.laload, 1) := by decide +kernel
theorem dX4_add_101 : decode cX4_add 101 = .ok (.iload 4, 2) := by decide +kernel
theorem dX4_add_103 : decode cX4_add 103 = .ok (.i2l, 1) := by decide +kernel
theorem dX4_add_104 : decode cX4_add 104 = .ok (.ladd, 1) := by decide +kernel
theorem dX4_add_105 : decode cX4_add 105 = .ok (.lastore, 1) := by decide +kernel
theorem dX4_add_106 : decode cX4_add 106 = .ok (.aload_n 0, 1) := by decide +kernel
theorem dX4_add_107 : decode cX4_add 107 = .ok (.getfield 37, 3) := by decide +kernel
theorem dX4_add_110 : decode cX4_add 110 = .ok (.iload 4, 2) := by decide +kernel
theorem dX4_add_112 : decode cX4_add 112 = .ok (.invokevirtual 66, 3) := by decide +kernel
theorem dX4_add_115 : decode cX4_add 115 = .ok (.aload_n 0, 1) := by decide +kernel
theorem dX4_add_116 : decode cX4_add 116 = .ok (.getfield 41, 3) := by decide +kernel
theorem dX4_add_119 : decode cX4_add 119 = .ok (.iload_n 1, 1) := by decide +kernel
theorem dX4_add_120 : decode cX4_add 120 = .ok (.iload_n 2, 1) := by decide +kernel
theorem dX4_add_121 : decode cX4_add 121 = .ok (.iload_n 3, 1) := by decide +kernel
theorem dX4_add_122 : decode cX4_add 122 = .ok (.invokestatic 70, 3) := by decide +kernel
theorem dX4_add_125 : decode cX4_add 125 = .ok (.invokevirtual 66, 3) := by decide +kernel
theorem dX4_add_128 : decode cX4_add 128 = .ok (.aload_n 0, 1) := by decide +kernel
theorem dX4_add_129 : decode cX4_add 129 = .ok (.dup, 1) := by decide +kernel
theorem dX4_add_130 : decode cX4_add 130 = .ok (.getfield 44, 3) := by decide +kernel
theorem dX4_add_133 : decode cX4_add 133 = .ok (.iconst 1, 1) := by decide +kernel
theorem dX4_add_134 : decode cX4_add 134 = .ok (.iadd, 1) := by decide +kernel
theorem dX4_add_135 : decode cX4_add 135 = .ok (.putfield 44, 3) := by decide +kernel
theorem dX4_add_138 : decode cX4_add 138 = .ok (.aload_n 0, 1) := by decide +kernel
theorem dX4_add_139 : decode cX4_add 139 = .ok (.getfield 44, 3) := by decide +kernel
theorem dX4_add_142 : decode cX4_add 142 = .ok (.iconst 1, 1) := by decide +kernel
theorem dX4_add_143 : decode cX4_add 143 = .ok (.isub, 1) := by decide +kernel
theorem dX4_add_144 : decode cX4_add 144 = .ok (.ireturn, 1) := by decide +kernel
theorem dX4_removeLast_0 : decode cX4_removeLast 0 = .ok (.aload_n 0, 1) := by decide +kernel
theorem dX4_removeLast_1 : decode cX4_removeLast 1 = .ok (.getfield 44, 3) := by decide +kernel
theorem dX4_removeLast_4 : decode cX4_removeLast 4 = .ok (.ifCond .le 66, 3) := by decide +kernel
theorem dX4_removeLast_7 : decode cX4_removeLast 7 = .ok (.aload_n 0, 1) := by decide +kernel
theorem dX4_removeLast_8 : decode cX4_removeLast 8 = .ok (.dup, 1) := by decide +kernel
theorem dX4_removeLast_9 : decode cX4_removeLast 9 = .ok (.getfield 44, 3) := by decide +kernel
theorem dX4_removeLast_12 : decode cX4_removeLast 12 = .ok (.iconst 1, 1) := by decide +kernel
theorem dX4_removeLast_13 : decode cX4_removeLast 13 = .ok (.isub, 1) := by decide +kernel
theorem dX4_removeLast_14 : decode cX4_removeLast 14 = .ok (.putfield 44, 3) := by decide +kernel
theorem dX4_removeLast_17 : decode cX4_removeLast 17 = .ok (.aload_n 0, 1) := by decide +kernel
theorem dX4_removeLast_18 : decode cX4_removeLast 18 = .ok (.getfield 37, 3) := by decide +kernel
theorem dX4_removeLast_21 : decode cX4_removeLast 21 = .ok (.aload_n 0, 1) := by decide +kernel
theorem dX4_removeLast_22 : decode cX4_removeLast 22 = .ok (.getfield 21, 3) := by decide +kernel
theorem dX4_removeLast_25 : decode cX4_removeLast 25 = .ok (.aload_n 0, 1) := by decide +kernel
theorem dX4_removeLast_26 : decode cX4_removeLast 26 = .ok (.getfield 44, 3) := by decide +kernel
theorem dX4_removeLast_29 : decode cX4_removeLast 29 = .ok (.iaload, 1) := by decide +kernel
theorem dX4_removeLast_30 : decode cX4_removeLast 30 = .ok (.invokevirtual 74, 3) := by decide +kernel
theorem dX4_removeLast_33 : decode cX4_removeLast 33 = .ok (.aload_n 0, 1) := by decide +kernel
theorem dX4_removeLast_34 : decode cX4_removeLast 34 = .ok (.getfield 41, 3) := by decide +kernel
theorem dX4_removeLast_37 : decode cX4_removeLast 37 = .ok (.aload_n 0, 1) := by decide +kernel
theorem dX4_removeLast_38 : decode cX4_removeLast 38 = .ok (.getfield 9, 3) := by decide +kernel
theorem dX4_removeLast_41 : decode cX4_removeLast 41 = .ok (.aload_n 0, 1) := by decide +kernel
theorem dX4_removeLast_42 : decode cX4_removeLast 42 = .ok (.getfield 44, 3) := by decide +kernel
theorem dX4_removeLast_45 : decode cX4_removeLast 45 = .ok (.iaload, 1) := by decide +kernel
theorem dX4_removeLast_46 : decode cX4_removeLast 46 = .ok (.aload_n 0, 1) := by decide +kernel
theorem dX4_removeLast_47 : decode cX4_removeLast 47 = .ok (.getfield 15, 3) := by decide +kernel
theorem dX4_removeLast_50 : decode cX4_removeLast 50 = .ok (.aload_n 0, 1) := by decide +kernel
theorem dX4_removeLast_51 : decode cX4_removeLast 51 = .ok (.getfield 44, 3) := by decide +kernel
theorem dX4_removeLast_54 : decode cX4_removeLast 54 = .ok (.iaload, 1) := by decide +kernel
theorem dX4_removeLast_55 : decode cX4_removeLast 55 = .ok (.aload_n 0, 1) := by decide +kernel
theorem dX4_removeLast_56 : decode cX4_removeLast 56 = .ok (.getfield 18, 3) := by decide +kernel
theorem dX4_removeLast_59 : decode cX4_removeLast 59 = .ok (.aload_n 0, 1) := by decide +kernel
theorem dX4_removeLast_60 : decode cX4_removeLast 60 = .ok (.getfield 44, 3) := by decide +kernel
theorem dX4_removeLast_63 : decode cX4_removeLast 63 = .ok (.iaload, 1) := by decide +kernel
theorem dX4_removeLast_64 : decode cX4_removeLast 64 = .ok (.invokestatic 70, 3) := by decide +kernel
theorem dX4_removeLast_67 : decode cX4_removeLast 67 = .ok (.invokevirtual 74, 3) := by decide +kernel
theorem dX4_removeLast_70 : decode cX4_removeLast 70 = .ok (.return_, 1) := by decide +kernel
theorem dX4_total_0 : decode cX4_total 0 = .ok (.aload_n 0, 1) := by decide +kernel
theorem dX4_total_1 : decode cX4_total 1 = .ok (.getfield 28, 3) := by decide +kernel
theorem dX4_total_4 : decode cX4_total 4 = .ok (.aload_n 0, 1) := by decide +kernel
theorem dX4_total_5 : decode cX4_total 5 = .ok (.getfield 44, 3) := by decide +kernel
theorem dX4_total_8 : decode cX4_total 8 = .ok (.laload, 1) := by decide +kernel
theorem dX4_total_9 : decode cX4_total 9 = .ok (.lreturn, 1) := by decide +kernel
theorem dX4_totalOfFirst_0 : decode cX4_totalOfFirst 0 = .ok (.iload_n 1, 1) := by decide +kernel
theorem dX4_totalOfFirst_1 : decode cX4_totalOfFirst 1 = .ok (.ifCond .lt 20, 3) := by decide +kernel
theorem dX4_totalOfFirst_4 : decode cX4_totalOfFirst 4 = .ok (.iload_n 1, 1) := by decide +kernel
theorem dX4_totalOfFirst_5 : decode cX4_totalOfFirst 5 = .ok (.aload_n 0, 1) := by decide +kernel
theorem dX4_totalOfFirst_6 : decode cX4_totalOfFirst 6 = .ok (.getfield 44, 3) := by decide +kernel
theorem dX4_totalOfFirst_9 : decode cX4_totalOfFirst 9 = .ok (.if_icmp .ge 12, 3) := by decide +kernel
theorem dX4_totalOfFirst_12 : decode cX4_totalOfFirst 12 = .ok (.aload_n 0, 1) := by decide +kernel
theorem dX4_totalOfFirst_13 : decode cX4_totalOfFirst 13 = .ok (.getfield 28, 3) := by decide +kernel
theorem dX4_totalOfFirst_16 : decode cX4_totalOfFirst 16 = .ok (.iload_n 1, 1) := by decide +kernel
theorem dX4_totalOfFirst_17 : decode cX4_totalOfFirst 17 = .ok (.laload, 1) := by decide +kernel
theorem dX4_totalOfFirst_18 : decode cX4_totalOfFirst 18 = .ok (.goto 7, 3) := by decide +kernel
theorem dX4_totalOfFirst_21 : decode cX4_totalOfFirst 21 = .ok (.aload_n 0, 1) := by decide +kernel
theorem dX4_totalOfFirst_22 : decode cX4_totalOfFirst 22 = .ok (.invokevirtual 77, 3) := by decide +kernel
theorem dX4_totalOfFirst_25 : decode cX4_totalOfFirst 25 = .ok (.lreturn, 1) := by decide +kernel
theorem dX4_narrowPlace_0 : decode cX4_narrowPlace 0 = .ok (.iconst 0, 1) := by decide +kernel
theorem dX4_narrowPlace_1 : decode cX4_narrowPlace 1 = .ok (.istore_n 2, 1) := by decide +kernel
theorem dX4_narrowPlace_2 : decode cX4_narrowPlace 2 = .ok (.iconst 0, 1) := by decide +kernel
theorem dX4_narrowPlace_3 : decode cX4_narrowPlace 3 = .ok (.istore_n 3, 1) := by decide +kernel
theorem dX4_narrowPlace_4 : decode cX4_narrowPlace 4 = .ok (.iload_n 3, 1) := by decide +kernel
theorem dX4_narrowPlace_5 : decode cX4_narrowPlace 5 = .ok (.aload_n 0, 1) := by decide +kernel
theorem dX4_narrowPlace_6 : decode cX4_narrowPlace 6 = .ok (.getfield 44, 3) := by decide +kernel
theorem dX4_narrowPlace_9 : decode cX4_narrowPlace 9 = .ok (.if_icmp .ge 33, 3) := by decide +kernel
theorem dX4_narrowPlace_12 : decode cX4_narrowPlace 12 = .ok (.aload_n 0, 1) := by decide +kernel
theorem dX4_narrowPlace_13 : decode cX4_narrowPlace 13 = .ok (.getfield 24, 3) := by decide +kernel
theorem dX4_narrowPlace_16 : decode cX4_narrowPlace 16 = .ok (.iload_n 3, 1) := by decide +kernel
theorem dX4_narrowPlace_17 : decode cX4_narrowPlace 17 = .ok (.baload, 1) := by decide +kernel
theorem dX4_narrowPlace_18 : decode cX4_narrowPlace 18 = .ok (.ifCond .eq 18, 3) := by decide +kernel
theorem dX4_narrowPlace_21 : decode cX4_narrowPlace 21 = .ok (.iload_n 2, 1) := by decide +kernel
theorem dX4_narrowPlace_22 : decode cX4_narrowPlace 22 = .ok (.iload_n 1, 1) := by decide +kernel
theorem dX4_narrowPlace_23 : decode cX4_narrowPlace 23 = .ok (.if_icmp .ne 10, 3) := by decide +kernel
theorem dX4_narrowPlace_26 : decode cX4_narrowPlace 26 = .ok (.aload_n 0, 1) := by decide +kernel
theorem dX4_narrowPlace_27 : decode cX4_narrowPlace 27 = .ok (.getfield 15, 3) := by decide +kernel
theorem dX4_narrowPlace_30 : decode cX4_narrowPlace 30 = .ok (.iload_n 3, 1) := by decide +kernel
theorem dX4_narrowPlace_31 : decode cX4_narrowPlace 31 = .ok (.iaload, 1) := by decide +kernel
theorem dX4_narrowPlace_32 : decode cX4_narrowPlace 32 = .ok (.ireturn, 1) := by decide +kernel
theorem dX4_narrowPlace_33 : decode cX4_narrowPlace 33 = .ok (.iinc 2 1, 3) := by decide +kernel
theorem dX4_narrowPlace_36 : decode cX4_narrowPlace 36 = .ok (.iinc 3 1, 3) := by decide +kernel
theorem dX4_narrowPlace_39 : decode cX4_narrowPlace 39 = .ok (.goto (-35), 3) := by decide +kernel
theorem dX4_narrowPlace_42 : decode cX4_narrowPlace 42 = .ok (.iconst (-1), 1) := by decide +kernel
theorem dX4_narrowPlace_43 : decode cX4_narrowPlace 43 = .ok (.ireturn, 1) := by decide +kernel
theorem dX4_longestClimb_0 : decode cX4_longestClimb 0 = .ok (.iconst 0, 1) := by decide +kernel
theorem dX4_longestClimb_1 : decode cX4_longestClimb 1 = .ok (.istore_n 1, 1) := by decide +kernel
theorem dX4_longestClimb_2 : decode cX4_longestClimb 2 = .ok (.iconst 0, 1) := by decide +kernel
theorem dX4_longestClimb_3 : decode cX4_longestClimb 3 = .ok (.istore_n 2, 1) := by decide +kernel
theorem dX4_longestClimb_4 : decode cX4_longestClimb 4 = .ok (.iconst 0, 1) := by decide +kernel
theorem dX4_longestClimb_5 : decode cX4_longestClimb 5 = .ok (.istore_n 3, 1) := by decide +kernel
theorem dX4_longestClimb_6 : decode cX4_longestClimb 6 = .ok (.iload_n 3, 1) := by decide +kernel
theorem dX4_longestClimb_7 : decode cX4_longestClimb 7 = .ok (.aload_n 0, 1) := by decide +kernel
theorem dX4_longestClimb_8 : decode cX4_longestClimb 8 = .ok (.getfield 44, 3) := by decide +kernel
theorem dX4_longestClimb_11 : decode cX4_longestClimb 11 = .ok (.if_icmp .ge 44, 3) := by decide +kernel
theorem dX4_longestClimb_14 : decode cX4_longestClimb 14 = .ok (.iload_n 3, 1) := by decide +kernel
theorem dX4_longestClimb_15 : decode cX4_longestClimb 15 = .ok (.ifCond .le 26, 3) := by decide +kernel
theorem dX4_longestClimb_18 : decode cX4_longestClimb 18 = .ok (.aload_n 0, 1) := by decide +kernel
theorem dX4_longestClimb_19 : decode cX4_longestClimb 19 = .ok (.getfield 21, 3) := by decide +kernel
theorem dX4_longestClimb_22 : decode cX4_longestClimb 22 = .ok (.iload_n 3, 1) := by decide +kernel
theorem dX4_longestClimb_23 : decode cX4_longestClimb 23 = .ok (.iaload, 1) := by decide +kernel
theorem dX4_longestClimb_24 : decode cX4_longestClimb 24 = .ok (.aload_n 0, 1) := by decide +kernel
theorem dX4_longestClimb_25 : decode cX4_longestClimb 25 = .ok (.getfield 21, 3) := by decide +kernel
theorem dX4_longestClimb_28 : decode cX4_longestClimb 28 = .ok (.iload_n 3, 1) := by decide +kernel
theorem dX4_longestClimb_29 : decode cX4_longestClimb 29 = .ok (.iconst 1, 1) := by decide +kernel
theorem dX4_longestClimb_30 : decode cX4_longestClimb 30 = .ok (.isub, 1) := by decide +kernel
theorem dX4_longestClimb_31 : decode cX4_longestClimb 31 = .ok (.iaload, 1) := by decide +kernel
theorem dX4_longestClimb_32 : decode cX4_longestClimb 32 = .ok (.if_icmp .lt 9, 3) := by decide +kernel
theorem dX4_longestClimb_35 : decode cX4_longestClimb 35 = .ok (.iload_n 2, 1) := by decide +kernel
theorem dX4_longestClimb_36 : decode cX4_longestClimb 36 = .ok (.iconst 1, 1) := by decide +kernel
theorem dX4_longestClimb_37 : decode cX4_longestClimb 37 = .ok (.iadd, 1) := by decide +kernel
theorem dX4_longestClimb_38 : decode cX4_longestClimb 38 = .ok (.goto 4, 3) := by decide +kernel
theorem dX4_longestClimb_41 : decode cX4_longestClimb 41 = .ok (.iconst 1, 1) := by decide +kernel
theorem dX4_longestClimb_42 : decode cX4_longestClimb 42 = .ok (.istore_n 2, 1) := by decide +kernel
theorem dX4_longestClimb_43 : decode cX4_longestClimb 43 = .ok (.iload_n 1, 1) := by decide +kernel
theorem dX4_longestClimb_44 : decode cX4_longestClimb 44 = .ok (.iload_n 2, 1) := by decide +kernel
theorem dX4_longestClimb_45 : decode cX4_longestClimb 45 = .ok (.invokestatic 81, 3) := by decide +kernel
theorem dX4_longestClimb_48 : decode cX4_longestClimb 48 = .ok (.istore_n 1, 1) := by decide +kernel
theorem dX4_longestClimb_49 : decode cX4_longestClimb 49 = .ok (.iinc 3 1, 3) := by decide +kernel
theorem dX4_longestClimb_52 : decode cX4_longestClimb 52 = .ok (.goto (-46), 3) := by decide +kernel
theorem dX4_longestClimb_55 : decode cX4_longestClimb 55 = .ok (.iload_n 1, 1) := by decide +kernel
theorem dX4_longestClimb_56 : decode cX4_longestClimb 56 = .ok (.ireturn, 1) := by decide +kernel
theorem dX4_toRow_0 : decode cX4_toRow 0 = .ok (.new 87, 3) := by decide +kernel
theorem dX4_toRow_3 : decode cX4_toRow 3 = .ok (.dup, 1) := by decide +kernel
theorem dX4_toRow_4 : decode cX4_toRow 4 = .ok (.aload_n 0, 1) := by decide +kernel
theorem dX4_toRow_5 : decode cX4_toRow 5 = .ok (.invokevirtual 77, 3) := by decide +kernel
theorem dX4_toRow_8 : decode cX4_toRow 8 = .ok (.aload_n 0, 1) := by decide +kernel
theorem dX4_toRow_9 : decode cX4_toRow 9 = .ok (.getfield 37, 3) := by decide +kernel
theorem dX4_toRow_12 : decode cX4_toRow 12 = .ok (.invokevirtual 89, 3) := by decide +kernel
theorem dX4_toRow_15 : decode cX4_toRow 15 = .ok (.aload_n 0, 1) := by decide +kernel
theorem dX4_toRow_16 : decode cX4_toRow 16 = .ok (.getfield 41, 3) := by decide +kernel
theorem dX4_toRow_19 : decode cX4_toRow 19 = .ok (.invokevirtual 89, 3) := by decide +kernel
theorem dX4_toRow_22 : decode cX4_toRow 22 = .ok (.invokespecial 93, 3) := by decide +kernel
theorem dX4_toRow_25 : decode cX4_toRow 25 = .ok (.areturn, 1) := by decide +kernel
theorem dX4_orderAgainst_0 : decode cX4_orderAgainst 0 = .ok (.aload_n 0, 1) := by decide +kernel
theorem dX4_orderAgainst_1 : decode cX4_orderAgainst 1 = .ok (.invokevirtual 77, 3) := by decide +kernel
theorem dX4_orderAgainst_4 : decode cX4_orderAgainst 4 = .ok (.aload_n 1, 1) := by decide +kernel
theorem dX4_orderAgainst_5 : decode cX4_orderAgainst 5 = .ok (.getfield 96, 3) := by decide +kernel
theorem dX4_orderAgainst_8 : decode cX4_orderAgainst 8 = .ok (.invokestatic 99, 3) := by decide +kernel
theorem dX4_orderAgainst_11 : decode cX4_orderAgainst 11 = .ok (.istore_n 2, 1) := by decide +kernel
theorem dX4_orderAgainst_12 : decode cX4_orderAgainst 12 = .ok (.iload_n 2, 1) := by decide +kernel
theorem dX4_orderAgainst_13 : decode cX4_orderAgainst 13 = .ok (.ifCond .eq 5, 3) := by decide +kernel
theorem dX4_orderAgainst_16 : decode cX4_orderAgainst 16 = .ok (.iload_n 2, 1) := by decide +kernel
theorem dX4_orderAgainst_17 : decode cX4_orderAgainst 17 = .ok (.ireturn, 1) := by decide +kernel
theorem dX4_orderAgainst_18 : decode cX4_orderAgainst 18 = .ok (.aload_n 0, 1) := by decide +kernel
theorem dX4_orderAgainst_19 : decode cX4_orderAgainst 19 = .ok (.getfield 44, 3) := by decide +kernel
theorem dX4_orderAgainst_22 : decode cX4_orderAgainst 22 = .ok (.i2l, 1) := by decide +kernel
theorem dX4_orderAgainst_23 : decode cX4_orderAgainst 23 = .ok (.aload_n 1, 1) := by decide +kernel
theorem dX4_orderAgainst_24 : decode cX4_orderAgainst 24 = .ok (.getfield 103, 3) := by decide +kernel
theorem dX4_orderAgainst_27 : decode cX4_orderAgainst 27 = .ok (.invokevirtual 104, 3) := by decide +kernel
theorem dX4_orderAgainst_30 : decode cX4_orderAgainst 30 = .ok (.i2l, 1) := by decide +kernel
theorem dX4_orderAgainst_31 : decode cX4_orderAgainst 31 = .ok (.invokestatic 99, 3) := by decide +kernel
theorem dX4_orderAgainst_34 : decode cX4_orderAgainst 34 = .ok (.istore_n 3, 1) := by decide +kernel
theorem dX4_orderAgainst_35 : decode cX4_orderAgainst 35 = .ok (.iload_n 3, 1) := by decide +kernel
theorem dX4_orderAgainst_36 : decode cX4_orderAgainst 36 = .ok (.ifCond .eq 7, 3) := by decide +kernel
theorem dX4_orderAgainst_39 : decode cX4_orderAgainst 39 = .ok (.iload_n 3, 1) := by decide +kernel
theorem dX4_orderAgainst_40 : decode cX4_orderAgainst 40 = .ok (.goto 14, 3) := by decide +kernel
theorem dX4_orderAgainst_43 : decode cX4_orderAgainst 43 = .ok (.aload_n 0, 1) := by decide +kernel
theorem dX4_orderAgainst_44 : decode cX4_orderAgainst 44 = .ok (.getfield 37, 3) := by decide +kernel
theorem dX4_orderAgainst_47 : decode cX4_orderAgainst 47 = .ok (.aload_n 1, 1) := by decide +kernel
theorem dX4_orderAgainst_48 : decode cX4_orderAgainst 48 = .ok (.getfield 103, 3) := by decide +kernel
theorem dX4_orderAgainst_51 : decode cX4_orderAgainst 51 = .ok (.invokevirtual 108, 3) := by decide +kernel
theorem dX4_orderAgainst_54 : decode cX4_orderAgainst 54 = .ok (.ireturn, 1) := by decide +kernel
theorem dX4_hasStepsOf_0 : decode cX4_hasStepsOf 0 = .ok (.aload_n 0, 1) := by decide +kernel
theorem dX4_hasStepsOf_1 : decode cX4_hasStepsOf 1 = .ok (.getfield 41, 3) := by decide +kernel
theorem dX4_hasStepsOf_4 : decode cX4_hasStepsOf 4 = .ok (.invokevirtual 104, 3) := by decide +kernel
theorem dX4_hasStepsOf_7 : decode cX4_hasStepsOf 7 = .ok (.aload_n 1, 1) := by decide +kernel
theorem dX4_hasStepsOf_8 : decode cX4_hasStepsOf 8 = .ok (.getfield 112, 3) := by decide +kernel
theorem dX4_hasStepsOf_11 : decode cX4_hasStepsOf 11 = .ok (.invokevirtual 104, 3) := by decide +kernel
theorem dX4_hasStepsOf_14 : decode cX4_hasStepsOf 14 = .ok (.if_icmp .ne 21, 3) := by decide +kernel
theorem dX4_hasStepsOf_17 : decode cX4_hasStepsOf 17 = .ok (.aload_n 0, 1) := by decide +kernel
theorem dX4_hasStepsOf_18 : decode cX4_hasStepsOf 18 = .ok (.getfield 41, 3) := by decide +kernel
theorem dX4_hasStepsOf_21 : decode cX4_hasStepsOf 21 = .ok (.aload_n 1, 1) := by decide +kernel
theorem dX4_hasStepsOf_22 : decode cX4_hasStepsOf 22 = .ok (.getfield 112, 3) := by decide +kernel
theorem dX4_hasStepsOf_25 : decode cX4_hasStepsOf 25 = .ok (.invokevirtual 108, 3) := by decide +kernel
theorem dX4_hasStepsOf_28 : decode cX4_hasStepsOf 28 = .ok (.ifCond .ne 7, 3) := by decide +kernel
theorem dX4_hasStepsOf_31 : decode cX4_hasStepsOf 31 = .ok (.iconst 1, 1) := by decide +kernel
theorem dX4_hasStepsOf_32 : decode cX4_hasStepsOf 32 = .ok (.goto 4, 3) := by decide +kernel
theorem dX4_hasStepsOf_35 : decode cX4_hasStepsOf 35 = .ok (.iconst 0, 1) := by decide +kernel
theorem dX4_hasStepsOf_36 : decode cX4_hasStepsOf 36 = .ok (.ireturn, 1) := by decide +kernel
theorem dX4_wasNarrowAt_0 : decode cX4_wasNarrowAt 0 = .ok (.iconst 0, 1) := by decide +kernel
theorem dX4_wasNarrowAt_1 : decode cX4_wasNarrowAt 1 = .ok (.istore_n 2, 1) := by decide +kernel
theorem dX4_wasNarrowAt_2 : decode cX4_wasNarrowAt 2 = .ok (.iload_n 2, 1) := by decide +kernel
theorem dX4_wasNarrowAt_3 : decode cX4_wasNarrowAt 3 = .ok (.aload_n 0, 1) := by decide +kernel
theorem dX4_wasNarrowAt_4 : decode cX4_wasNarrowAt 4 = .ok (.getfield 44, 3) := by decide +kernel
theorem dX4_wasNarrowAt_7 : decode cX4_wasNarrowAt 7 = .ok (.if_icmp .ge 30, 3) := by decide +kernel
theorem dX4_wasNarrowAt_10 : decode cX4_wasNarrowAt 10 = .ok (.aload_n 0, 1) := by decide +kernel
theorem dX4_wasNarrowAt_11 : decode cX4_wasNarrowAt 11 = .ok (.getfield 24, 3) := by decide +kernel
theorem dX4_wasNarrowAt_14 : decode cX4_wasNarrowAt 14 = .ok (.iload_n 2, 1) := by decide +kernel
theorem dX4_wasNarrowAt_15 : decode cX4_wasNarrowAt 15 = .ok (.baload, 1) := by decide +kernel
theorem dX4_wasNarrowAt_16 : decode cX4_wasNarrowAt 16 = .ok (.ifCond .eq 15, 3) := by decide +kernel
theorem dX4_wasNarrowAt_19 : decode cX4_wasNarrowAt 19 = .ok (.aload_n 0, 1) := by decide +kernel
theorem dX4_wasNarrowAt_20 : decode cX4_wasNarrowAt 20 = .ok (.getfield 15, 3) := by decide +kernel
theorem dX4_wasNarrowAt_23 : decode cX4_wasNarrowAt 23 = .ok (.iload_n 2, 1) := by decide +kernel
theorem dX4_wasNarrowAt_24 : decode cX4_wasNarrowAt 24 = .ok (.iaload, 1) := by decide +kernel
theorem dX4_wasNarrowAt_25 : decode cX4_wasNarrowAt 25 = .ok (.iload_n 1, 1) := by decide +kernel
theorem dX4_wasNarrowAt_26 : decode cX4_wasNarrowAt 26 = .ok (.if_icmp .ne 5, 3) := by decide +kernel
theorem dX4_wasNarrowAt_29 : decode cX4_wasNarrowAt 29 = .ok (.iconst 1, 1) := by decide +kernel
theorem dX4_wasNarrowAt_30 : decode cX4_wasNarrowAt 30 = .ok (.ireturn, 1) := by decide +kernel
theorem dX4_wasNarrowAt_31 : decode cX4_wasNarrowAt 31 = .ok (.iinc 2 1, 3) := by decide +kernel
theorem dX4_wasNarrowAt_34 : decode cX4_wasNarrowAt 34 = .ok (.goto (-32), 3) := by decide +kernel
theorem dX4_wasNarrowAt_37 : decode cX4_wasNarrowAt 37 = .ok (.iconst 0, 1) := by decide +kernel
theorem dX4_wasNarrowAt_38 : decode cX4_wasNarrowAt 38 = .ok (.ireturn, 1) := by decide +kernel
theorem dX4_codeOf_0 : decode cX4_codeOf 0 = .ok (.iload_n 0, 1) := by decide +kernel
theorem dX4_codeOf_1 : decode cX4_codeOf 1 = .ok (.sipush 256, 3) := by decide +kernel
theorem dX4_codeOf_4 : decode cX4_codeOf 4 = .ok (.imul, 1) := by decide +kernel
theorem dX4_codeOf_5 : decode cX4_codeOf 5 = .ok (.iload_n 1, 1) := by decide +kernel
theorem dX4_codeOf_6 : decode cX4_codeOf 6 = .ok (.iadd, 1) := by decide +kernel
theorem dX4_codeOf_7 : decode cX4_codeOf 7 = .ok (.bipush 32, 2) := by decide +kernel
theorem dX4_codeOf_9 : decode cX4_codeOf 9 = .ok (.imul, 1) := by decide +kernel
theorem dX4_codeOf_10 : decode cX4_codeOf 10 = .ok (.iload_n 2, 1) := by decide +kernel
theorem dX4_codeOf_11 : decode cX4_codeOf 11 = .ok (.iadd, 1) := by decide +kernel
theorem dX4_codeOf_12 : decode cX4_codeOf 12 = .ok (.ireturn, 1) := by decide +kernel
end
section
theorem dX5_init_0 : decode cX5_init 0 = .ok (.aload_n 0, 1) := by decide +kernel
theorem dX5_init_1 : decode cX5_init 1 = .ok (.invokespecial 1, 3) := by decide +kernel
theorem dX5_init_4 : decode cX5_init 4 = .ok (.aload_n 0, 1) := by decide +kernel
theorem dX5_init_5 : decode cX5_init 5 = .ok (.new 7, 3) := by decide +kernel
theorem dX5_init_8 : decode cX5_init 8 = .ok (.dup, 1) := by decide +kernel
theorem dX5_init_9 : decode cX5_init 9 = .ok (.invokespecial 9, 3) := by decide +kernel
theorem dX5_init_12 : decode cX5_init 12 = .ok (.putfield 10, 3) := by decide +kernel
theorem dX5_init_15 : decode cX5_init 15 = .ok (.aload_n 0, 1) := by decide +kernel
theorem dX5_init_16 : decode cX5_init 16 = .ok (.new 16, 3) := by decide +kernel
theorem dX5_init_19 : decode cX5_init 19 = .ok (.dup, 1) := by decide +kernel
theorem dX5_init_20 : decode cX5_init 20 = .ok (.invokespecial 18, 3) := by decide +kernel
theorem dX5_init_23 : decode cX5_init 23 = .ok (.putfield 19, 3) := by decide +kernel
theorem dX5_init_26 : decode cX5_init 26 = .ok (.aload_n 0, 1) := by decide +kernel
theorem dX5_init_27 : decode cX5_init 27 = .ok (.new 23, 3) := by decide +kernel
theorem dX5_init_30 : decode cX5_init 30 = .ok (.dup, 1) := by decide +kernel
theorem dX5_init_31 : decode cX5_init 31 = .ok (.invokespecial 25, 3) := by decide +kernel
theorem dX5_init_34 : decode cX5_init 34 = .ok (.putfield 26, 3) := by decide +kernel
theorem dX5_init_37 : decode cX5_init 37 = .ok (.aload_n 0, 1) := by decide +kernel
theorem dX5_init_38 : decode cX5_init 38 = .ok (.bipush 10, 2) := by decide +kernel
theorem dX5_init_40 : decode cX5_init 40 = .ok (.anewarray 30, 3) := by decide +kernel
theorem dX5_init_43 : decode cX5_init 43 = .ok (.putfield 32, 3) := by decide +kernel
theorem dX5_init_46 : decode cX5_init 46 = .ok (.aload_n 0, 1) := by decide +kernel
theorem dX5_init_47 : decode cX5_init 47 = .ok (.iconst 0, 1) := by decide +kernel
theorem dX5_init_48 : decode cX5_init 48 = .ok (.putfield 36, 3) := by decide +kernel
theorem dX5_init_51 : decode cX5_init 51 = .ok (.aload_n 0, 1) := by decide +kernel
theorem dX5_init_52 : decode cX5_init 52 = .ok (.iconst 0, 1) := by decide +kernel
theorem dX5_init_53 : decode cX5_init 53 = .ok (.putfield 40, 3) := by decide +kernel
theorem dX5_init_56 : decode cX5_init 56 = .ok (.return_, 1) := by decide +kernel
theorem dX5_rule_0 : decode cX5_rule 0 = .ok (.iload_n 1, 1) := by decide +kernel
theorem dX5_rule_1 : decode cX5_rule 1 = .ok (.iconst 0, 1) := by decide +kernel
theorem dX5_rule_2 : decode cX5_rule 2 = .ok (.sipush 10000, 3) := by decide +kernel
theorem dX5_rule_5 : decode cX5_rule 5 = .ok (.invokestatic 43, 3) := by decide +kernel
theorem dX5_rule_8 : decode cX5_rule 8 = .ok (.ifCond .eq 13, 3) := by decide +kernel
theorem dX5_rule_11 : decode cX5_rule 11 = .ok (.iload_n 2, 1) := by decide +kernel
theorem dX5_rule_12 : decode cX5_rule 12 = .ok (.iconst 0, 1) := by decide +kernel
theorem dX5_rule_13 : decode cX5_rule 13 = .ok (.ldc 47, 2) := by decide +kernel
theorem dX5_rule_15 : decode cX5_rule 15 = .ok (.invokestatic 43, 3) := by decide +kernel
theorem dX5_rule_18 : decode cX5_rule 18 = .ok (.ifCond .ne 5, 3) := by decide +kernel
theorem dX5_rule_21 : decode cX5_rule 21 = .ok (.iconst (-1), 1) := by decide +kernel
theorem dX5_rule_22 : decode cX5_rule 22 = .ok (.ireturn, 1) := by decide +kernel
theorem dX5_rule_23 : decode cX5_rule 23 = .ok (.aload_n 0, 1) := by decide +kernel
theorem dX5_rule_24 : decode cX5_rule 24 = .ok (.getfield 10, 3) := by decide +kernel
theorem dX5_rule_27 : decode cX5_rule 27 = .ok (.iload_n 1, 1) := by decide +kernel
theorem dX5_rule_28 : decode cX5_rule 28 = .ok (.iload_n 2, 1) := by decide +kernel
theorem dX5_rule_29 : decode cX5_rule 29 = .ok (.invokevirtual 48, 3) := by decide +kernel
theorem dX5_rule_32 : decode cX5_rule 32 = .ok (.ireturn, 1) := by decide +kernel
theorem dX5_used_0 : decode cX5_used 0 = .ok (.aload_n 0, 1) := by decide +kernel
theorem dX5_used_1 : decode cX5_used 1 = .ok (.getfield 10, 3) := by decide +kernel
theorem dX5_used_4 : decode cX5_used 4 = .ok (.iload_n 1, 1) := by decide +kernel
theorem dX5_used_5 : decode cX5_used 5 = .ok (.invokevirtual 52, 3) := by decide +kernel
theorem dX5_used_8 : decode cX5_used 8 = .ok (.ifCond .eq 24, 3) := by decide +kernel
theorem dX5_used_11 : decode cX5_used 11 = .ok (.iload_n 2, 1) := by decide +kernel
theorem dX5_used_12 : decode cX5_used 12 = .ok (.iconst 0, 1) := by decide +kernel
theorem dX5_used_13 : decode cX5_used 13 = .ok (.sipush 255, 3) := by decide +kernel
theorem dX5_used_16 : decode cX5_used 16 = .ok (.invokestatic 43, 3) := by decide +kernel
theorem dX5_used_19 : decode cX5_used 19 = .ok (.ifCond .eq 13, 3) := by decide +kernel
theorem dX5_used_22 : decode cX5_used 22 = .ok (.iload_n 3, 1) := by decide +kernel
theorem dX5_used_23 : decode cX5_used 23 = .ok (.iconst 1, 1) := by decide +kernel
theorem dX5_used_24 : decode cX5_used 24 = .ok (.bipush 9, 2) := by decide +kernel
theorem dX5_used_26 : decode cX5_used 26 = .ok (.invokestatic 43, 3) := by decide +kernel
theorem dX5_used_29 : decode cX5_used 29 = .ok (.ifCond .ne 5, 3) := by decide +kernel
theorem dX5_used_32 : decode cX5_used 32 = .ok (.iconst (-1), 1) := by decide +kernel
theorem dX5_used_33 : decode cX5_used 33 = .ok (.ireturn, 1) := by decide +kernel
theorem dX5_used_34 : decode cX5_used 34 = .ok (.aload_n 0, 1) := by decide +kernel
theorem dX5_used_35 : decode cX5_used 35 = .ok (.getfield 19, 3) := by decide +kernel
theorem dX5_used_38 : decode cX5_used 38 = .ok (.invokevirtual 56, 3) := by decide +kernel
theorem dX5_used_41 : decode cX5_used 41 = .ok (.ifCond .eq 5, 3) := by decide +kernel
theorem dX5_used_44 : decode cX5_used 44 = .ok (.iconst (-1), 1) := by decide +kernel
theorem dX5_used_45 : decode cX5_used 45 = .ok (.ireturn, 1) := by decide +kernel
theorem dX5_used_46 : decode cX5_used 46 = .ok (.aload_n 0, 1) := by decide +kernel
theorem dX5_used_47 : decode cX5_used 47 = .ok (.getfield 10, 3) := by decide +kernel
theorem dX5_used_50 : decode cX5_used 50 = .ok (.iload_n 1, 1) := by decide +kernel
theorem dX5_used_51 : decode cX5_used 51 = .ok (.iload_n 3, 1) := by decide +kernel
theorem dX5_used_52 : decode cX5_used 52 = .ok (.invokevirtual 60, 3) := by decide +kernel
theorem dX5_used_55 : decode cX5_used 55 = .ok (.istore 4, 2) := by decide +kernel
theorem dX5_used_57 : decode cX5_used 57 = .ok (.aload_n 0, 1) := by decide +kernel
theorem dX5_used_58 : decode cX5_used 58 = .ok (.getfield 10, 3) := by decide +kernel
theorem dX5_used_61 : decode cX5_used 61 = .ok (.iload_n 1, 1) := by decide +kernel
theorem dX5_used_62 : decode cX5_used 62 = .ok (.iload 4, 2) := by decide +kernel
theorem dX5_used_64 : decode cX5_used 64 = .ok (.invokevirtual 63, 3) := by decide +kernel
theorem dX5_used_67 : decode cX5_used 67 = .ok (.aload_n 0, 1) := by decide +kernel
theorem dX5_used_68 : decode cX5_used 68 = .ok (.getfield 19, 3) := by decide +kernel
theorem dX5_used_71 : decode cX5_used 71 = .ok (.iload_n 1, 1) := by decide +kernel
theorem dX5_used_72 : decode cX5_used 72 = .ok (.iload_n 2, 1) := by decide +kernel
theorem dX5_used_73 : decode cX5_used 73 = .ok (.iload_n 3, 1) := by decide +kernel
theorem dX5_used_74 : decode cX5_used 74 = .ok (.iload 4, 2) := by decide +kernel
theorem dX5_used_76 : decode cX5_used 76 = .ok (.invokevirtual 67, 3) := by decide +kernel
theorem dX5_used_79 : decode cX5_used 79 = .ok (.ireturn, 1) := by decide +kernel
theorem dX5_guess_0 : decode cX5_guess 0 = .ok (.iload_n 1, 1) := by decide +kernel
theorem dX5_guess_1 : decode cX5_guess 1 = .ok (.iconst 1, 1) := by decide +kernel
theorem dX5_guess_2 : decode cX5_guess 2 = .ok (.bipush 20, 2) := by decide +kernel
theorem dX5_guess_4 : decode cX5_guess 4 = .ok (.invokestatic 43, 3) := by decide +kernel
theorem dX5_guess_7 : decode cX5_guess 7 = .ok (.ifCond .ne 5, 3) := by decide +kernel
theorem dX5_guess_10 : decode cX5_guess 10 = .ok (.iconst (-1), 1) := by decide +kernel
theorem dX5_guess_11 : decode cX5_guess 11 = .ok (.ireturn, 1) := by decide +kernel
theorem dX5_guess_12 : decode cX5_guess 12 = .ok (.aload_n 0, 1) := by decide +kernel
theorem dX5_guess_13 : decode cX5_guess 13 = .ok (.getfield 19, 3) := by decide +kernel
theorem dX5_guess_16 : decode cX5_guess 16 = .ok (.iload_n 1, 1) := by decide +kernel
theorem dX5_guess_17 : decode cX5_guess 17 = .ok (.invokevirtual 70, 3) := by decide +kernel
theorem dX5_guess_20 : decode cX5_guess 20 = .ok (.ireturn, 1) := by decide +kernel
theorem dX5_drop_0 : decode cX5_drop 0 = .ok (.aload_n 0, 1) := by decide +kernel
theorem dX5_drop_1 : decode cX5_drop 1 = .ok (.getfield 19, 3) := by decide +kernel
theorem dX5_drop_4 : decode cX5_drop 4 = .ok (.invokevirtual 74, 3) := by decide +kernel
theorem dX5_drop_7 : decode cX5_drop 7 = .ok (.iconst 1, 1) := by decide +kernel
theorem dX5_drop_8 : decode cX5_drop 8 = .ok (.isub, 1) := by decide +kernel
theorem dX5_drop_9 : decode cX5_drop 9 = .ok (.istore_n 1, 1) := by decide +kernel
theorem dX5_drop_10 : decode cX5_drop 10 = .ok (.aload_n 0, 1) := by decide +kernel
theorem dX5_drop_11 : decode cX5_drop 11 = .ok (.getfield 19, 3) := by decide +kernel
theorem dX5_drop_14 : decode cX5_drop 14 = .ok (.iload_n 1, 1) := by decide +kernel
theorem dX5_drop_15 : decode cX5_drop 15 = .ok (.invokevirtual 78, 3) := by decide +kernel
theorem dX5_drop_18 : decode cX5_drop 18 = .ok (.ifCond .ne 5, 3) := by decide +kernel
theorem dX5_drop_21 : decode cX5_drop 21 = .ok (.iconst 0, 1) := by decide +kernel
theorem dX5_drop_22 : decode cX5_drop 22 = .ok (.ireturn, 1) := by decide +kernel
theorem dX5_drop_23 : decode cX5_drop 23 = .ok (.aload_n 0, 1) := by decide +kernel
theorem dX5_drop_24 : decode cX5_drop 24 = .ok (.getfield 10, 3) := by decide +kernel
theorem dX5_drop_27 : decode cX5_drop 27 = .ok (.aload_n 0, 1) := by decide +kernel
theorem dX5_drop_28 : decode cX5_drop 28 = .ok (.getfield 19, 3) := by decide +kernel
theorem dX5_drop_31 : decode cX5_drop 31 = .ok (.iload_n 1, 1) := by decide +kernel
theorem dX5_drop_32 : decode cX5_drop 32 = .ok (.invokevirtual 79, 3) := by decide +kernel
theorem dX5_drop_35 : decode cX5_drop 35 = .ok (.aload_n 0, 1) := by decide +kernel
theorem dX5_drop_36 : decode cX5_drop 36 = .ok (.getfield 19, 3) := by decide +kernel
theorem dX5_drop_39 : decode cX5_drop 39 = .ok (.iload_n 1, 1) := by decide +kernel
theorem dX5_drop_40 : decode cX5_drop 40 = .ok (.invokevirtual 82, 3) := by decide +kernel
theorem dX5_drop_43 : decode cX5_drop 43 = .ok (.invokevirtual 85, 3) := by decide +kernel
theorem dX5_drop_46 : decode cX5_drop 46 = .ok (.aload_n 0, 1) := by decide +kernel
theorem dX5_drop_47 : decode cX5_drop 47 = .ok (.getfield 19, 3) := by decide +kernel
theorem dX5_drop_50 : decode cX5_drop 50 = .ok (.invokevirtual 88, 3) := by decide +kernel
theorem dX5_drop_53 : decode cX5_drop 53 = .ok (.aload_n 0, 1) := by decide +kernel
theorem dX5_drop_54 : decode cX5_drop 54 = .ok (.aload_n 0, 1) := by decide +kernel
theorem dX5_drop_55 : decode cX5_drop 55 = .ok (.getfield 40, 3) := by decide +kernel
theorem dX5_drop_58 : decode cX5_drop 58 = .ok (.iload_n 1, 1) := by decide +kernel
theorem dX5_drop_59 : decode cX5_drop 59 = .ok (.invokestatic 91, 3) := by decide +kernel
theorem dX5_drop_62 : decode cX5_drop 62 = .ok (.putfield 40, 3) := by decide +kernel
theorem dX5_drop_65 : decode cX5_drop 65 = .ok (.iconst 1, 1) := by decide +kernel
theorem dX5_drop_66 : decode cX5_drop 66 = .ok (.ireturn, 1) := by decide +kernel
theorem dX5_cost_0 : decode cX5_cost 0 = .ok (.aload_n 0, 1) := by decide +kernel
theorem dX5_cost_1 : decode cX5_cost 1 = .ok (.getfield 19, 3) := by decide +kernel
theorem dX5_cost_4 : decode cX5_cost 4 = .ok (.iload_n 1, 1) := by decide +kernel
theorem dX5_cost_5 : decode cX5_cost 5 = .ok (.invokevirtual 78, 3) := by decide +kernel
theorem dX5_cost_8 : decode cX5_cost 8 = .ok (.ifCond .eq 15, 3) := by decide +kernel
theorem dX5_cost_11 : decode cX5_cost 11 = .ok (.aload_n 0, 1) := by decide +kernel
theorem dX5_cost_12 : decode cX5_cost 12 = .ok (.getfield 19, 3) := by decide +kernel
theorem dX5_cost_15 : decode cX5_cost 15 = .ok (.iload_n 1, 1) := by decide +kernel
theorem dX5_cost_16 : decode cX5_cost 16 = .ok (.invokevirtual 82, 3) := by decide +kernel
theorem dX5_cost_19 : decode cX5_cost 19 = .ok (.i2l, 1) := by decide +kernel
theorem dX5_cost_20 : decode cX5_cost 20 = .ok (.goto 6, 3) := by decide +kernel
theorem dX5_cost_23 : decode cX5_cost 23 = .ok (.ldc2_w 96, 3) := by decide +kernel
theorem dX5_cost_26 : decode cX5_cost 26 = .ok (.lreturn, 1) := by decide +kernel
theorem dX5_sum_0 : decode cX5_sum 0 = .ok (.iload_n 1, 1) := by decide +kernel
theorem dX5_sum_1 : decode cX5_sum 1 = .ok (.ifCond .ge 9, 3) := by decide +kernel
theorem dX5_sum_4 : decode cX5_sum 4 = .ok (.ldc2_w 96, 3) := by decide +kernel
theorem dX5_sum_7 : decode cX5_sum 7 = .ok (.goto 11, 3) := by decide +kernel
theorem dX5_sum_10 : decode cX5_sum 10 = .ok (.aload_n 0, 1) := by decide +kernel
theorem dX5_sum_11 : decode cX5_sum 11 = .ok (.getfield 19, 3) := by decide +kernel
theorem dX5_sum_14 : decode cX5_sum 14 = .ok (.iload_n 1, 1) := by decide +kernel
theorem dX5_sum_15 : decode cX5_sum 15 = .ok (.invokevirtual 98, 3) := by decide +kernel
theorem dX5_sum_18 : decode cX5_sum 18 = .ok (.lreturn, 1) := by decide +kernel
theorem dX5_cls_0 : decode cX5_cls 0 = .ok (.lload_n 1, 1) := by decide +kernel
theorem dX5_cls_1 : decode cX5_cls 1 = .ok (.lconst 0, 1) := by decide +kernel
theorem dX5_cls_2 : decode cX5_cls 2 = .ok (.lcmp, 1) := by decide +kernel
theorem dX5_cls_3 : decode cX5_cls 3 = .ok (.ifCond .lt 17, 3) := by decide +kernel
theorem dX5_cls_6 : decode cX5_cls 6 = .ok (.lload_n 3, 1) := by decide +kernel
theorem dX5_cls_7 : decode cX5_cls 7 = .ok (.lload_n 1, 1) := by decide +kernel
theorem dX5_cls_8 : decode cX5_cls 8 = .ok (.lcmp, 1) := by decide +kernel
theorem dX5_cls_9 : decode cX5_cls 9 = .ok (.ifCond .lt 11, 3) := by decide +kernel
theorem dX5_cls_12 : decode cX5_cls 12 = .ok (.lload_n 3, 1) := by decide +kernel
theorem dX5_cls_13 : decode cX5_cls 13 = .ok (.ldc2_w 102, 3) := by decide +kernel
theorem dX5_cls_16 : decode cX5_cls 16 = .ok (.lcmp, 1) := by decide +kernel
theorem dX5_cls_17 : decode cX5_cls 17 = .ok (.ifCond .le 5, 3) := by decide +kernel
theorem dX5_cls_20 : decode cX5_cls 20 = .ok (.iconst (-1), 1) := by decide +kernel
theorem dX5_cls_21 : decode cX5_cls 21 = .ok (.ireturn, 1) := by decide +kernel
theorem dX5_cls_22 : decode cX5_cls 22 = .ok (.aload_n 0, 1) := by decide +kernel
theorem dX5_cls_23 : decode cX5_cls 23 = .ok (.getfield 26, 3) := by decide +kernel
theorem dX5_cls_26 : decode cX5_cls 26 = .ok (.lload_n 1, 1) := by decide +kernel
theorem dX5_cls_27 : decode cX5_cls 27 = .ok (.lload_n 3, 1) := by decide +kernel
theorem dX5_cls_28 : decode cX5_cls 28 = .ok (.invokevirtual 104, 3) := by decide +kernel
theorem dX5_cls_31 : decode cX5_cls 31 = .ok (.ireturn, 1) := by decide +kernel
theorem dX5_grade_0 : decode cX5_grade 0 = .ok (.aload_n 0, 1) := by decide +kernel
theorem dX5_grade_1 : decode cX5_grade 1 = .ok (.getfield 26, 3) := by decide +kernel
theorem dX5_grade_4 : decode cX5_grade 4 = .ok (.aload_n 0, 1) := by decide +kernel
theorem dX5_grade_5 : decode cX5_grade 5 = .ok (.getfield 19, 3) := by decide +kernel
theorem dX5_grade_8 : decode cX5_grade 8 = .ok (.invokevirtual 107, 3) := by decide +kernel
theorem dX5_grade_11 : decode cX5_grade 11 = .ok (.invokevirtual 111, 3) := by decide +kernel
theorem dX5_grade_14 : decode cX5_grade 14 = .ok (.ireturn, 1) := by decide +kernel
theorem dX5_rank_0 : decode cX5_rank 0 = .ok (.aload_n 0, 1) := by decide +kernel
theorem dX5_rank_1 : decode cX5_rank 1 = .ok (.getfield 19, 3) := by decide +kernel
theorem dX5_rank_4 : decode cX5_rank 4 = .ok (.invokevirtual 107, 3) := by decide +kernel
theorem dX5_rank_7 : decode cX5_rank 7 = .ok (.lstore_n 1, 1) := by decide +kernel
theorem dX5_rank_8 : decode cX5_rank 8 = .ok (.aload_n 0, 1) := by decide +kernel
theorem dX5_rank_9 : decode cX5_rank 9 = .ok (.getfield 26, 3) := by decide +kernel
theorem dX5_rank_12 : decode cX5_rank 12 = .ok (.lload_n 1, 1) := by decide +kernel
theorem dX5_rank_13 : decode cX5_rank 13 = .ok (.invokevirtual 111, 3) := by decide +kernel
theorem dX5_rank_16 : decode cX5_rank 16 = .ok (.iconst (-1), 1) := by decide +kernel
theorem dX5_rank_17 : decode cX5_rank 17 = .ok (.if_icmp .ne 7, 3) := by decide +kernel
theorem dX5_rank_20 : decode cX5_rank 20 = .ok (.iconst (-1), 1) := by decide +kernel
theorem dX5_rank_21 : decode cX5_rank 21 = .ok (.goto 11, 3) := by decide +kernel
theorem dX5_rank_24 : decode cX5_rank 24 = .ok (.aload_n 0, 1) := by decide +kernel
theorem dX5_rank_25 : decode cX5_rank 25 = .ok (.getfield 26, 3) := by decide +kernel
theorem dX5_rank_28 : decode cX5_rank 28 = .ok (.lload_n 1, 1) := by decide +kernel
theorem dX5_rank_29 : decode cX5_rank 29 = .ok (.invokevirtual 115, 3) := by decide +kernel
theorem dX5_rank_32 : decode cX5_rank 32 = .ok (.ireturn, 1) := by decide +kernel
theorem dX5_gap_0 : decode cX5_gap 0 = .ok (.lload_n 1, 1) := by decide +kernel
theorem dX5_gap_1 : decode cX5_gap 1 = .ok (.lconst 0, 1) := by decide +kernel
theorem dX5_gap_2 : decode cX5_gap 2 = .ok (.lcmp, 1) := by decide +kernel
theorem dX5_gap_3 : decode cX5_gap 3 = .ok (.ifCond .ge 9, 3) := by decide +kernel
theorem dX5_gap_6 : decode cX5_gap 6 = .ok (.ldc2_w 96, 3) := by decide +kernel
theorem dX5_gap_9 : decode cX5_gap 9 = .ok (.goto 11, 3) := by decide +kernel
theorem dX5_gap_12 : decode cX5_gap 12 = .ok (.aload_n 0, 1) := by decide +kernel
theorem dX5_gap_13 : decode cX5_gap 13 = .ok (.getfield 26, 3) := by decide +kernel
theorem dX5_gap_16 : decode cX5_gap 16 = .ok (.lload_n 1, 1) := by decide +kernel
theorem dX5_gap_17 : decode cX5_gap 17 = .ok (.invokevirtual 118, 3) := by decide +kernel
theorem dX5_gap_20 : decode cX5_gap 20 = .ok (.lreturn, 1) := by decide +kernel
theorem dX5_stuck_0 : decode cX5_stuck 0 = .ok (.iload_n 1, 1) := by decide +kernel
theorem dX5_stuck_1 : decode cX5_stuck 1 = .ok (.ifCond .ge 7, 3) := by decide +kernel
theorem dX5_stuck_4 : decode cX5_stuck 4 = .ok (.iconst (-1), 1) := by decide +kernel
theorem dX5_stuck_5 : decode cX5_stuck 5 = .ok (.goto 11, 3) := by decide +kernel
theorem dX5_stuck_8 : decode cX5_stuck 8 = .ok (.aload_n 0, 1) := by decide +kernel
theorem dX5_stuck_9 : decode cX5_stuck 9 = .ok (.getfield 19, 3) := by decide +kernel
theorem dX5_stuck_12 : decode cX5_stuck 12 = .ok (.iload_n 1, 1) := by decide +kernel
theorem dX5_stuck_13 : decode cX5_stuck 13 = .ok (.invokevirtual 122, 3) := by decide +kernel
theorem dX5_stuck_16 : decode cX5_stuck 16 = .ok (.ireturn, 1) := by decide +kernel
theorem dX5_run_0 : decode cX5_run 0 = .ok (.aload_n 0, 1) := by decide +kernel
theorem dX5_run_1 : decode cX5_run 1 = .ok (.getfield 19, 3) := by decide +kernel
theorem dX5_run_4 : decode cX5_run 4 = .ok (.invokevirtual 125, 3) := by decide +kernel
theorem dX5_run_7 : decode cX5_run 7 = .ok (.ireturn, 1) := by decide +kernel
theorem dX5_hardest_0 : decode cX5_hardest 0 = .ok (.aload_n 0, 1) := by decide +kernel
theorem dX5_hardest_1 : decode cX5_hardest 1 = .ok (.getfield 10, 3) := by decide +kernel
theorem dX5_hardest_4 : decode cX5_hardest 4 = .ok (.invokevirtual 128, 3) := by decide +kernel
theorem dX5_hardest_7 : decode cX5_hardest 7 = .ok (.ireturn, 1) := by decide +kernel
theorem dX5_go_0 : decode cX5_go 0 = .ok (.iload_n 1, 1) := by decide +kernel
theorem dX5_go_1 : decode cX5_go 1 = .ok (.iconst 0, 1) := by decide +kernel
theorem dX5_go_2 : decode cX5_go 2 = .ok (.aload_n 0, 1) := by decide +kernel
theorem dX5_go_3 : decode cX5_go 3 = .ok (.getfield 19, 3) := by decide +kernel
theorem dX5_go_6 : decode cX5_go 6 = .ok (.invokevirtual 74, 3) := by decide +kernel
theorem dX5_go_9 : decode cX5_go 9 = .ok (.invokestatic 43, 3) := by decide +kernel
theorem dX5_go_12 : decode cX5_go 12 = .ok (.ifCond .ne 5, 3) := by decide +kernel
theorem dX5_go_15 : decode cX5_go 15 = .ok (.iconst 0, 1) := by decide +kernel
theorem dX5_go_16 : decode cX5_go 16 = .ok (.ireturn, 1) := by decide +kernel
theorem dX5_go_17 : decode cX5_go 17 = .ok (.aload_n 0, 1) := by decide +kernel
theorem dX5_go_18 : decode cX5_go 18 = .ok (.iload_n 1, 1) := by decide +kernel
theorem dX5_go_19 : decode cX5_go 19 = .ok (.putfield 40, 3) := by decide +kernel
theorem dX5_go_22 : decode cX5_go 22 = .ok (.iconst 1, 1) := by decide +kernel
theorem dX5_go_23 : decode cX5_go 23 = .ok (.ireturn, 1) := by decide +kernel
theorem dX5_hint_0 : decode cX5_hint 0 = .ok (.iload_n 1, 1) := by decide +kernel
theorem dX5_hint_1 : decode cX5_hint 1 = .ok (.iconst 1, 1) := by decide +kernel
theorem dX5_hint_2 : decode cX5_hint 2 = .ok (.iconst 4, 1) := by decide +kernel
theorem dX5_hint_3 : decode cX5_hint 3 = .ok (.invokestatic 43, 3) := by decide +kernel
theorem dX5_hint_6 : decode cX5_hint 6 = .ok (.ifCond .eq 17, 3) := by decide +kernel
theorem dX5_hint_9 : decode cX5_hint 9 = .ok (.aload_n 0, 1) := by decide +kernel
theorem dX5_hint_10 : decode cX5_hint 10 = .ok (.getfield 19, 3) := by decide +kernel
theorem dX5_hint_13 : decode cX5_hint 13 = .ok (.aload_n 0, 1) := by decide +kernel
theorem dX5_hint_14 : decode cX5_hint 14 = .ok (.getfield 40, 3) := by decide +kernel
theorem dX5_hint_17 : decode cX5_hint 17 = .ok (.invokevirtual 78, 3) := by decide +kernel
theorem dX5_hint_20 : decode cX5_hint 20 = .ok (.ifCond .ne 5, 3) := by decide +kernel
theorem dX5_hint_23 : decode cX5_hint 23 = .ok (.iconst (-1), 1) := by decide +kernel
theorem dX5_hint_24 : decode cX5_hint 24 = .ok (.ireturn, 1) := by decide +kernel
theorem dX5_hint_25 : decode cX5_hint 25 = .ok (.aload_n 0, 1) := by decide +kernel
theorem dX5_hint_26 : decode cX5_hint 26 = .ok (.getfield 19, 3) := by decide +kernel
theorem dX5_hint_29 : decode cX5_hint 29 = .ok (.aload_n 0, 1) := by decide +kernel
theorem dX5_hint_30 : decode cX5_hint 30 = .ok (.getfield 40, 3) := by decide +kernel
theorem dX5_hint_33 : decode cX5_hint 33 = .ok (.invokevirtual 131, 3) := by decide +kernel
theorem dX5_hint_36 : decode cX5_hint 36 = .ok (.ifCond .eq 11, 3) := by decide +kernel
theorem dX5_hint_39 : decode cX5_hint 39 = .ok (.aload_n 0, 1) := by decide +kernel
theorem dX5_hint_40 : decode cX5_hint 40 = .ok (.iload_n 1, 1) := by decide +kernel
theorem dX5_hint_41 : decode cX5_hint 41 = .ok (.invokevirtual 134, 3) := by decide +kernel
theorem dX5_hint_44 : decode cX5_hint 44 = .ok (.goto 8, 3) := by decide +kernel
theorem dX5_hint_47 : decode cX5_hint 47 = .ok (.aload_n 0, 1) := by decide +kernel
theorem dX5_hint_48 : decode cX5_hint 48 = .ok (.iload_n 1, 1) := by decide +kernel
theorem dX5_hint_49 : decode cX5_hint 49 = .ok (.invokevirtual 137, 3) := by decide +kernel
theorem dX5_hint_52 : decode cX5_hint 52 = .ok (.istore_n 2, 1) := by decide +kernel
theorem dX5_hint_53 : decode cX5_hint 53 = .ok (.iload_n 1, 1) := by decide +kernel
theorem dX5_hint_54 : decode cX5_hint 54 = .ok (.iconst 4, 1) := by decide +kernel
theorem dX5_hint_55 : decode cX5_hint 55 = .ok (.if_icmp .ne 13, 3) := by decide +kernel
theorem dX5_hint_58 : decode cX5_hint 58 = .ok (.aload_n 0, 1) := by decide +kernel
theorem dX5_hint_59 : decode cX5_hint 59 = .ok (.dup, 1) := by decide +kernel
theorem dX5_hint_60 : decode cX5_hint 60 = .ok (.getfield 40, 3) := by decide +kernel
theorem dX5_hint_63 : decode cX5_hint 63 = .ok (.iconst 1, 1) := by decide +kernel
theorem dX5_hint_64 : decode cX5_hint 64 = .ok (.iadd, 1) := by decide +kernel
theorem dX5_hint_65 : decode cX5_hint 65 = .ok (.putfield 40, 3) := by decide +kernel
theorem dX5_hint_68 : decode cX5_hint 68 = .ok (.iload_n 2, 1) := by decide +kernel
theorem dX5_hint_69 : decode cX5_hint 69 = .ok (.ireturn, 1) := by decide +kernel
theorem dX5_keep_0 : decode cX5_keep 0 = .ok (.aload_n 0, 1) := by decide +kernel
theorem dX5_keep_1 : decode cX5_keep 1 = .ok (.getfield 36, 3) := by decide +kernel
theorem dX5_keep_4 : decode cX5_keep 4 = .ok (.bipush 10, 2) := by decide +kernel
theorem dX5_keep_6 : decode cX5_keep 6 = .ok (.if_icmp .lt 5, 3) := by decide +kernel
theorem dX5_keep_9 : decode cX5_keep 9 = .ok (.iconst (-1), 1) := by decide +kernel
theorem dX5_keep_10 : decode cX5_keep 10 = .ok (.ireturn, 1) := by decide +kernel
theorem dX5_keep_11 : decode cX5_keep 11 = .ok (.aload_n 0, 1) := by decide +kernel
theorem dX5_keep_12 : decode cX5_keep 12 = .ok (.getfield 32, 3) := by decide +kernel
theorem dX5_keep_15 : decode cX5_keep 15 = .ok (.aload_n 0, 1) := by decide +kernel
theorem dX5_keep_16 : decode cX5_keep 16 = .ok (.getfield 36, 3) := by decide +kernel
theorem dX5_keep_19 : decode cX5_keep 19 = .ok (.aload_n 0, 1) := by decide +kernel
theorem dX5_keep_20 : decode cX5_keep 20 = .ok (.getfield 19, 3) := by decide +kernel
theorem dX5_keep_23 : decode cX5_keep 23 = .ok (.invokevirtual 140, 3) := by decide +kernel
theorem dX5_keep_26 : decode cX5_keep 26 = .ok (.aastore, 1) := by decide +kernel
theorem dX5_keep_27 : decode cX5_keep 27 = .ok (.aload_n 0, 1) := by decide +kernel
theorem dX5_keep_28 : decode cX5_keep 28 = .ok (.dup, 1) := by decide +kernel
theorem dX5_keep_29 : decode cX5_keep 29 = .ok (.getfield 36, 3) := by decide +kernel
theorem dX5_keep_32 : decode cX5_keep 32 = .ok (.iconst 1, 1) := by decide +kernel
theorem dX5_keep_33 : decode cX5_keep 33 = .ok (.iadd, 1) := by decide +kernel
theorem dX5_keep_34 : decode cX5_keep 34 = .ok (.putfield 36, 3) := by decide +kernel
theorem dX5_keep_37 : decode cX5_keep 37 = .ok (.aload_n 0, 1) := by decide +kernel
theorem dX5_keep_38 : decode cX5_keep 38 = .ok (.getfield 36, 3) := by decide +kernel
theorem dX5_keep_41 : decode cX5_keep 41 = .ok (.iconst 1, 1) := by decide +kernel
theorem dX5_keep_42 : decode cX5_keep 42 = .ok (.isub, 1) := by decide +kernel
theorem dX5_keep_43 : decode cX5_keep 43 = .ok (.ireturn, 1) := by decide +kernel
theorem dX5_compare_0 : decode cX5_compare 0 = .ok (.aload_n 0, 1) := by decide +kernel
theorem dX5_compare_1 : decode cX5_compare 1 = .ok (.iload_n 1, 1) := by decide +kernel
theorem dX5_compare_2 : decode cX5_compare 2 = .ok (.invokevirtual 144, 3) := by decide +kernel
theorem dX5_compare_5 : decode cX5_compare 5 = .ok (.astore_n 2, 1) := by decide +kernel
theorem dX5_compare_6 : decode cX5_compare 6 = .ok (.aload_n 2, 1) := by decide +kernel
theorem dX5_compare_7 : decode cX5_compare 7 = .ok (.ifnonnull 8, 3) := by decide +kernel
theorem dX5_compare_10 : decode cX5_compare 10 = .ok (.bipush (-2), 2) := by decide +kernel
theorem dX5_compare_12 : decode cX5_compare 12 = .ok (.goto 11, 3) := by decide +kernel
theorem dX5_compare_15 : decode cX5_compare 15 = .ok (.aload_n 0, 1) := by decide +kernel
theorem dX5_compare_16 : decode cX5_compare 16 = .ok (.getfield 19, 3) := by decide +kernel
theorem dX5_compare_19 : decode cX5_compare 19 = .ok (.aload_n 2, 1) := by decide +kernel
theorem dX5_compare_20 : decode cX5_compare 20 = .ok (.invokevirtual 148, 3) := by decide +kernel
theorem dX5_compare_23 : decode cX5_compare 23 = .ok (.ireturn, 1) := by decide +kernel
theorem dX5_same_0 : decode cX5_same 0 = .ok (.aload_n 0, 1) := by decide +kernel
theorem dX5_same_1 : decode cX5_same 1 = .ok (.iload_n 1, 1) := by decide +kernel
theorem dX5_same_2 : decode cX5_same 2 = .ok (.invokevirtual 144, 3) := by decide +kernel
theorem dX5_same_5 : decode cX5_same 5 = .ok (.astore_n 2, 1) := by decide +kernel
theorem dX5_same_6 : decode cX5_same 6 = .ok (.aload_n 2, 1) := by decide +kernel
theorem dX5_same_7 : decode cX5_same 7 = .ok (.ifnull 18, 3) := by decide +kernel
theorem dX5_same_10 : decode cX5_same 10 = .ok (.aload_n 0, 1) := by decide +kernel
theorem dX5_same_11 : decode cX5_same 11 = .ok (.getfield 19, 3) := by decide +kernel
theorem dX5_same_14 : decode cX5_same 14 = .ok (.aload_n 2, 1) := by decide +kernel
theorem dX5_same_15 : decode cX5_same 15 = .ok (.invokevirtual 152, 3) := by decide +kernel
theorem dX5_same_18 : decode cX5_same 18 = .ok (.ifCond .eq 7, 3) := by decide +kernel
theorem dX5_same_21 : decode cX5_same 21 = .ok (.iconst 1, 1) := by decide +kernel
theorem dX5_same_22 : decode cX5_same 22 = .ok (.goto 4, 3) := by decide +kernel
theorem dX5_same_25 : decode cX5_same 25 = .ok (.iconst 0, 1) := by decide +kernel
theorem dX5_same_26 : decode cX5_same 26 = .ok (.ireturn, 1) := by decide +kernel
theorem dX5_hintOfGuess_0 : decode cX5_hintOfGuess 0 = .ok (.iload_n 1, 1) := by decide +kernel
theorem dX5_hintOfGuess_1 : decode cX5_hintOfGuess 1 = .ok (.iconst 4, 1) := by decide +kernel
theorem dX5_hintOfGuess_2 : decode cX5_hintOfGuess 2 = .ok (.if_icmp .ne 17, 3) := by decide +kernel
theorem dX5_hintOfGuess_5 : decode cX5_hintOfGuess 5 = .ok (.aload_n 0, 1) := by decide +kernel
theorem dX5_hintOfGuess_6 : decode cX5_hintOfGuess 6 = .ok (.getfield 19, 3) := by decide +kernel
theorem dX5_hintOfGuess_9 : decode cX5_hintOfGuess 9 = .ok (.aload_n 0, 1) := by decide +kernel
theorem dX5_hintOfGuess_10 : decode cX5_hintOfGuess 10 = .ok (.getfield 40, 3) := by decide +kernel
theorem dX5_hintOfGuess_13 : decode cX5_hintOfGuess 13 = .ok (.invokevirtual 156, 3) := by decide +kernel
theorem dX5_hintOfGuess_16 : decode cX5_hintOfGuess 16 = .ok (.goto 5, 3) := by decide +kernel
theorem dX5_hintOfGuess_19 : decode cX5_hintOfGuess 19 = .ok (.bipush (-2), 2) := by decide +kernel
theorem dX5_hintOfGuess_21 : decode cX5_hintOfGuess 21 = .ok (.ireturn, 1) := by decide +kernel
theorem dX5_hintOfRuleStep_0 : decode cX5_hintOfRuleStep 0 = .ok (.iload_n 1, 1) := by decide +kernel
theorem dX5_hintOfRuleStep_1 : decode cX5_hintOfRuleStep 1 = .ok (.tableswitch 66 1 3 #[27, 42, 54], 27) := by decide +kernel
theorem dX5_hintOfRuleStep_28 : decode cX5_hintOfRuleStep 28 = .ok (.aload_n 0, 1) := by decide +kernel
theorem dX5_hintOfRuleStep_29 : decode cX5_hintOfRuleStep 29 = .ok (.getfield 19, 3) := by decide +kernel
theorem dX5_hintOfRuleStep_32 : decode cX5_hintOfRuleStep 32 = .ok (.aload_n 0, 1) := by decide +kernel
theorem dX5_hintOfRuleStep_33 : decode cX5_hintOfRuleStep 33 = .ok (.getfield 40, 3) := by decide +kernel
theorem dX5_hintOfRuleStep_36 : decode cX5_hintOfRuleStep 36 = .ok (.invokevirtual 159, 3) := by decide +kernel
theorem dX5_hintOfRuleStep_39 : decode cX5_hintOfRuleStep 39 = .ok (.bipush 16, 2) := by decide +kernel
theorem dX5_hintOfRuleStep_41 : decode cX5_hintOfRuleStep 41 = .ok (.idiv, 1) := by decide +kernel
theorem dX5_hintOfRuleStep_42 : decode cX5_hintOfRuleStep 42 = .ok (.ireturn, 1) := by decide +kernel
theorem dX5_hintOfRuleStep_43 : decode cX5_hintOfRuleStep 43 = .ok (.aload_n 0, 1) := by decide +kernel
theorem dX5_hintOfRuleStep_44 : decode cX5_hintOfRuleStep 44 = .ok (.getfield 19, 3) := by decide +kernel
theorem dX5_hintOfRuleStep_47 : decode cX5_hintOfRuleStep 47 = .ok (.aload_n 0, 1) := by decide +kernel
theorem dX5_hintOfRuleStep_48 : decode cX5_hintOfRuleStep 48 = .ok (.getfield 40, 3) := by decide +kernel
theorem dX5_hintOfRuleStep_51 : decode cX5_hintOfRuleStep 51 = .ok (.invokevirtual 159, 3) := by decide +kernel
theorem dX5_hintOfRuleStep_54 : decode cX5_hintOfRuleStep 54 = .ok (.ireturn, 1) := by decide +kernel
theorem dX5_hintOfRuleStep_55 : decode cX5_hintOfRuleStep 55 = .ok (.aload_n 0, 1) := by decide +kernel
theorem dX5_hintOfRuleStep_56 : decode cX5_hintOfRuleStep 56 = .ok (.getfield 19, 3) := by decide +kernel
theorem dX5_hintOfRuleStep_59 : decode cX5_hintOfRuleStep 59 = .ok (.aload_n 0, 1) := by decide +kernel
theorem dX5_hintOfRuleStep_60 : decode cX5_hintOfRuleStep 60 = .ok (.getfield 40, 3) := by decide +kernel
theorem dX5_hintOfRuleStep_63 : decode cX5_hintOfRuleStep 63 = .ok (.invokevirtual 79, 3) := by decide +kernel
theorem dX5_hintOfRuleStep_66 : decode cX5_hintOfRuleStep 66 = .ok (.ireturn, 1) := by decide +kernel
theorem dX5_hintOfRuleStep_67 : decode cX5_hintOfRuleStep 67 = .ok (.aload_n 0, 1) := by decide +kernel
theorem dX5_hintOfRuleStep_68 : decode cX5_hintOfRuleStep 68 = .ok (.getfield 19, 3) := by decide +kernel
theorem dX5_hintOfRuleStep_71 : decode cX5_hintOfRuleStep 71 = .ok (.aload_n 0, 1) := by decide +kernel
theorem dX5_hintOfRuleStep_72 : decode cX5_hintOfRuleStep 72 = .ok (.getfield 40, 3) := by decide +kernel
theorem dX5_hintOfRuleStep_75 : decode cX5_hintOfRuleStep 75 = .ok (.invokevirtual 156, 3) := by decide +kernel
theorem dX5_hintOfRuleStep_78 : decode cX5_hintOfRuleStep 78 = .ok (.ireturn, 1) := by decide +kernel
theorem dX5_keptAt_0 : decode cX5_keptAt 0 = .ok (.iload_n 1, 1) := by decide +kernel
theorem dX5_keptAt_1 : decode cX5_keptAt 1 = .ok (.ifCond .lt 20, 3) := by decide +kernel
theorem dX5_keptAt_4 : decode cX5_keptAt 4 = .ok (.iload_n 1, 1) := by decide +kernel
theorem dX5_keptAt_5 : decode cX5_keptAt 5 = .ok (.aload_n 0, 1) := by decide +kernel
theorem dX5_keptAt_6 : decode cX5_keptAt 6 = .ok (.getfield 36, 3) := by decide +kernel
theorem dX5_keptAt_9 : decode cX5_keptAt 9 = .ok (.if_icmp .ge 12, 3) := by decide +kernel
theorem dX5_keptAt_12 : decode cX5_keptAt 12 = .ok (.aload_n 0, 1) := by decide +kernel
theorem dX5_keptAt_13 : decode cX5_keptAt 13 = .ok (.getfield 32, 3) := by decide +kernel
theorem dX5_keptAt_16 : decode cX5_keptAt 16 = .ok (.iload_n 1, 1) := by decide +kernel
theorem dX5_keptAt_17 : decode cX5_keptAt 17 = .ok (.aaload, 1) := by decide +kernel
theorem dX5_keptAt_18 : decode cX5_keptAt 18 = .ok (.goto 4, 3) := by decide +kernel
theorem dX5_keptAt_21 : decode cX5_keptAt 21 = .ok (.aconst_null, 1) := by decide +kernel
theorem dX5_keptAt_22 : decode cX5_keptAt 22 = .ok (.areturn, 1) := by decide +kernel
theorem dX5_isWithin_0 : decode cX5_isWithin 0 = .ok (.iload_n 0, 1) := by decide +kernel
theorem dX5_isWithin_1 : decode cX5_isWithin 1 = .ok (.iload_n 1, 1) := by decide +kernel
theorem dX5_isWithin_2 : decode cX5_isWithin 2 = .ok (.if_icmp .lt 12, 3) := by decide +kernel
theorem dX5_isWithin_5 : decode cX5_isWithin 5 = .ok (.iload_n 0, 1) := by decide +kernel
theorem dX5_isWithin_6 : decode cX5_isWithin 6 = .ok (.iload_n 2, 1) := by decide +kernel
theorem dX5_isWithin_7 : decode cX5_isWithin 7 = .ok (.if_icmp .gt 7, 3) := by decide +kernel
theorem dX5_isWithin_10 : decode cX5_isWithin 10 = .ok (.iconst 1, 1) := by decide +kernel
theorem dX5_isWithin_11 : decode cX5_isWithin 11 = .ok (.goto 4, 3) := by decide +kernel
theorem dX5_isWithin_14 : decode cX5_isWithin 14 = .ok (.iconst 0, 1) := by decide +kernel
theorem dX5_isWithin_15 : decode cX5_isWithin 15 = .ok (.ireturn, 1) := by decide +kernel
theorem dX5_order_0 : decode cX5_order 0 = .ok (.lload_n 0, 1) := by decide +kernel
theorem dX5_order_1 : decode cX5_order 1 = .ok (.lload_n 2, 1) := by decide +kernel
theorem dX5_order_2 : decode cX5_order 2 = .ok (.lcmp, 1) := by decide +kernel
theorem dX5_order_3 : decode cX5_order 3 = .ok (.ifCond .ge 7, 3) := by decide +kernel
theorem dX5_order_6 : decode cX5_order 6 = .ok (.iconst (-1), 1) := by decide +kernel
theorem dX5_order_7 : decode cX5_order 7 = .ok (.goto 14, 3) := by decide +kernel
theorem dX5_order_10 : decode cX5_order 10 = .ok (.lload_n 0, 1) := by decide +kernel
theorem dX5_order_11 : decode cX5_order 11 = .ok (.lload_n 2, 1) := by decide +kernel
theorem dX5_order_12 : decode cX5_order 12 = .ok (.lcmp, 1) := by decide +kernel
theorem dX5_order_13 : decode cX5_order 13 = .ok (.ifCond .le 7, 3) := by decide +kernel
theorem dX5_order_16 : decode cX5_order 16 = .ok (.iconst 1, 1) := by decide +kernel
theorem dX5_order_17 : decode cX5_order 17 = .ok (.goto 4, 3) := by decide +kernel
theorem dX5_order_20 : decode cX5_order 20 = .ok (.iconst 0, 1) := by decide +kernel
theorem dX5_order_21 : decode cX5_order 21 = .ok (.ireturn, 1) := by decide +kernel
end
section
theorem dX6_init_0 : decode cX6_init 0 = .ok (.aload_n 0, 1) := by decide +kernel
theorem dX6_init_1 : decode cX6_init 1 = .ok (.invokespecial 1, 3) := by decide +kernel
theorem dX6_init_4 : decode cX6_init 4 = .ok (.aload_n 0, 1) := by decide +kernel
theorem dX6_init_5 : decode cX6_init 5 = .ok (.bipush 40, 2) := by decide +kernel
theorem dX6_init_7 : decode cX6_init 7 = .ok (.newarray .int, 2) := by decide +kernel
theorem dX6_init_9 : decode cX6_init 9 = .ok (.putfield 7, 3) := by decide +kernel
theorem dX6_init_12 : decode cX6_init 12 = .ok (.aload_n 0, 1) := by decide +kernel
theorem dX6_init_13 : decode cX6_init 13 = .ok (.bipush 40, 2) := by decide +kernel
theorem dX6_init_15 : decode cX6_init 15 = .ok (.newarray .int, 2) := by decide +kernel
theorem dX6_init_17 : decode cX6_init 17 = .ok (.putfield 13, 3) := by decide +kernel
theorem dX6_init_20 : decode cX6_init 20 = .ok (.aload_n 0, 1) := by decide +kernel
theorem dX6_init_21 : decode cX6_init 21 = .ok (.bipush 11, 2) := by decide +kernel
theorem dX6_init_23 : decode cX6_init 23 = .ok (.newarray .int, 2) := by decide +kernel
theorem dX6_init_25 : decode cX6_init 25 = .ok (.putfield 16, 3) := by decide +kernel
theorem dX6_init_28 : decode cX6_init 28 = .ok (.aload_n 0, 1) := by decide +kernel
theorem dX6_init_29 : decode cX6_init 29 = .ok (.sipush 2200, 3) := by decide +kernel
theorem dX6_init_32 : decode cX6_init 32 = .ok (.newarray .int, 2) := by decide +kernel
theorem dX6_init_34 : decode cX6_init 34 = .ok (.putfield 19, 3) := by decide +kernel
theorem dX6_init_37 : decode cX6_init 37 = .ok (.aload_n 0, 1) := by decide +kernel
theorem dX6_init_38 : decode cX6_init 38 = .ok (.sipush 2200, 3) := by decide +kernel
theorem dX6_init_41 : decode cX6_init 41 = .ok (.newarray .int, 2) := by decide +kernel
theorem dX6_init_43 : decode cX6_init 43 = .ok (.putfield 22, 3) := by decide +kernel
theorem dX6_init_46 : decode cX6_init 46 = .ok (.aload_n 0, 1) := by decide +kernel
theorem dX6_init_47 : decode cX6_init 47 = .ok (.sipush 2200, 3) := by decide +kernel
theorem dX6_init_50 : decode cX6_init 50 = .ok (.newarray .int, 2) := by decide +kernel
theorem dX6_init_52 : decode cX6_init 52 = .ok (.putfield 25, 3) := by decide +kernel
theorem dX6_init_55 : decode cX6_init 55 = .ok (.aload_n 0, 1) := by decide +kernel
theorem dX6_init_56 : decode cX6_init 56 = .ok (.bipush 20, 2) := by decide +kernel
theorem dX6_init_58 : decode cX6_init 58 = .ok (.newarray .long, 2) := by decide +kernel
theorem dX6_init_60 : decode cX6_init 60 = .ok (.putfield 28, 3) := by decide +kernel
theorem dX6_init_63 : decode cX6_init 63 = .ok (.aload_n 0, 1) := by decide +kernel
theorem dX6_init_64 : decode cX6_init 64 = .ok (.bipush 20, 2) := by decide +kernel
theorem dX6_init_66 : decode cX6_init 66 = .ok (.newarray .long, 2) := by decide +kernel
theorem dX6_init_68 : decode cX6_init 68 = .ok (.putfield 32, 3) := by decide +kernel
theorem dX6_init_71 : decode cX6_init 71 = .ok (.aload_n 0, 1) := by decide +kernel
theorem dX6_init_72 : decode cX6_init 72 = .ok (.sipush 256, 3) := by decide +kernel
theorem dX6_init_75 : decode cX6_init 75 = .ok (.newarray .boolean, 2) := by decide +kernel
theorem dX6_init_77 : decode cX6_init 77 = .ok (.putfield 35, 3) := by decide +kernel
theorem dX6_init_80 : decode cX6_init 80 = .ok (.aload_n 0, 1) := by decide +kernel
theorem dX6_init_81 : decode cX6_init 81 = .ok (.sipush 200, 3) := by decide +kernel
theorem dX6_init_84 : decode cX6_init 84 = .ok (.newarray .long, 2) := by decide +kernel
theorem dX6_init_86 : decode cX6_init 86 = .ok (.putfield 39, 3) := by decide +kernel
theorem dX6_init_89 : decode cX6_init 89 = .ok (.aload_n 0, 1) := by decide +kernel
theorem dX6_init_90 : decode cX6_init 90 = .ok (.sipush 200, 3) := by decide +kernel
theorem dX6_init_93 : decode cX6_init 93 = .ok (.newarray .long, 2) := by decide +kernel
theorem dX6_init_95 : decode cX6_init 95 = .ok (.putfield 42, 3) := by decide +kernel
theorem dX6_init_98 : decode cX6_init 98 = .ok (.return_, 1) := by decide +kernel
theorem dX6_count_0 : decode cX6_count 0 = .ok (.aload_n 0, 1) := by decide +kernel
theorem dX6_count_1 : decode cX6_count 1 = .ok (.getfield 16, 3) := by decide +kernel
theorem dX6_count_4 : decode cX6_count 4 = .ok (.bipush 10, 2) := by decide +kernel
theorem dX6_count_6 : decode cX6_count 6 = .ok (.iaload, 1) := by decide +kernel
theorem dX6_count_7 : decode cX6_count 7 = .ok (.ireturn, 1) := by decide +kernel
theorem dX6_rule_0 : decode cX6_rule 0 = .ok (.aload_n 0, 1) := by decide +kernel
theorem dX6_rule_1 : decode cX6_rule 1 = .ok (.iconst 0, 1) := by decide +kernel
theorem dX6_rule_2 : decode cX6_rule 2 = .ok (.putfield 45, 3) := by decide +kernel
theorem dX6_rule_5 : decode cX6_rule 5 = .ok (.iload_n 1, 1) := by decide +kernel
theorem dX6_rule_6 : decode cX6_rule 6 = .ok (.ifCond .lt 29, 3) := by decide +kernel
theorem dX6_rule_9 : decode cX6_rule 9 = .ok (.iload_n 1, 1) := by decide +kernel
theorem dX6_rule_10 : decode cX6_rule 10 = .ok (.sipush 10000, 3) := by decide +kernel
theorem dX6_rule_13 : decode cX6_rule 13 = .ok (.if_icmp .gt 22, 3) := by decide +kernel
theorem dX6_rule_16 : decode cX6_rule 16 = .ok (.iload_n 2, 1) := by decide +kernel
theorem dX6_rule_17 : decode cX6_rule 17 = .ok (.ifCond .lt 18, 3) := by decide +kernel
theorem dX6_rule_20 : decode cX6_rule 20 = .ok (.iload_n 2, 1) := by decide +kernel
theorem dX6_rule_21 : decode cX6_rule 21 = .ok (.ldc 49, 2) := by decide +kernel
theorem dX6_rule_23 : decode cX6_rule 23 = .ok (.if_icmp .gt 12, 3) := by decide +kernel
theorem dX6_rule_26 : decode cX6_rule 26 = .ok (.aload_n 0, 1) := by decide +kernel
theorem dX6_rule_27 : decode cX6_rule 27 = .ok (.getfield 50, 3) := by decide +kernel
theorem dX6_rule_30 : decode cX6_rule 30 = .ok (.bipush 40, 2) := by decide +kernel
theorem dX6_rule_32 : decode cX6_rule 32 = .ok (.if_icmp .ne 5, 3) := by decide +kernel
theorem dX6_rule_35 : decode cX6_rule 35 = .ok (.iconst (-1), 1) := by decide +kernel
theorem dX6_rule_36 : decode cX6_rule 36 = .ok (.ireturn, 1) := by decide +kernel
theorem dX6_rule_37 : decode cX6_rule 37 = .ok (.aload_n 0, 1) := by decide +kernel
theorem dX6_rule_38 : decode cX6_rule 38 = .ok (.getfield 7, 3) := by decide +kernel
theorem dX6_rule_41 : decode cX6_rule 41 = .ok (.aload_n 0, 1) := by decide +kernel
theorem dX6_rule_42 : decode cX6_rule 42 = .ok (.getfield 50, 3) := by decide +kernel
theorem dX6_rule_45 : decode cX6_rule 45 = .ok (.iload_n 1, 1) := by decide +kernel
theorem dX6_rule_46 : decode cX6_rule 46 = .ok (.iastore, 1) := by decide +kernel
theorem dX6_rule_47 : decode cX6_rule 47 = .ok (.aload_n 0, 1) := by decide +kernel
theorem dX6_rule_48 : decode cX6_rule 48 = .ok (.getfield 13, 3) := by decide +kernel
theorem dX6_rule_51 : decode cX6_rule 51 = .ok (.aload_n 0, 1) := by decide +kernel
theorem dX6_rule_52 : decode cX6_rule 52 = .ok (.getfield 50, 3) := by decide +kernel
theorem dX6_rule_55 : decode cX6_rule 55 = .ok (.iload_n 2, 1) := by decide +kernel
theorem dX6_rule_56 : decode cX6_rule 56 = .ok (.iastore, 1) := by decide +kernel
theorem dX6_rule_57 : decode cX6_rule 57 = .ok (.aload_n 0, 1) := by decide +kernel
theorem dX6_rule_58 : decode cX6_rule 58 = .ok (.dup, 1) := by decide +kernel
theorem dX6_rule_59 : decode cX6_rule 59 = .ok (.getfield 50, 3) := by decide +kernel
theorem dX6_rule_62 : decode cX6_rule 62 = .ok (.iconst 1, 1) := by decide +kernel
theorem dX6_rule_63 : decode cX6_rule 63 = .ok (.iadd, 1) := by decide +kernel
theorem dX6_rule_64 : decode cX6_rule 64 = .ok (.putfield 50, 3) := by decide +kernel
theorem dX6_rule_67 : decode cX6_rule 67 = .ok (.aload_n 0, 1) := by decide +kernel
theorem dX6_rule_68 : decode cX6_rule 68 = .ok (.getfield 50, 3) := by decide +kernel
theorem dX6_rule_71 : decode cX6_rule 71 = .ok (.iconst 1, 1) := by decide +kernel
theorem dX6_rule_72 : decode cX6_rule 72 = .ok (.isub, 1) := by decide +kernel
theorem dX6_rule_73 : decode cX6_rule 73 = .ok (.ireturn, 1) := by decide +kernel
theorem dX6_add_0 : decode cX6_add 0 = .ok (.sipush 2000, 3) := by decide +kernel
theorem dX6_add_3 : decode cX6_add 3 = .ok (.aload_n 0, 1) := by decide +kernel
theorem dX6_add_4 : decode cX6_add 4 = .ok (.invokevirtual 53, 3) := by decide +kernel
theorem dX6_add_7 : decode cX6_add 7 = .ok (.iadd, 1) := by decide +kernel
theorem dX6_add_8 : decode cX6_add 8 = .ok (.istore 4, 2) := by decide +kernel
theorem dX6_add_10 : decode cX6_add 10 = .ok (.aload_n 0, 1) := by decide +kernel
theorem dX6_add_11 : decode cX6_add 11 = .ok (.getfield 19, 3) := by decide +kernel
theorem dX6_add_14 : decode cX6_add 14 = .ok (.iload 4, 2) := by decide +kernel
theorem dX6_add_16 : decode cX6_add 16 = .ok (.iload_n 1, 1) := by decide +kernel
theorem dX6_add_17 : decode cX6_add 17 = .ok (.iastore, 1) := by decide +kernel
theorem dX6_add_18 : decode cX6_add 18 = .ok (.aload_n 0, 1) := by decide +kernel
theorem dX6_add_19 : decode cX6_add 19 = .ok (.getfield 22, 3) := by decide +kernel
theorem dX6_add_22 : decode cX6_add 22 = .ok (.iload 4, 2) := by decide +kernel
theorem dX6_add_24 : decode cX6_add 24 = .ok (.iload_n 2, 1) := by decide +kernel
theorem dX6_add_25 : decode cX6_add 25 = .ok (.iastore, 1) := by decide +kernel
theorem dX6_add_26 : decode cX6_add 26 = .ok (.aload_n 0, 1) := by decide +kernel
theorem dX6_add_27 : decode cX6_add 27 = .ok (.getfield 25, 3) := by decide +kernel
theorem dX6_add_30 : decode cX6_add 30 = .ok (.iload 4, 2) := by decide +kernel
theorem dX6_add_32 : decode cX6_add 32 = .ok (.iload_n 3, 1) := by decide +kernel
theorem dX6_add_33 : decode cX6_add 33 = .ok (.iastore, 1) := by decide +kernel
theorem dX6_add_34 : decode cX6_add 34 = .ok (.aload_n 0, 1) := by decide +kernel
theorem dX6_add_35 : decode cX6_add 35 = .ok (.getfield 16, 3) := by decide +kernel
theorem dX6_add_38 : decode cX6_add 38 = .ok (.bipush 10, 2) := by decide +kernel
theorem dX6_add_40 : decode cX6_add 40 = .ok (.dup2, 1) := by decide +kernel
theorem dX6_add_41 : decode cX6_add 41 = .ok (.iaload, 1) := by decide +kernel
theorem dX6_add_42 : decode cX6_add 42 = .ok (.iconst 1, 1) := by decide +kernel
theorem dX6_add_43 : decode cX6_add 43 = .ok (.iadd, 1) := by decide +kernel
theorem dX6_add_44 : decode cX6_add 44 = .ok (.iastore, 1) := by decide +kernel
theorem dX6_add_45 : decode cX6_add 45 = .ok (.aload_n 0, 1) := by decide +kernel
theorem dX6_add_46 : decode cX6_add 46 = .ok (.invokevirtual 53, 3) := by decide +kernel
theorem dX6_add_49 : decode cX6_add 49 = .ok (.iconst 1, 1) := by decide +kernel
theorem dX6_add_50 : decode cX6_add 50 = .ok (.isub, 1) := by decide +kernel
theorem dX6_add_51 : decode cX6_add 51 = .ok (.ireturn, 1) := by decide +kernel
theorem dX6_used_0 : decode cX6_used 0 = .ok (.aload_n 0, 1) := by decide +kernel
theorem dX6_used_1 : decode cX6_used 1 = .ok (.iconst 0, 1) := by decide +kernel
theorem dX6_used_2 : decode cX6_used 2 = .ok (.putfield 45, 3) := by decide +kernel
theorem dX6_used_5 : decode cX6_used 5 = .ok (.iload_n 1, 1) := by decide +kernel
theorem dX6_used_6 : decode cX6_used 6 = .ok (.ifCond .lt 43, 3) := by decide +kernel
theorem dX6_used_9 : decode cX6_used 9 = .ok (.iload_n 1, 1) := by decide +kernel
theorem dX6_used_10 : decode cX6_used 10 = .ok (.aload_n 0, 1) := by decide +kernel
theorem dX6_used_11 : decode cX6_used 11 = .ok (.getfield 50, 3) := by decide +kernel
theorem dX6_used_14 : decode cX6_used 14 = .ok (.if_icmp .ge 35, 3) := by decide +kernel
theorem dX6_used_17 : decode cX6_used 17 = .ok (.iload_n 2, 1) := by decide +kernel
theorem dX6_used_18 : decode cX6_used 18 = .ok (.ifCond .lt 31, 3) := by decide +kernel
theorem dX6_used_21 : decode cX6_used 21 = .ok (.iload_n 2, 1) := by decide +kernel
theorem dX6_used_22 : decode cX6_used 22 = .ok (.sipush 255, 3) := by decide +kernel
theorem dX6_used_25 : decode cX6_used 25 = .ok (.if_icmp .gt 24, 3) := by decide +kernel
theorem dX6_used_28 : decode cX6_used 28 = .ok (.iload_n 3, 1) := by decide +kernel
theorem dX6_used_29 : decode cX6_used 29 = .ok (.iconst 1, 1) := by decide +kernel
theorem dX6_used_30 : decode cX6_used 30 = .ok (.if_icmp .lt 19, 3) := by decide +kernel
theorem dX6_used_33 : decode cX6_used 33 = .ok (.iload_n 3, 1) := by decide +kernel
theorem dX6_used_34 : decode cX6_used 34 = .ok (.bipush 9, 2) := by decide +kernel
theorem dX6_used_36 : decode cX6_used 36 = .ok (.if_icmp .gt 13, 3) := by decide +kernel
theorem dX6_used_39 : decode cX6_used 39 = .ok (.aload_n 0, 1) := by decide +kernel
theorem dX6_used_40 : decode cX6_used 40 = .ok (.invokevirtual 53, 3) := by decide +kernel
theorem dX6_used_43 : decode cX6_used 43 = .ok (.sipush 200, 3) := by decide +kernel
theorem dX6_used_46 : decode cX6_used 46 = .ok (.if_icmp .ne 5, 3) := by decide +kernel
theorem dX6_used_49 : decode cX6_used 49 = .ok (.iconst (-1), 1) := by decide +kernel
theorem dX6_used_50 : decode cX6_used 50 = .ok (.ireturn, 1) := by decide +kernel
theorem dX6_used_51 : decode cX6_used 51 = .ok (.aload_n 0, 1) := by decide +kernel
theorem dX6_used_52 : decode cX6_used 52 = .ok (.iload_n 1, 1) := by decide +kernel
theorem dX6_used_53 : decode cX6_used 53 = .ok (.iload_n 2, 1) := by decide +kernel
theorem dX6_used_54 : decode cX6_used 54 = .ok (.iload_n 3, 1) := by decide +kernel
theorem dX6_used_55 : decode cX6_used 55 = .ok (.invokevirtual 57, 3) := by decide +kernel
theorem dX6_used_58 : decode cX6_used 58 = .ok (.ireturn, 1) := by decide +kernel
theorem dX6_guess_0 : decode cX6_guess 0 = .ok (.aload_n 0, 1) := by decide +kernel
theorem dX6_guess_1 : decode cX6_guess 1 = .ok (.iconst 0, 1) := by decide +kernel
theorem dX6_guess_2 : decode cX6_guess 2 = .ok (.putfield 45, 3) := by decide +kernel
theorem dX6_guess_5 : decode cX6_guess 5 = .ok (.iload_n 1, 1) := by decide +kernel
theorem dX6_guess_6 : decode cX6_guess 6 = .ok (.iconst 1, 1) := by decide +kernel
theorem dX6_guess_7 : decode cX6_guess 7 = .ok (.if_icmp .lt 19, 3) := by decide +kernel
theorem dX6_guess_10 : decode cX6_guess 10 = .ok (.iload_n 1, 1) := by decide +kernel
theorem dX6_guess_11 : decode cX6_guess 11 = .ok (.bipush 20, 2) := by decide +kernel
theorem dX6_guess_13 : decode cX6_guess 13 = .ok (.if_icmp .gt 13, 3) := by decide +kernel
theorem dX6_guess_16 : decode cX6_guess 16 = .ok (.aload_n 0, 1) := by decide +kernel
theorem dX6_guess_17 : decode cX6_guess 17 = .ok (.invokevirtual 53, 3) := by decide +kernel
theorem dX6_guess_20 : decode cX6_guess 20 = .ok (.sipush 200, 3) := by decide +kernel
theorem dX6_guess_23 : decode cX6_guess 23 = .ok (.if_icmp .ne 5, 3) := by decide +kernel
theorem dX6_guess_26 : decode cX6_guess 26 = .ok (.iconst (-1), 1) := by decide +kernel
theorem dX6_guess_27 : decode cX6_guess 27 = .ok (.ireturn, 1) := by decide +kernel
theorem dX6_guess_28 : decode cX6_guess 28 = .ok (.aload_n 0, 1) := by decide +kernel
theorem dX6_guess_29 : decode cX6_guess 29 = .ok (.iconst (-1), 1) := by decide +kernel
theorem dX6_guess_30 : decode cX6_guess 30 = .ok (.iload_n 1, 1) := by decide +kernel
theorem dX6_guess_31 : decode cX6_guess 31 = .ok (.iconst 0, 1) := by decide +kernel
theorem dX6_guess_32 : decode cX6_guess 32 = .ok (.invokevirtual 57, 3) := by decide +kernel
theorem dX6_guess_35 : decode cX6_guess 35 = .ok (.ireturn, 1) := by decide +kernel
theorem dX6_drop_0 : decode cX6_drop 0 = .ok (.aload_n 0, 1) := by decide +kernel
theorem dX6_drop_1 : decode cX6_drop 1 = .ok (.iconst 0, 1) := by decide +kernel
theorem dX6_drop_2 : decode cX6_drop 2 = .ok (.putfield 45, 3) := by decide +kernel
theorem dX6_drop_5 : decode cX6_drop 5 = .ok (.aload_n 0, 1) := by decide +kernel
theorem dX6_drop_6 : decode cX6_drop 6 = .ok (.invokevirtual 53, 3) := by decide +kernel
theorem dX6_drop_9 : decode cX6_drop 9 = .ok (.ifCond .ne 5, 3) := by decide +kernel
theorem dX6_drop_12 : decode cX6_drop 12 = .ok (.iconst 0, 1) := by decide +kernel
theorem dX6_drop_13 : decode cX6_drop 13 = .ok (.ireturn, 1) := by decide +kernel
theorem dX6_drop_14 : decode cX6_drop 14 = .ok (.aload_n 0, 1) := by decide +kernel
theorem dX6_drop_15 : decode cX6_drop 15 = .ok (.getfield 61, 3) := by decide +kernel
theorem dX6_drop_18 : decode cX6_drop 18 = .ok (.aload_n 0, 1) := by decide +kernel
theorem dX6_drop_19 : decode cX6_drop 19 = .ok (.invokevirtual 53, 3) := by decide +kernel
theorem dX6_drop_22 : decode cX6_drop 22 = .ok (.if_icmp .ne 13, 3) := by decide +kernel
theorem dX6_drop_25 : decode cX6_drop 25 = .ok (.aload_n 0, 1) := by decide +kernel
theorem dX6_drop_26 : decode cX6_drop 26 = .ok (.dup, 1) := by decide +kernel
theorem dX6_drop_27 : decode cX6_drop 27 = .ok (.getfield 61, 3) := by decide +kernel
theorem dX6_drop_30 : decode cX6_drop 30 = .ok (.iconst 1, 1) := by decide +kernel
theorem dX6_drop_31 : decode cX6_drop 31 = .ok (.isub, 1) := by decide +kernel
theorem dX6_drop_32 : decode cX6_drop 32 = .ok (.putfield 61, 3) := by decide +kernel
theorem dX6_drop_35 : decode cX6_drop 35 = .ok (.aload_n 0, 1) := by decide +kernel
theorem dX6_drop_36 : decode cX6_drop 36 = .ok (.getfield 16, 3) := by decide +kernel
theorem dX6_drop_39 : decode cX6_drop 39 = .ok (.bipush 10, 2) := by decide +kernel
theorem dX6_drop_41 : decode cX6_drop 41 = .ok (.dup2, 1) := by decide +kernel
theorem dX6_drop_42 : decode cX6_drop 42 = .ok (.iaload, 1) := by decide +kernel
theorem dX6_drop_43 : decode cX6_drop 43 = .ok (.iconst 1, 1) := by decide +kernel
theorem dX6_drop_44 : decode cX6_drop 44 = .ok (.isub, 1) := by decide +kernel
theorem dX6_drop_45 : decode cX6_drop 45 = .ok (.iastore, 1) := by decide +kernel
theorem dX6_drop_46 : decode cX6_drop 46 = .ok (.iconst 1, 1) := by decide +kernel
theorem dX6_drop_47 : decode cX6_drop 47 = .ok (.ireturn, 1) := by decide +kernel
theorem dX6_costOf_0 : decode cX6_costOf 0 = .ok (.sipush 200, 3) := by decide +kernel
theorem dX6_costOf_3 : decode cX6_costOf 3 = .ok (.iload_n 1, 1) := by decide +kernel
theorem dX6_costOf_4 : decode cX6_costOf 4 = .ok (.imul, 1) := by decide +kernel
theorem dX6_costOf_5 : decode cX6_costOf 5 = .ok (.iload_n 2, 1) := by decide +kernel
theorem dX6_costOf_6 : decode cX6_costOf 6 = .ok (.iadd, 1) := by decide +kernel
theorem dX6_costOf_7 : decode cX6_costOf 7 = .ok (.istore_n 3, 1) := by decide +kernel
theorem dX6_costOf_8 : decode cX6_costOf 8 = .ok (.aload_n 0, 1) := by decide +kernel
theorem dX6_costOf_9 : decode cX6_costOf 9 = .ok (.getfield 19, 3) := by decide +kernel
theorem dX6_costOf_12 : decode cX6_costOf 12 = .ok (.iload_n 3, 1) := by decide +kernel
theorem dX6_costOf_13 : decode cX6_costOf 13 = .ok (.iaload, 1) := by decide +kernel
theorem dX6_costOf_14 : decode cX6_costOf 14 = .ok (.iconst (-1), 1) := by decide +kernel
theorem dX6_costOf_15 : decode cX6_costOf 15 = .ok (.if_icmp .ne 38, 3) := by decide +kernel
theorem dX6_costOf_18 : decode cX6_costOf 18 = .ok (.ldc2_w 64, 3) := by decide +kernel
theorem dX6_costOf_21 : decode cX6_costOf 21 = .ok (.aload_n 0, 1) := by decide +kernel
theorem dX6_costOf_22 : decode cX6_costOf 22 = .ok (.getfield 22, 3) := by decide +kernel
theorem dX6_costOf_25 : decode cX6_costOf 25 = .ok (.iload_n 3, 1) := by decide +kernel
theorem dX6_costOf_26 : decode cX6_costOf 26 = .ok (.iaload, 1) := by decide +kernel
theorem dX6_costOf_27 : decode cX6_costOf 27 = .ok (.i2l, 1) := by decide +kernel
theorem dX6_costOf_28 : decode cX6_costOf 28 = .ok (.lmul, 1) := by decide +kernel
theorem dX6_costOf_29 : decode cX6_costOf 29 = .ok (.iload_n 2, 1) := by decide +kernel
theorem dX6_costOf_30 : decode cX6_costOf 30 = .ok (.ifCond .le 19, 3) := by decide +kernel
theorem dX6_costOf_33 : decode cX6_costOf 33 = .ok (.aload_n 0, 1) := by decide +kernel
theorem dX6_costOf_34 : decode cX6_costOf 34 = .ok (.getfield 19, 3) := by decide +kernel
theorem dX6_costOf_37 : decode cX6_costOf 37 = .ok (.iload_n 3, 1) := by decide +kernel
theorem dX6_costOf_38 : decode cX6_costOf 38 = .ok (.iconst 1, 1) := by decide +kernel
theorem dX6_costOf_39 : decode cX6_costOf 39 = .ok (.isub, 1) := by decide +kernel
theorem dX6_costOf_40 : decode cX6_costOf 40 = .ok (.iaload, 1) := by decide +kernel
theorem dX6_costOf_41 : decode cX6_costOf 41 = .ok (.iconst (-1), 1) := by decide +kernel
theorem dX6_costOf_42 : decode cX6_costOf 42 = .ok (.if_icmp .ne 7, 3) := by decide +kernel
theorem dX6_costOf_45 : decode cX6_costOf 45 = .ok (.iconst 2, 1) := by decide +kernel
theorem dX6_costOf_46 : decode cX6_costOf 46 = .ok (.goto 4, 3) := by decide +kernel
theorem dX6_costOf_49 : decode cX6_costOf 49 = .ok (.iconst 1, 1) := by decide +kernel
theorem dX6_costOf_50 : decode cX6_costOf 50 = .ok (.i2l, 1) := by decide +kernel
theorem dX6_costOf_51 : decode cX6_costOf 51 = .ok (.lmul, 1) := by decide +kernel
theorem dX6_costOf_52 : decode cX6_costOf 52 = .ok (.lreturn, 1) := by decide +kernel
theorem dX6_costOf_53 : decode cX6_costOf 53 = .ok (.iconst 1, 1) := by decide +kernel
theorem dX6_costOf_54 : decode cX6_costOf 54 = .ok (.istore 4, 2) := by decide +kernel
theorem dX6_costOf_56 : decode cX6_costOf 56 = .ok (.iconst 0, 1) := by decide +kernel
theorem dX6_costOf_57 : decode cX6_costOf 57 = .ok (.istore 5, 2) := by decide +kernel
theorem dX6_costOf_59 : decode cX6_costOf 59 = .ok (.iload 5, 2) := by decide +kernel
theorem dX6_costOf_61 : decode cX6_costOf 61 = .ok (.iload_n 2, 1) := by decide +kernel
theorem dX6_costOf_62 : decode cX6_costOf 62 = .ok (.if_icmp .ge 43, 3) := by decide +kernel
theorem dX6_costOf_65 : decode cX6_costOf 65 = .ok (.iload 4, 2) := by decide +kernel
theorem dX6_costOf_67 : decode cX6_costOf 67 = .ok (.ifCond .eq 29, 3) := by decide +kernel
theorem dX6_costOf_70 : decode cX6_costOf 70 = .ok (.aload_n 0, 1) := by decide +kernel
theorem dX6_costOf_71 : decode cX6_costOf 71 = .ok (.getfield 19, 3) := by decide +kernel
theorem dX6_costOf_74 : decode cX6_costOf 74 = .ok (.sipush 200, 3) := by decide +kernel
theorem dX6_costOf_77 : decode cX6_costOf 77 = .ok (.iload_n 1, 1) := by decide +kernel
theorem dX6_costOf_78 : decode cX6_costOf 78 = .ok (.imul, 1) := by decide +kernel
theorem dX6_costOf_79 : decode cX6_costOf 79 = .ok (.iload 5, 2) := by decide +kernel
theorem dX6_costOf_81 : decode cX6_costOf 81 = .ok (.iadd, 1) := by decide +kernel
theorem dX6_costOf_82 : decode cX6_costOf 82 = .ok (.iaload, 1) := by decide +kernel
theorem dX6_costOf_83 : decode cX6_costOf 83 = .ok (.aload_n 0, 1) := by decide +kernel
theorem dX6_costOf_84 : decode cX6_costOf 84 = .ok (.getfield 19, 3) := by decide +kernel
theorem dX6_costOf_87 : decode cX6_costOf 87 = .ok (.iload_n 3, 1) := by decide +kernel
theorem dX6_costOf_88 : decode cX6_costOf 88 = .ok (.iaload, 1) := by decide +kernel
theorem dX6_costOf_89 : decode cX6_costOf 89 = .ok (.if_icmp .eq 7, 3) := by decide +kernel
theorem dX6_costOf_92 : decode cX6_costOf 92 = .ok (.iconst 1, 1) := by decide +kernel
theorem dX6_costOf_93 : decode cX6_costOf 93 = .ok (.goto 4, 3) := by decide +kernel
theorem dX6_costOf_96 : decode cX6_costOf 96 = .ok (.iconst 0, 1) := by decide +kernel
theorem dX6_costOf_97 : decode cX6_costOf 97 = .ok (.istore 4, 2) := by decide +kernel
theorem dX6_costOf_99 : decode cX6_costOf 99 = .ok (.iinc 5 1, 3) := by decide +kernel
theorem dX6_costOf_102 : decode cX6_costOf 102 = .ok (.goto (-43), 3) := by decide +kernel
theorem dX6_costOf_105 : decode cX6_costOf 105 = .ok (.aload_n 0, 1) := by decide +kernel
theorem dX6_costOf_106 : decode cX6_costOf 106 = .ok (.getfield 7, 3) := by decide +kernel
theorem dX6_costOf_109 : decode cX6_costOf 109 = .ok (.aload_n 0, 1) := by decide +kernel
theorem dX6_costOf_110 : decode cX6_costOf 110 = .ok (.getfield 19, 3) := by decide +kernel
theorem dX6_costOf_113 : decode cX6_costOf 113 = .ok (.iload_n 3, 1) := by decide +kernel
theorem dX6_costOf_114 : decode cX6_costOf 114 = .ok (.iaload, 1) := by decide +kernel
theorem dX6_costOf_115 : decode cX6_costOf 115 = .ok (.iaload, 1) := by decide +kernel
theorem dX6_costOf_116 : decode cX6_costOf 116 = .ok (.i2l, 1) := by decide +kernel
theorem dX6_costOf_117 : decode cX6_costOf 117 = .ok (.bipush 12, 2) := by decide +kernel
theorem dX6_costOf_119 : decode cX6_costOf 119 = .ok (.aload_n 0, 1) := by decide +kernel
theorem dX6_costOf_120 : decode cX6_costOf 120 = .ok (.getfield 25, 3) := by decide +kernel
theorem dX6_costOf_123 : decode cX6_costOf 123 = .ok (.iload_n 3, 1) := by decide +kernel
theorem dX6_costOf_124 : decode cX6_costOf 124 = .ok (.iaload, 1) := by decide +kernel
theorem dX6_costOf_125 : decode cX6_costOf 125 = .ok (.isub, 1) := by decide +kernel
theorem dX6_costOf_126 : decode cX6_costOf 126 = .ok (.i2l, 1) := by decide +kernel
theorem dX6_costOf_127 : decode cX6_costOf 127 = .ok (.lmul, 1) := by decide +kernel
theorem dX6_costOf_128 : decode cX6_costOf 128 = .ok (.ldc2_w 66, 3) := by decide +kernel
theorem dX6_costOf_131 : decode cX6_costOf 131 = .ok (.ldiv, 1) := by decide +kernel
theorem dX6_costOf_132 : decode cX6_costOf 132 = .ok (.lstore 5, 2) := by decide +kernel
theorem dX6_costOf_134 : decode cX6_costOf 134 = .ok (.iload 4, 2) := by decide +kernel
theorem dX6_costOf_136 : decode cX6_costOf 136 = .ok (.ifCond .eq 21, 3) := by decide +kernel
theorem dX6_costOf_139 : decode cX6_costOf 139 = .ok (.lload 5, 2) := by decide +kernel
theorem dX6_costOf_141 : decode cX6_costOf 141 = .ok (.aload_n 0, 1) := by decide +kernel
theorem dX6_costOf_142 : decode cX6_costOf 142 = .ok (.getfield 13, 3) := by decide +kernel
theorem dX6_costOf_145 : decode cX6_costOf 145 = .ok (.aload_n 0, 1) := by decide +kernel
theorem dX6_costOf_146 : decode cX6_costOf 146 = .ok (.getfield 19, 3) := by decide +kernel
theorem dX6_costOf_149 : decode cX6_costOf 149 = .ok (.iload_n 3, 1) := by decide +kernel
theorem dX6_costOf_150 : decode cX6_costOf 150 = .ok (.iaload, 1) := by decide +kernel
theorem dX6_costOf_151 : decode cX6_costOf 151 = .ok (.iaload, 1) := by decide +kernel
theorem dX6_costOf_152 : decode cX6_costOf 152 = .ok (.i2l, 1) := by decide +kernel
theorem dX6_costOf_153 : decode cX6_costOf 153 = .ok (.ladd, 1) := by decide +kernel
theorem dX6_costOf_154 : decode cX6_costOf 154 = .ok (.goto 5, 3) := by decide +kernel
theorem dX6_costOf_157 : decode cX6_costOf 157 = .ok (.lload 5, 2) := by decide +kernel
theorem dX6_costOf_159 : decode cX6_costOf 159 = .ok (.lreturn, 1) := by decide +kernel
theorem dX6_sumOf_0 : decode cX6_sumOf 0 = .ok (.lconst 0, 1) := by decide +kernel
theorem dX6_sumOf_1 : decode cX6_sumOf 1 = .ok (.lstore_n 3, 1) := by decide +kernel
theorem dX6_sumOf_2 : decode cX6_sumOf 2 = .ok (.iconst 0, 1) := by decide +kernel
theorem dX6_sumOf_3 : decode cX6_sumOf 3 = .ok (.istore 5, 2) := by decide +kernel
theorem dX6_sumOf_5 : decode cX6_sumOf 5 = .ok (.iload 5, 2) := by decide +kernel
theorem dX6_sumOf_7 : decode cX6_sumOf 7 = .ok (.iload_n 2, 1) := by decide +kernel
theorem dX6_sumOf_8 : decode cX6_sumOf 8 = .ok (.if_icmp .ge 30, 3) := by decide +kernel
theorem dX6_sumOf_11 : decode cX6_sumOf 11 = .ok (.iload 5, 2) := by decide +kernel
theorem dX6_sumOf_13 : decode cX6_sumOf 13 = .ok (.aload_n 0, 1) := by decide +kernel
theorem dX6_sumOf_14 : decode cX6_sumOf 14 = .ok (.getfield 16, 3) := by decide +kernel
theorem dX6_sumOf_17 : decode cX6_sumOf 17 = .ok (.iload_n 1, 1) := by decide +kernel
theorem dX6_sumOf_18 : decode cX6_sumOf 18 = .ok (.iaload, 1) := by decide +kernel
theorem dX6_sumOf_19 : decode cX6_sumOf 19 = .ok (.if_icmp .ge 19, 3) := by decide +kernel
theorem dX6_sumOf_22 : decode cX6_sumOf 22 = .ok (.lload_n 3, 1) := by decide +kernel
theorem dX6_sumOf_23 : decode cX6_sumOf 23 = .ok (.aload_n 0, 1) := by decide +kernel
theorem dX6_sumOf_24 : decode cX6_sumOf 24 = .ok (.iload_n 1, 1) := by decide +kernel
theorem dX6_sumOf_25 : decode cX6_sumOf 25 = .ok (.iload 5, 2) := by decide +kernel
theorem dX6_sumOf_27 : decode cX6_sumOf 27 = .ok (.invokevirtual 68, 3) := by decide +kernel
theorem dX6_sumOf_30 : decode cX6_sumOf 30 = .ok (.ladd, 1) := by decide +kernel
theorem dX6_sumOf_31 : decode cX6_sumOf 31 = .ok (.lstore_n 3, 1) := by decide +kernel
theorem dX6_sumOf_32 : decode cX6_sumOf 32 = .ok (.iinc 5 1, 3) := by decide +kernel
theorem dX6_sumOf_35 : decode cX6_sumOf 35 = .ok (.goto (-30), 3) := by decide +kernel
theorem dX6_sumOf_38 : decode cX6_sumOf 38 = .ok (.lload_n 3, 1) := by decide +kernel
theorem dX6_sumOf_39 : decode cX6_sumOf 39 = .ok (.lreturn, 1) := by decide +kernel
theorem dX6_all_0 : decode cX6_all 0 = .ok (.aload_n 0, 1) := by decide +kernel
theorem dX6_all_1 : decode cX6_all 1 = .ok (.bipush 10, 2) := by decide +kernel
theorem dX6_all_3 : decode cX6_all 3 = .ok (.sipush 200, 3) := by decide +kernel
theorem dX6_all_6 : decode cX6_all 6 = .ok (.invokevirtual 72, 3) := by decide +kernel
theorem dX6_all_9 : decode cX6_all 9 = .ok (.lreturn, 1) := by decide +kernel
theorem dX6_cost_0 : decode cX6_cost 0 = .ok (.aload_n 0, 1) := by decide +kernel
theorem dX6_cost_1 : decode cX6_cost 1 = .ok (.iconst 0, 1) := by decide +kernel
theorem dX6_cost_2 : decode cX6_cost 2 = .ok (.putfield 45, 3) := by decide +kernel
theorem dX6_cost_5 : decode cX6_cost 5 = .ok (.iload_n 1, 1) := by decide +kernel
theorem dX6_cost_6 : decode cX6_cost 6 = .ok (.ifCond .lt 11, 3) := by decide +kernel
theorem dX6_cost_9 : decode cX6_cost 9 = .ok (.iload_n 1, 1) := by decide +kernel
theorem dX6_cost_10 : decode cX6_cost 10 = .ok (.aload_n 0, 1) := by decide +kernel
theorem dX6_cost_11 : decode cX6_cost 11 = .ok (.invokevirtual 53, 3) := by decide +kernel
theorem dX6_cost_14 : decode cX6_cost 14 = .ok (.if_icmp .lt 9, 3) := by decide +kernel
theorem dX6_cost_17 : decode cX6_cost 17 = .ok (.ldc2_w 75, 3) := by decide +kernel
theorem dX6_cost_20 : decode cX6_cost 20 = .ok (.goto 10, 3) := by decide +kernel
theorem dX6_cost_23 : decode cX6_cost 23 = .ok (.aload_n 0, 1) := by decide +kernel
theorem dX6_cost_24 : decode cX6_cost 24 = .ok (.bipush 10, 2) := by decide +kernel
theorem dX6_cost_26 : decode cX6_cost 26 = .ok (.iload_n 1, 1) := by decide +kernel
theorem dX6_cost_27 : decode cX6_cost 27 = .ok (.invokevirtual 68, 3) := by decide +kernel
theorem dX6_cost_30 : decode cX6_cost 30 = .ok (.lreturn, 1) := by decide +kernel
theorem dX6_sum_0 : decode cX6_sum 0 = .ok (.aload_n 0, 1) := by decide +kernel
theorem dX6_sum_1 : decode cX6_sum 1 = .ok (.iconst 0, 1) := by decide +kernel
theorem dX6_sum_2 : decode cX6_sum 2 = .ok (.putfield 45, 3) := by decide +kernel
theorem dX6_sum_5 : decode cX6_sum 5 = .ok (.iload_n 1, 1) := by decide +kernel
theorem dX6_sum_6 : decode cX6_sum 6 = .ok (.ifCond .ge 9, 3) := by decide +kernel
theorem dX6_sum_9 : decode cX6_sum 9 = .ok (.ldc2_w 75, 3) := by decide +kernel
theorem dX6_sum_12 : decode cX6_sum 12 = .ok (.goto 10, 3) := by decide +kernel
theorem dX6_sum_15 : decode cX6_sum 15 = .ok (.aload_n 0, 1) := by decide +kernel
theorem dX6_sum_16 : decode cX6_sum 16 = .ok (.bipush 10, 2) := by decide +kernel
theorem dX6_sum_18 : decode cX6_sum 18 = .ok (.iload_n 1, 1) := by decide +kernel
theorem dX6_sum_19 : decode cX6_sum 19 = .ok (.invokevirtual 72, 3) := by decide +kernel
theorem dX6_sum_22 : decode cX6_sum 22 = .ok (.lreturn, 1) := by decide +kernel
theorem dX6_cls_0 : decode cX6_cls 0 = .ok (.aload_n 0, 1) := by decide +kernel
theorem dX6_cls_1 : decode cX6_cls 1 = .ok (.iconst 0, 1) := by decide +kernel
theorem dX6_cls_2 : decode cX6_cls 2 = .ok (.putfield 45, 3) := by decide +kernel
theorem dX6_cls_5 : decode cX6_cls 5 = .ok (.lload_n 1, 1) := by decide +kernel
theorem dX6_cls_6 : decode cX6_cls 6 = .ok (.lconst 0, 1) := by decide +kernel
theorem dX6_cls_7 : decode cX6_cls 7 = .ok (.lcmp, 1) := by decide +kernel
theorem dX6_cls_8 : decode cX6_cls 8 = .ok (.ifCond .lt 26, 3) := by decide +kernel
theorem dX6_cls_11 : decode cX6_cls 11 = .ok (.lload_n 3, 1) := by decide +kernel
theorem dX6_cls_12 : decode cX6_cls 12 = .ok (.lload_n 1, 1) := by decide +kernel
theorem dX6_cls_13 : decode cX6_cls 13 = .ok (.lcmp, 1) := by decide +kernel
theorem dX6_cls_14 : decode cX6_cls 14 = .ok (.ifCond .lt 20, 3) := by decide +kernel
theorem dX6_cls_17 : decode cX6_cls 17 = .ok (.lload_n 3, 1) := by decide +kernel
theorem dX6_cls_18 : decode cX6_cls 18 = .ok (.ldc2_w 77, 3) := by decide +kernel
theorem dX6_cls_21 : decode cX6_cls 21 = .ok (.lcmp, 1) := by decide +kernel
theorem dX6_cls_22 : decode cX6_cls 22 = .ok (.ifCond .gt 12, 3) := by decide +kernel
theorem dX6_cls_25 : decode cX6_cls 25 = .ok (.aload_n 0, 1) := by decide +kernel
theorem dX6_cls_26 : decode cX6_cls 26 = .ok (.getfield 79, 3) := by decide +kernel
theorem dX6_cls_29 : decode cX6_cls 29 = .ok (.bipush 20, 2) := by decide +kernel
theorem dX6_cls_31 : decode cX6_cls 31 = .ok (.if_icmp .ne 5, 3) := by decide +kernel
theorem dX6_cls_34 : decode cX6_cls 34 = .ok (.iconst (-1), 1) := by decide +kernel
theorem dX6_cls_35 : decode cX6_cls 35 = .ok (.ireturn, 1) := by decide +kernel
theorem dX6_cls_36 : decode cX6_cls 36 = .ok (.iconst 0, 1) := by decide +kernel
theorem dX6_cls_37 : decode cX6_cls 37 = .ok (.istore 5, 2) := by decide +kernel
theorem dX6_cls_39 : decode cX6_cls 39 = .ok (.iload 5, 2) := by decide +kernel
theorem dX6_cls_41 : decode cX6_cls 41 = .ok (.aload_n 0, 1) := by decide +kernel
theorem dX6_cls_42 : decode cX6_cls 42 = .ok (.getfield 79, 3) := by decide +kernel
theorem dX6_cls_45 : decode cX6_cls 45 = .ok (.if_icmp .ge 35, 3) := by decide +kernel
theorem dX6_cls_48 : decode cX6_cls 48 = .ok (.lload_n 1, 1) := by decide +kernel
theorem dX6_cls_49 : decode cX6_cls 49 = .ok (.aload_n 0, 1) := by decide +kernel
theorem dX6_cls_50 : decode cX6_cls 50 = .ok (.getfield 32, 3) := by decide +kernel
theorem dX6_cls_53 : decode cX6_cls 53 = .ok (.iload 5, 2) := by decide +kernel
theorem dX6_cls_55 : decode cX6_cls 55 = .ok (.laload, 1) := by decide +kernel
theorem dX6_cls_56 : decode cX6_cls 56 = .ok (.lcmp, 1) := by decide +kernel
theorem dX6_cls_57 : decode cX6_cls 57 = .ok (.ifCond .gt 17, 3) := by decide +kernel
theorem dX6_cls_60 : decode cX6_cls 60 = .ok (.lload_n 3, 1) := by decide +kernel
theorem dX6_cls_61 : decode cX6_cls 61 = .ok (.aload_n 0, 1) := by decide +kernel
theorem dX6_cls_62 : decode cX6_cls 62 = .ok (.getfield 28, 3) := by decide +kernel
theorem dX6_cls_65 : decode cX6_cls 65 = .ok (.iload 5, 2) := by decide +kernel
theorem dX6_cls_67 : decode cX6_cls 67 = .ok (.laload, 1) := by decide +kernel
theorem dX6_cls_68 : decode cX6_cls 68 = .ok (.lcmp, 1) := by decide +kernel
theorem dX6_cls_69 : decode cX6_cls 69 = .ok (.ifCond .lt 5, 3) := by decide +kernel
theorem dX6_cls_72 : decode cX6_cls 72 = .ok (.iconst (-1), 1) := by decide +kernel
theorem dX6_cls_73 : decode cX6_cls 73 = .ok (.ireturn, 1) := by decide +kernel
theorem dX6_cls_74 : decode cX6_cls 74 = .ok (.iinc 5 1, 3) := by decide +kernel
theorem dX6_cls_77 : decode cX6_cls 77 = .ok (.goto (-38), 3) := by decide +kernel
theorem dX6_cls_80 : decode cX6_cls 80 = .ok (.aload_n 0, 1) := by decide +kernel
theorem dX6_cls_81 : decode cX6_cls 81 = .ok (.getfield 28, 3) := by decide +kernel
theorem dX6_cls_84 : decode cX6_cls 84 = .ok (.aload_n 0, 1) := by decide +kernel
theorem dX6_cls_85 : decode cX6_cls 85 = .ok (.getfield 79, 3) := by decide +kernel
theorem dX6_cls_88 : decode cX6_cls 88 = .ok (.lload_n 1, 1) := by decide +kernel
theorem dX6_cls_89 : decode cX6_cls 89 = .ok (.lastore, 1) := by decide +kernel
theorem dX6_cls_90 : decode cX6_cls 90 = .ok (.aload_n 0, 1) := by decide +kernel
theorem dX6_cls_91 : decode cX6_cls 91 = .ok (.getfield 32, 3) := by decide +kernel
theorem dX6_cls_94 : decode cX6_cls 94 = .ok (.aload_n 0, 1) := by decide +kernel
theorem dX6_cls_95 : decode cX6_cls 95 = .ok (.getfield 79, 3) := by decide +kernel
theorem dX6_cls_98 : decode cX6_cls 98 = .ok (.lload_n 3, 1) := by decide +kernel
theorem dX6_cls_99 : decode cX6_cls 99 = .ok (.lastore, 1) := by decide +kernel
theorem dX6_cls_100 : decode cX6_cls 100 = .ok (.aload_n 0, 1) := by decide +kernel
theorem dX6_cls_101 : decode cX6_cls 101 = .ok (.dup, 1) := by decide +kernel
theorem dX6_cls_102 : decode cX6_cls 102 = .ok (.getfield 79, 3) := by decide +kernel
theorem dX6_cls_105 : decode cX6_cls 105 = .ok (.iconst 1, 1) := by decide +kernel
theorem dX6_cls_106 : decode cX6_cls 106 = .ok (.iadd, 1) := by decide +kernel
theorem dX6_cls_107 : decode cX6_cls 107 = .ok (.putfield 79, 3) := by decide +kernel
theorem dX6_cls_110 : decode cX6_cls 110 = .ok (.aload_n 0, 1) := by decide +kernel
theorem dX6_cls_111 : decode cX6_cls 111 = .ok (.getfield 79, 3) := by decide +kernel
theorem dX6_cls_114 : decode cX6_cls 114 = .ok (.iconst 1, 1) := by decide +kernel
theorem dX6_cls_115 : decode cX6_cls 115 = .ok (.isub, 1) := by decide +kernel
theorem dX6_cls_116 : decode cX6_cls 116 = .ok (.ireturn, 1) := by decide +kernel
theorem dX6_classOf_0 : decode cX6_classOf 0 = .ok (.iconst 0, 1) := by decide +kernel
theorem dX6_classOf_1 : decode cX6_classOf 1 = .ok (.istore_n 3, 1) := by decide +kernel
theorem dX6_classOf_2 : decode cX6_classOf 2 = .ok (.iload_n 3, 1) := by decide +kernel
theorem dX6_classOf_3 : decode cX6_classOf 3 = .ok (.aload_n 0, 1) := by decide +kernel
theorem dX6_classOf_4 : decode cX6_classOf 4 = .ok (.getfield 79, 3) := by decide +kernel
theorem dX6_classOf_7 : decode cX6_classOf 7 = .ok (.if_icmp .ge 33, 3) := by decide +kernel
theorem dX6_classOf_10 : decode cX6_classOf 10 = .ok (.lload_n 1, 1) := by decide +kernel
theorem dX6_classOf_11 : decode cX6_classOf 11 = .ok (.aload_n 0, 1) := by decide +kernel
theorem dX6_classOf_12 : decode cX6_classOf 12 = .ok (.getfield 28, 3) := by decide +kernel
theorem dX6_classOf_15 : decode cX6_classOf 15 = .ok (.iload_n 3, 1) := by decide +kernel
theorem dX6_classOf_16 : decode cX6_classOf 16 = .ok (.laload, 1) := by decide +kernel
theorem dX6_classOf_17 : decode cX6_classOf 17 = .ok (.lcmp, 1) := by decide +kernel
theorem dX6_classOf_18 : decode cX6_classOf 18 = .ok (.ifCond .lt 16, 3) := by decide +kernel
theorem dX6_classOf_21 : decode cX6_classOf 21 = .ok (.lload_n 1, 1) := by decide +kernel
theorem dX6_classOf_22 : decode cX6_classOf 22 = .ok (.aload_n 0, 1) := by decide +kernel
theorem dX6_classOf_23 : decode cX6_classOf 23 = .ok (.getfield 32, 3) := by decide +kernel
theorem dX6_classOf_26 : decode cX6_classOf 26 = .ok (.iload_n 3, 1) := by decide +kernel
theorem dX6_classOf_27 : decode cX6_classOf 27 = .ok (.laload, 1) := by decide +kernel
theorem dX6_classOf_28 : decode cX6_classOf 28 = .ok (.lcmp, 1) := by decide +kernel
theorem dX6_classOf_29 : decode cX6_classOf 29 = .ok (.ifCond .gt 5, 3) := by decide +kernel
theorem dX6_classOf_32 : decode cX6_classOf 32 = .ok (.iload_n 3, 1) := by decide +kernel
theorem dX6_classOf_33 : decode cX6_classOf 33 = .ok (.ireturn, 1) := by decide +kernel
theorem dX6_classOf_34 : decode cX6_classOf 34 = .ok (.iinc 3 1, 3) := by decide +kernel
theorem dX6_classOf_37 : decode cX6_classOf 37 = .ok (.goto (-35), 3) := by decide +kernel
theorem dX6_classOf_40 : decode cX6_classOf 40 = .ok (.iconst (-1), 1) := by decide +kernel
theorem dX6_classOf_41 : decode cX6_classOf 41 = .ok (.ireturn, 1) := by decide +kernel
theorem dX6_grade_0 : decode cX6_grade 0 = .ok (.aload_n 0, 1) := by decide +kernel
theorem dX6_grade_1 : decode cX6_grade 1 = .ok (.iconst 0, 1) := by decide +kernel
theorem dX6_grade_2 : decode cX6_grade 2 = .ok (.putfield 45, 3) := by decide +kernel
theorem dX6_grade_5 : decode cX6_grade 5 = .ok (.aload_n 0, 1) := by decide +kernel
theorem dX6_grade_6 : decode cX6_grade 6 = .ok (.aload_n 0, 1) := by decide +kernel
theorem dX6_grade_7 : decode cX6_grade 7 = .ok (.invokevirtual 82, 3) := by decide +kernel
theorem dX6_grade_10 : decode cX6_grade 10 = .ok (.invokevirtual 86, 3) := by decide +kernel
theorem dX6_grade_13 : decode cX6_grade 13 = .ok (.ireturn, 1) := by decide +kernel
theorem dX6_rank_0 : decode cX6_rank 0 = .ok (.aload_n 0, 1) := by decide +kernel
theorem dX6_rank_1 : decode cX6_rank 1 = .ok (.iconst 0, 1) := by decide +kernel
theorem dX6_rank_2 : decode cX6_rank 2 = .ok (.putfield 45, 3) := by decide +kernel
theorem dX6_rank_5 : decode cX6_rank 5 = .ok (.aload_n 0, 1) := by decide +kernel
theorem dX6_rank_6 : decode cX6_rank 6 = .ok (.invokevirtual 82, 3) := by decide +kernel
theorem dX6_rank_9 : decode cX6_rank 9 = .ok (.lstore_n 1, 1) := by decide +kernel
theorem dX6_rank_10 : decode cX6_rank 10 = .ok (.aload_n 0, 1) := by decide +kernel
theorem dX6_rank_11 : decode cX6_rank 11 = .ok (.lload_n 1, 1) := by decide +kernel
theorem dX6_rank_12 : decode cX6_rank 12 = .ok (.invokevirtual 86, 3) := by decide +kernel
theorem dX6_rank_15 : decode cX6_rank 15 = .ok (.ifCond .ge 5, 3) := by decide +kernel
theorem dX6_rank_18 : decode cX6_rank 18 = .ok (.iconst (-1), 1) := by decide +kernel
theorem dX6_rank_19 : decode cX6_rank 19 = .ok (.ireturn, 1) := by decide +kernel
theorem dX6_rank_20 : decode cX6_rank 20 = .ok (.iconst 0, 1) := by decide +kernel
theorem dX6_rank_21 : decode cX6_rank 21 = .ok (.istore_n 3, 1) := by decide +kernel
theorem dX6_rank_22 : decode cX6_rank 22 = .ok (.iconst 0, 1) := by decide +kernel
theorem dX6_rank_23 : decode cX6_rank 23 = .ok (.istore 4, 2) := by decide +kernel
theorem dX6_rank_25 : decode cX6_rank 25 = .ok (.iload 4, 2) := by decide +kernel
theorem dX6_rank_27 : decode cX6_rank 27 = .ok (.aload_n 0, 1) := by decide +kernel
theorem dX6_rank_28 : decode cX6_rank 28 = .ok (.getfield 79, 3) := by decide +kernel
theorem dX6_rank_31 : decode cX6_rank 31 = .ok (.if_icmp .ge 29, 3) := by decide +kernel
theorem dX6_rank_34 : decode cX6_rank 34 = .ok (.iload_n 3, 1) := by decide +kernel
theorem dX6_rank_35 : decode cX6_rank 35 = .ok (.aload_n 0, 1) := by decide +kernel
theorem dX6_rank_36 : decode cX6_rank 36 = .ok (.getfield 32, 3) := by decide +kernel
theorem dX6_rank_39 : decode cX6_rank 39 = .ok (.iload 4, 2) := by decide +kernel
theorem dX6_rank_41 : decode cX6_rank 41 = .ok (.laload, 1) := by decide +kernel
theorem dX6_rank_42 : decode cX6_rank 42 = .ok (.lload_n 1, 1) := by decide +kernel
theorem dX6_rank_43 : decode cX6_rank 43 = .ok (.lcmp, 1) := by decide +kernel
theorem dX6_rank_44 : decode cX6_rank 44 = .ok (.ifCond .ge 7, 3) := by decide +kernel
theorem dX6_rank_47 : decode cX6_rank 47 = .ok (.iconst 1, 1) := by decide +kernel
theorem dX6_rank_48 : decode cX6_rank 48 = .ok (.goto 4, 3) := by decide +kernel
theorem dX6_rank_51 : decode cX6_rank 51 = .ok (.iconst 0, 1) := by decide +kernel
theorem dX6_rank_52 : decode cX6_rank 52 = .ok (.iadd, 1) := by decide +kernel
theorem dX6_rank_53 : decode cX6_rank 53 = .ok (.istore_n 3, 1) := by decide +kernel
theorem dX6_rank_54 : decode cX6_rank 54 = .ok (.iinc 4 1, 3) := by decide +kernel
theorem dX6_rank_57 : decode cX6_rank 57 = .ok (.goto (-32), 3) := by decide +kernel
theorem dX6_rank_60 : decode cX6_rank 60 = .ok (.iload_n 3, 1) := by decide +kernel
theorem dX6_rank_61 : decode cX6_rank 61 = .ok (.ireturn, 1) := by decide +kernel
theorem dX6_gap_0 : decode cX6_gap 0 = .ok (.aload_n 0, 1) := by decide +kernel
theorem dX6_gap_1 : decode cX6_gap 1 = .ok (.iconst 0, 1) := by decide +kernel
theorem dX6_gap_2 : decode cX6_gap 2 = .ok (.putfield 45, 3) := by decide +kernel
theorem dX6_gap_5 : decode cX6_gap 5 = .ok (.lload_n 1, 1) := by decide +kernel
theorem dX6_gap_6 : decode cX6_gap 6 = .ok (.lconst 0, 1) := by decide +kernel
theorem dX6_gap_7 : decode cX6_gap 7 = .ok (.lcmp, 1) := by decide +kernel
theorem dX6_gap_8 : decode cX6_gap 8 = .ok (.ifCond .ge 7, 3) := by decide +kernel
theorem dX6_gap_11 : decode cX6_gap 11 = .ok (.ldc2_w 75, 3) := by decide +kernel
theorem dX6_gap_14 : decode cX6_gap 14 = .ok (.lreturn, 1) := by decide +kernel
theorem dX6_gap_15 : decode cX6_gap 15 = .ok (.lload_n 1, 1) := by decide +kernel
theorem dX6_gap_16 : decode cX6_gap 16 = .ok (.lstore_n 3, 1) := by decide +kernel
theorem dX6_gap_17 : decode cX6_gap 17 = .ok (.aload_n 0, 1) := by decide +kernel
theorem dX6_gap_18 : decode cX6_gap 18 = .ok (.lload_n 3, 1) := by decide +kernel
theorem dX6_gap_19 : decode cX6_gap 19 = .ok (.invokevirtual 86, 3) := by decide +kernel
theorem dX6_gap_22 : decode cX6_gap 22 = .ok (.ifCond .lt 19, 3) := by decide +kernel
theorem dX6_gap_25 : decode cX6_gap 25 = .ok (.aload_n 0, 1) := by decide +kernel
theorem dX6_gap_26 : decode cX6_gap 26 = .ok (.getfield 32, 3) := by decide +kernel
theorem dX6_gap_29 : decode cX6_gap 29 = .ok (.aload_n 0, 1) := by decide +kernel
theorem dX6_gap_30 : decode cX6_gap 30 = .ok (.lload_n 3, 1) := by decide +kernel
theorem dX6_gap_31 : decode cX6_gap 31 = .ok (.invokevirtual 86, 3) := by decide +kernel
theorem dX6_gap_34 : decode cX6_gap 34 = .ok (.laload, 1) := by decide +kernel
theorem dX6_gap_35 : decode cX6_gap 35 = .ok (.lconst 1, 1) := by decide +kernel
theorem dX6_gap_36 : decode cX6_gap 36 = .ok (.ladd, 1) := by decide +kernel
theorem dX6_gap_37 : decode cX6_gap 37 = .ok (.lstore_n 3, 1) := by decide +kernel
theorem dX6_gap_38 : decode cX6_gap 38 = .ok (.goto (-21), 3) := by decide +kernel
theorem dX6_gap_41 : decode cX6_gap 41 = .ok (.lload_n 3, 1) := by decide +kernel
theorem dX6_gap_42 : decode cX6_gap 42 = .ok (.lreturn, 1) := by decide +kernel
theorem dX6_stuck_0 : decode cX6_stuck 0 = .ok (.aload_n 0, 1) := by decide +kernel
theorem dX6_stuck_1 : decode cX6_stuck 1 = .ok (.iconst 0, 1) := by decide +kernel
theorem dX6_stuck_2 : decode cX6_stuck 2 = .ok (.putfield 45, 3) := by decide +kernel
theorem dX6_stuck_5 : decode cX6_stuck 5 = .ok (.iconst 0, 1) := by decide +kernel
theorem dX6_stuck_6 : decode cX6_stuck 6 = .ok (.istore_n 2, 1) := by decide +kernel
theorem dX6_stuck_7 : decode cX6_stuck 7 = .ok (.iload_n 2, 1) := by decide +kernel
theorem dX6_stuck_8 : decode cX6_stuck 8 = .ok (.sipush 256, 3) := by decide +kernel
theorem dX6_stuck_11 : decode cX6_stuck 11 = .ok (.if_icmp .ge 16, 3) := by decide +kernel
theorem dX6_stuck_14 : decode cX6_stuck 14 = .ok (.aload_n 0, 1) := by decide +kernel
theorem dX6_stuck_15 : decode cX6_stuck 15 = .ok (.getfield 35, 3) := by decide +kernel
theorem dX6_stuck_18 : decode cX6_stuck 18 = .ok (.iload_n 2, 1) := by decide +kernel
theorem dX6_stuck_19 : decode cX6_stuck 19 = .ok (.iconst 0, 1) := by decide +kernel
theorem dX6_stuck_20 : decode cX6_stuck 20 = .ok (.bastore, 1) := by decide +kernel
theorem dX6_stuck_21 : decode cX6_stuck 21 = .ok (.iinc 2 1, 3) := by decide +kernel
theorem dX6_stuck_24 : decode cX6_stuck 24 = .ok (.goto (-17), 3) := by decide +kernel
theorem dX6_stuck_27 : decode cX6_stuck 27 = .ok (.iconst 0, 1) := by decide +kernel
theorem dX6_stuck_28 : decode cX6_stuck 28 = .ok (.istore_n 2, 1) := by decide +kernel
theorem dX6_stuck_29 : decode cX6_stuck 29 = .ok (.iconst 0, 1) := by decide +kernel
theorem dX6_stuck_30 : decode cX6_stuck 30 = .ok (.istore_n 3, 1) := by decide +kernel
theorem dX6_stuck_31 : decode cX6_stuck 31 = .ok (.iload_n 3, 1) := by decide +kernel
theorem dX6_stuck_32 : decode cX6_stuck 32 = .ok (.aload_n 0, 1) := by decide +kernel
theorem dX6_stuck_33 : decode cX6_stuck 33 = .ok (.invokevirtual 53, 3) := by decide +kernel
theorem dX6_stuck_36 : decode cX6_stuck 36 = .ok (.if_icmp .ge 85, 3) := by decide +kernel
theorem dX6_stuck_39 : decode cX6_stuck 39 = .ok (.sipush 2000, 3) := by decide +kernel
theorem dX6_stuck_42 : decode cX6_stuck 42 = .ok (.iload_n 3, 1) := by decide +kernel
theorem dX6_stuck_43 : decode cX6_stuck 43 = .ok (.iadd, 1) := by decide +kernel
theorem dX6_stuck_44 : decode cX6_stuck 44 = .ok (.istore 4, 2) := by decide +kernel
theorem dX6_stuck_46 : decode cX6_stuck 46 = .ok (.aload_n 0, 1) := by decide +kernel
theorem dX6_stuck_47 : decode cX6_stuck 47 = .ok (.getfield 19, 3) := by decide +kernel
theorem dX6_stuck_50 : decode cX6_stuck 50 = .ok (.iload 4, 2) := by decide +kernel
theorem dX6_stuck_52 : decode cX6_stuck 52 = .ok (.iaload, 1) := by decide +kernel
theorem dX6_stuck_53 : decode cX6_stuck 53 = .ok (.iconst (-1), 1) := by decide +kernel
theorem dX6_stuck_54 : decode cX6_stuck 54 = .ok (.if_icmp .eq 61, 3) := by decide +kernel
theorem dX6_stuck_57 : decode cX6_stuck 57 = .ok (.aload_n 0, 1) := by decide +kernel
theorem dX6_stuck_58 : decode cX6_stuck 58 = .ok (.getfield 25, 3) := by decide +kernel
theorem dX6_stuck_61 : decode cX6_stuck 61 = .ok (.iload 4, 2) := by decide +kernel
theorem dX6_stuck_63 : decode cX6_stuck 63 = .ok (.iaload, 1) := by decide +kernel
theorem dX6_stuck_64 : decode cX6_stuck 64 = .ok (.iconst 1, 1) := by decide +kernel
theorem dX6_stuck_65 : decode cX6_stuck 65 = .ok (.if_icmp .ne 50, 3) := by decide +kernel
theorem dX6_stuck_68 : decode cX6_stuck 68 = .ok (.aload_n 0, 1) := by decide +kernel
theorem dX6_stuck_69 : decode cX6_stuck 69 = .ok (.getfield 35, 3) := by decide +kernel
theorem dX6_stuck_72 : decode cX6_stuck 72 = .ok (.aload_n 0, 1) := by decide +kernel
theorem dX6_stuck_73 : decode cX6_stuck 73 = .ok (.getfield 22, 3) := by decide +kernel
theorem dX6_stuck_76 : decode cX6_stuck 76 = .ok (.iload 4, 2) := by decide +kernel
theorem dX6_stuck_78 : decode cX6_stuck 78 = .ok (.iaload, 1) := by decide +kernel
theorem dX6_stuck_79 : decode cX6_stuck 79 = .ok (.baload, 1) := by decide +kernel
theorem dX6_stuck_80 : decode cX6_stuck 80 = .ok (.ifCond .eq 6, 3) := by decide +kernel
theorem dX6_stuck_83 : decode cX6_stuck 83 = .ok (.goto 32, 3) := by decide +kernel
theorem dX6_stuck_86 : decode cX6_stuck 86 = .ok (.aload_n 0, 1) := by decide +kernel
theorem dX6_stuck_87 : decode cX6_stuck 87 = .ok (.getfield 35, 3) := by decide +kernel
theorem dX6_stuck_90 : decode cX6_stuck 90 = .ok (.aload_n 0, 1) := by decide +kernel
theorem dX6_stuck_91 : decode cX6_stuck 91 = .ok (.getfield 22, 3) := by decide +kernel
theorem dX6_stuck_94 : decode cX6_stuck 94 = .ok (.iload 4, 2) := by decide +kernel
theorem dX6_stuck_96 : decode cX6_stuck 96 = .ok (.iaload, 1) := by decide +kernel
theorem dX6_stuck_97 : decode cX6_stuck 97 = .ok (.iconst 1, 1) := by decide +kernel
theorem dX6_stuck_98 : decode cX6_stuck 98 = .ok (.bastore, 1) := by decide +kernel
theorem dX6_stuck_99 : decode cX6_stuck 99 = .ok (.iload_n 2, 1) := by decide +kernel
theorem dX6_stuck_100 : decode cX6_stuck 100 = .ok (.iload_n 1, 1) := by decide +kernel
theorem dX6_stuck_101 : decode cX6_stuck 101 = .ok (.if_icmp .ne 11, 3) := by decide +kernel
theorem dX6_stuck_104 : decode cX6_stuck 104 = .ok (.aload_n 0, 1) := by decide +kernel
theorem dX6_stuck_105 : decode cX6_stuck 105 = .ok (.getfield 22, 3) := by decide +kernel
theorem dX6_stuck_108 : decode cX6_stuck 108 = .ok (.iload 4, 2) := by decide +kernel
theorem dX6_stuck_110 : decode cX6_stuck 110 = .ok (.iaload, 1) := by decide +kernel
theorem dX6_stuck_111 : decode cX6_stuck 111 = .ok (.ireturn, 1) := by decide +kernel
theorem dX6_stuck_112 : decode cX6_stuck 112 = .ok (.iinc 2 1, 3) := by decide +kernel
theorem dX6_stuck_115 : decode cX6_stuck 115 = .ok (.iinc 3 1, 3) := by decide +kernel
theorem dX6_stuck_118 : decode cX6_stuck 118 = .ok (.goto (-87), 3) := by decide +kernel
theorem dX6_stuck_121 : decode cX6_stuck 121 = .ok (.iconst (-1), 1) := by decide +kernel
theorem dX6_stuck_122 : decode cX6_stuck 122 = .ok (.ireturn, 1) := by decide +kernel
theorem dX6_run_0 : decode cX6_run 0 = .ok (.aload_n 0, 1) := by decide +kernel
theorem dX6_run_1 : decode cX6_run 1 = .ok (.iconst 0, 1) := by decide +kernel
theorem dX6_run_2 : decode cX6_run 2 = .ok (.putfield 45, 3) := by decide +kernel
theorem dX6_run_5 : decode cX6_run 5 = .ok (.iconst 0, 1) := by decide +kernel
theorem dX6_run_6 : decode cX6_run 6 = .ok (.istore_n 1, 1) := by decide +kernel
theorem dX6_run_7 : decode cX6_run 7 = .ok (.iconst 0, 1) := by decide +kernel
theorem dX6_run_8 : decode cX6_run 8 = .ok (.istore_n 2, 1) := by decide +kernel
theorem dX6_run_9 : decode cX6_run 9 = .ok (.iconst 0, 1) := by decide +kernel
theorem dX6_run_10 : decode cX6_run 10 = .ok (.istore_n 3, 1) := by decide +kernel
theorem dX6_run_11 : decode cX6_run 11 = .ok (.iload_n 3, 1) := by decide +kernel
theorem dX6_run_12 : decode cX6_run 12 = .ok (.aload_n 0, 1) := by decide +kernel
theorem dX6_run_13 : decode cX6_run 13 = .ok (.invokevirtual 53, 3) := by decide +kernel
theorem dX6_run_16 : decode cX6_run 16 = .ok (.if_icmp .ge 52, 3) := by decide +kernel
theorem dX6_run_19 : decode cX6_run 19 = .ok (.iload_n 3, 1) := by decide +kernel
theorem dX6_run_20 : decode cX6_run 20 = .ok (.ifCond .le 29, 3) := by decide +kernel
theorem dX6_run_23 : decode cX6_run 23 = .ok (.aload_n 0, 1) := by decide +kernel
theorem dX6_run_24 : decode cX6_run 24 = .ok (.bipush 10, 2) := by decide +kernel
theorem dX6_run_26 : decode cX6_run 26 = .ok (.iload_n 3, 1) := by decide +kernel
theorem dX6_run_27 : decode cX6_run 27 = .ok (.invokevirtual 68, 3) := by decide +kernel
theorem dX6_run_30 : decode cX6_run 30 = .ok (.aload_n 0, 1) := by decide +kernel
theorem dX6_run_31 : decode cX6_run 31 = .ok (.bipush 10, 2) := by decide +kernel
theorem dX6_run_33 : decode cX6_run 33 = .ok (.iload_n 3, 1) := by decide +kernel
theorem dX6_run_34 : decode cX6_run 34 = .ok (.iconst 1, 1) := by decide +kernel
theorem dX6_run_35 : decode cX6_run 35 = .ok (.isub, 1) := by decide +kernel
theorem dX6_run_36 : decode cX6_run 36 = .ok (.invokevirtual 68, 3) := by decide +kernel
theorem dX6_run_39 : decode cX6_run 39 = .ok (.lcmp, 1) := by decide +kernel
theorem dX6_run_40 : decode cX6_run 40 = .ok (.ifCond .lt 9, 3) := by decide +kernel
theorem dX6_run_43 : decode cX6_run 43 = .ok (.iload_n 2, 1) := by decide +kernel
theorem dX6_run_44 : decode cX6_run 44 = .ok (.iconst 1, 1) := by decide +kernel
theorem dX6_run_45 : decode cX6_run 45 = .ok (.iadd, 1) := by decide +kernel
theorem dX6_run_46 : decode cX6_run 46 = .ok (.goto 4, 3) := by decide +kernel
theorem dX6_run_49 : decode cX6_run 49 = .ok (.iconst 1, 1) := by decide +kernel
theorem dX6_run_50 : decode cX6_run 50 = .ok (.istore_n 2, 1) := by decide +kernel
theorem dX6_run_51 : decode cX6_run 51 = .ok (.iload_n 2, 1) := by decide +kernel
theorem dX6_run_52 : decode cX6_run 52 = .ok (.iload_n 1, 1) := by decide +kernel
theorem dX6_run_53 : decode cX6_run 53 = .ok (.if_icmp .le 7, 3) := by decide +kernel
theorem dX6_run_56 : decode cX6_run 56 = .ok (.iload_n 2, 1) := by decide +kernel
theorem dX6_run_57 : decode cX6_run 57 = .ok (.goto 4, 3) := by decide +kernel
theorem dX6_run_60 : decode cX6_run 60 = .ok (.iload_n 1, 1) := by decide +kernel
theorem dX6_run_61 : decode cX6_run 61 = .ok (.istore_n 1, 1) := by decide +kernel
theorem dX6_run_62 : decode cX6_run 62 = .ok (.iinc 3 1, 3) := by decide +kernel
theorem dX6_run_65 : decode cX6_run 65 = .ok (.goto (-54), 3) := by decide +kernel
theorem dX6_run_68 : decode cX6_run 68 = .ok (.iload_n 1, 1) := by decide +kernel
theorem dX6_run_69 : decode cX6_run 69 = .ok (.ireturn, 1) := by decide +kernel
theorem dX6_hardest_0 : decode cX6_hardest 0 = .ok (.aload_n 0, 1) := by decide +kernel
theorem dX6_hardest_1 : decode cX6_hardest 1 = .ok (.iconst 0, 1) := by decide +kernel
theorem dX6_hardest_2 : decode cX6_hardest 2 = .ok (.putfield 45, 3) := by decide +kernel
theorem dX6_hardest_5 : decode cX6_hardest 5 = .ok (.iconst (-1), 1) := by decide +kernel
theorem dX6_hardest_6 : decode cX6_hardest 6 = .ok (.istore_n 1, 1) := by decide +kernel
theorem dX6_hardest_7 : decode cX6_hardest 7 = .ok (.ldc2_w 75, 3) := by decide +kernel
theorem dX6_hardest_10 : decode cX6_hardest 10 = .ok (.lstore_n 2, 1) := by decide +kernel
theorem dX6_hardest_11 : decode cX6_hardest 11 = .ok (.iconst 0, 1) := by decide +kernel
theorem dX6_hardest_12 : decode cX6_hardest 12 = .ok (.istore 4, 2) := by decide +kernel
theorem dX6_hardest_14 : decode cX6_hardest 14 = .ok (.iload 4, 2) := by decide +kernel
theorem dX6_hardest_16 : decode cX6_hardest 16 = .ok (.aload_n 0, 1) := by decide +kernel
theorem dX6_hardest_17 : decode cX6_hardest 17 = .ok (.getfield 50, 3) := by decide +kernel
theorem dX6_hardest_20 : decode cX6_hardest 20 = .ok (.if_icmp .ge 91, 3) := by decide +kernel
theorem dX6_hardest_23 : decode cX6_hardest 23 = .ok (.ldc2_w 75, 3) := by decide +kernel
theorem dX6_hardest_26 : decode cX6_hardest 26 = .ok (.lstore 5, 2) := by decide +kernel
theorem dX6_hardest_28 : decode cX6_hardest 28 = .ok (.iconst 0, 1) := by decide +kernel
theorem dX6_hardest_29 : decode cX6_hardest 29 = .ok (.istore 7, 2) := by decide +kernel
theorem dX6_hardest_31 : decode cX6_hardest 31 = .ok (.iload 7, 2) := by decide +kernel
theorem dX6_hardest_33 : decode cX6_hardest 33 = .ok (.aload_n 0, 1) := by decide +kernel
theorem dX6_hardest_34 : decode cX6_hardest 34 = .ok (.invokevirtual 53, 3) := by decide +kernel
theorem dX6_hardest_37 : decode cX6_hardest 37 = .ok (.if_icmp .ge 52, 3) := by decide +kernel
theorem dX6_hardest_40 : decode cX6_hardest 40 = .ok (.aload_n 0, 1) := by decide +kernel
theorem dX6_hardest_41 : decode cX6_hardest 41 = .ok (.getfield 19, 3) := by decide +kernel
theorem dX6_hardest_44 : decode cX6_hardest 44 = .ok (.sipush 2000, 3) := by decide +kernel
theorem dX6_hardest_47 : decode cX6_hardest 47 = .ok (.iload 7, 2) := by decide +kernel
theorem dX6_hardest_49 : decode cX6_hardest 49 = .ok (.iadd, 1) := by decide +kernel
theorem dX6_hardest_50 : decode cX6_hardest 50 = .ok (.iaload, 1) := by decide +kernel
theorem dX6_hardest_51 : decode cX6_hardest 51 = .ok (.iload 4, 2) := by decide +kernel
theorem dX6_hardest_53 : decode cX6_hardest 53 = .ok (.if_icmp .eq 6, 3) := by decide +kernel
theorem dX6_hardest_56 : decode cX6_hardest 56 = .ok (.goto 27, 3) := by decide +kernel
theorem dX6_hardest_59 : decode cX6_hardest 59 = .ok (.lload 5, 2) := by decide +kernel
theorem dX6_hardest_61 : decode cX6_hardest 61 = .ok (.lconst 0, 1) := by decide +kernel
theorem dX6_hardest_62 : decode cX6_hardest 62 = .ok (.lcmp, 1) := by decide +kernel
theorem dX6_hardest_63 : decode cX6_hardest 63 = .ok (.ifCond .ge 7, 3) := by decide +kernel
theorem dX6_hardest_66 : decode cX6_hardest 66 = .ok (.lconst 0, 1) := by decide +kernel
theorem dX6_hardest_67 : decode cX6_hardest 67 = .ok (.goto 5, 3) := by decide +kernel
theorem dX6_hardest_70 : decode cX6_hardest 70 = .ok (.lload 5, 2) := by decide +kernel
theorem dX6_hardest_72 : decode cX6_hardest 72 = .ok (.aload_n 0, 1) := by decide +kernel
theorem dX6_hardest_73 : decode cX6_hardest 73 = .ok (.bipush 10, 2) := by decide +kernel
theorem dX6_hardest_75 : decode cX6_hardest 75 = .ok (.iload 7, 2) := by decide +kernel
theorem dX6_hardest_77 : decode cX6_hardest 77 = .ok (.invokevirtual 68, 3) := by decide +kernel
theorem dX6_hardest_80 : decode cX6_hardest 80 = .ok (.ladd, 1) := by decide +kernel
theorem dX6_hardest_81 : decode cX6_hardest 81 = .ok (.lstore 5, 2) := by decide +kernel
theorem dX6_hardest_83 : decode cX6_hardest 83 = .ok (.iinc 7 1, 3) := by decide +kernel
theorem dX6_hardest_86 : decode cX6_hardest 86 = .ok (.goto (-55), 3) := by decide +kernel
theorem dX6_hardest_89 : decode cX6_hardest 89 = .ok (.lload 5, 2) := by decide +kernel
theorem dX6_hardest_91 : decode cX6_hardest 91 = .ok (.lload_n 2, 1) := by decide +kernel
theorem dX6_hardest_92 : decode cX6_hardest 92 = .ok (.lcmp, 1) := by decide +kernel
theorem dX6_hardest_93 : decode cX6_hardest 93 = .ok (.ifCond .gt 6, 3) := by decide +kernel
theorem dX6_hardest_96 : decode cX6_hardest 96 = .ok (.goto 9, 3) := by decide +kernel
theorem dX6_hardest_99 : decode cX6_hardest 99 = .ok (.lload 5, 2) := by decide +kernel
theorem dX6_hardest_101 : decode cX6_hardest 101 = .ok (.lstore_n 2, 1) := by decide +kernel
theorem dX6_hardest_102 : decode cX6_hardest 102 = .ok (.iload 4, 2) := by decide +kernel
theorem dX6_hardest_104 : decode cX6_hardest 104 = .ok (.istore_n 1, 1) := by decide +kernel
theorem dX6_hardest_105 : decode cX6_hardest 105 = .ok (.iinc 4 1, 3) := by decide +kernel
theorem dX6_hardest_108 : decode cX6_hardest 108 = .ok (.goto (-94), 3) := by decide +kernel
theorem dX6_hardest_111 : decode cX6_hardest 111 = .ok (.iload_n 1, 1) := by decide +kernel
theorem dX6_hardest_112 : decode cX6_hardest 112 = .ok (.ireturn, 1) := by decide +kernel
theorem dX6_go_0 : decode cX6_go 0 = .ok (.aload_n 0, 1) := by decide +kernel
theorem dX6_go_1 : decode cX6_go 1 = .ok (.iconst 0, 1) := by decide +kernel
theorem dX6_go_2 : decode cX6_go 2 = .ok (.putfield 45, 3) := by decide +kernel
theorem dX6_go_5 : decode cX6_go 5 = .ok (.iload_n 1, 1) := by decide +kernel
theorem dX6_go_6 : decode cX6_go 6 = .ok (.ifCond .lt 11, 3) := by decide +kernel
theorem dX6_go_9 : decode cX6_go 9 = .ok (.iload_n 1, 1) := by decide +kernel
theorem dX6_go_10 : decode cX6_go 10 = .ok (.aload_n 0, 1) := by decide +kernel
theorem dX6_go_11 : decode cX6_go 11 = .ok (.invokevirtual 53, 3) := by decide +kernel
theorem dX6_go_14 : decode cX6_go 14 = .ok (.if_icmp .le 5, 3) := by decide +kernel
theorem dX6_go_17 : decode cX6_go 17 = .ok (.iconst 0, 1) := by decide +kernel
theorem dX6_go_18 : decode cX6_go 18 = .ok (.ireturn, 1) := by decide +kernel
theorem dX6_go_19 : decode cX6_go 19 = .ok (.aload_n 0, 1) := by decide +kernel
theorem dX6_go_20 : decode cX6_go 20 = .ok (.iload_n 1, 1) := by decide +kernel
theorem dX6_go_21 : decode cX6_go 21 = .ok (.putfield 61, 3) := by decide +kernel
theorem dX6_go_24 : decode cX6_go 24 = .ok (.iconst 1, 1) := by decide +kernel
theorem dX6_go_25 : decode cX6_go 25 = .ok (.ireturn, 1) := by decide +kernel
theorem dX6_hint_0 : decode cX6_hint 0 = .ok (.aload_n 0, 1) := by decide +kernel
theorem dX6_hint_1 : decode cX6_hint 1 = .ok (.iconst 0, 1) := by decide +kernel
theorem dX6_hint_2 : decode cX6_hint 2 = .ok (.putfield 45, 3) := by decide +kernel
theorem dX6_hint_5 : decode cX6_hint 5 = .ok (.iload_n 1, 1) := by decide +kernel
theorem dX6_hint_6 : decode cX6_hint 6 = .ok (.iconst 1, 1) := by decide +kernel
theorem dX6_hint_7 : decode cX6_hint 7 = .ok (.if_icmp .lt 19, 3) := by decide +kernel
theorem dX6_hint_10 : decode cX6_hint 10 = .ok (.iload_n 1, 1) := by decide +kernel
theorem dX6_hint_11 : decode cX6_hint 11 = .ok (.iconst 4, 1) := by decide +kernel
theorem dX6_hint_12 : decode cX6_hint 12 = .ok (.if_icmp .gt 14, 3) := by decide +kernel
theorem dX6_hint_15 : decode cX6_hint 15 = .ok (.aload_n 0, 1) := by decide +kernel
theorem dX6_hint_16 : decode cX6_hint 16 = .ok (.getfield 61, 3) := by decide +kernel
theorem dX6_hint_19 : decode cX6_hint 19 = .ok (.aload_n 0, 1) := by decide +kernel
theorem dX6_hint_20 : decode cX6_hint 20 = .ok (.invokevirtual 53, 3) := by decide +kernel
theorem dX6_hint_23 : decode cX6_hint 23 = .ok (.if_icmp .lt 5, 3) := by decide +kernel
theorem dX6_hint_26 : decode cX6_hint 26 = .ok (.iconst (-1), 1) := by decide +kernel
theorem dX6_hint_27 : decode cX6_hint 27 = .ok (.ireturn, 1) := by decide +kernel
theorem dX6_hint_28 : decode cX6_hint 28 = .ok (.sipush 2000, 3) := by decide +kernel
theorem dX6_hint_31 : decode cX6_hint 31 = .ok (.aload_n 0, 1) := by decide +kernel
theorem dX6_hint_32 : decode cX6_hint 32 = .ok (.getfield 61, 3) := by decide +kernel
theorem dX6_hint_35 : decode cX6_hint 35 = .ok (.iadd, 1) := by decide +kernel
theorem dX6_hint_36 : decode cX6_hint 36 = .ok (.istore_n 2, 1) := by decide +kernel
theorem dX6_hint_37 : decode cX6_hint 37 = .ok (.iload_n 1, 1) := by decide +kernel
theorem dX6_hint_38 : decode cX6_hint 38 = .ok (.iconst 4, 1) := by decide +kernel
theorem dX6_hint_39 : decode cX6_hint 39 = .ok (.if_icmp .ne 13, 3) := by decide +kernel
theorem dX6_hint_42 : decode cX6_hint 42 = .ok (.aload_n 0, 1) := by decide +kernel
theorem dX6_hint_43 : decode cX6_hint 43 = .ok (.dup, 1) := by decide +kernel
theorem dX6_hint_44 : decode cX6_hint 44 = .ok (.getfield 61, 3) := by decide +kernel
theorem dX6_hint_47 : decode cX6_hint 47 = .ok (.iconst 1, 1) := by decide +kernel
theorem dX6_hint_48 : decode cX6_hint 48 = .ok (.iadd, 1) := by decide +kernel
theorem dX6_hint_49 : decode cX6_hint 49 = .ok (.putfield 61, 3) := by decide +kernel
theorem dX6_hint_52 : decode cX6_hint 52 = .ok (.aload_n 0, 1) := by decide +kernel
theorem dX6_hint_53 : decode cX6_hint 53 = .ok (.getfield 19, 3) := by decide +kernel
theorem dX6_hint_56 : decode cX6_hint 56 = .ok (.iload_n 2, 1) := by decide +kernel
theorem dX6_hint_57 : decode cX6_hint 57 = .ok (.iaload, 1) := by decide +kernel
theorem dX6_hint_58 : decode cX6_hint 58 = .ok (.iconst (-1), 1) := by decide +kernel
theorem dX6_hint_59 : decode cX6_hint 59 = .ok (.if_icmp .ne 20, 3) := by decide +kernel
theorem dX6_hint_62 : decode cX6_hint 62 = .ok (.iload_n 1, 1) := by decide +kernel
theorem dX6_hint_63 : decode cX6_hint 63 = .ok (.iconst 4, 1) := by decide +kernel
theorem dX6_hint_64 : decode cX6_hint 64 = .ok (.if_icmp .ne 12, 3) := by decide +kernel
theorem dX6_hint_67 : decode cX6_hint 67 = .ok (.aload_n 0, 1) := by decide +kernel
theorem dX6_hint_68 : decode cX6_hint 68 = .ok (.getfield 22, 3) := by decide +kernel
theorem dX6_hint_71 : decode cX6_hint 71 = .ok (.iload_n 2, 1) := by decide +kernel
theorem dX6_hint_72 : decode cX6_hint 72 = .ok (.iaload, 1) := by decide +kernel
theorem dX6_hint_73 : decode cX6_hint 73 = .ok (.goto 5, 3) := by decide +kernel
theorem dX6_hint_76 : decode cX6_hint 76 = .ok (.bipush (-2), 2) := by decide +kernel
theorem dX6_hint_78 : decode cX6_hint 78 = .ok (.ireturn, 1) := by decide +kernel
theorem dX6_hint_79 : decode cX6_hint 79 = .ok (.iload_n 1, 1) := by decide +kernel
theorem dX6_hint_80 : decode cX6_hint 80 = .ok (.tableswitch 52 1 3 #[28, 38, 45], 28) := by decide +kernel
theorem dX6_hint_108 : decode cX6_hint 108 = .ok (.aload_n 0, 1) := by decide +kernel
theorem dX6_hint_109 : decode cX6_hint 109 = .ok (.getfield 22, 3) := by decide +kernel
theorem dX6_hint_112 : decode cX6_hint 112 = .ok (.iload_n 2, 1) := by decide +kernel
theorem dX6_hint_113 : decode cX6_hint 113 = .ok (.iaload, 1) := by decide +kernel
theorem dX6_hint_114 : decode cX6_hint 114 = .ok (.bipush 16, 2) := by decide +kernel
theorem dX6_hint_116 : decode cX6_hint 116 = .ok (.idiv, 1) := by decide +kernel
theorem dX6_hint_117 : decode cX6_hint 117 = .ok (.ireturn, 1) := by decide +kernel
theorem dX6_hint_118 : decode cX6_hint 118 = .ok (.aload_n 0, 1) := by decide +kernel
theorem dX6_hint_119 : decode cX6_hint 119 = .ok (.getfield 22, 3) := by decide +kernel
theorem dX6_hint_122 : decode cX6_hint 122 = .ok (.iload_n 2, 1) := by decide +kernel
theorem dX6_hint_123 : decode cX6_hint 123 = .ok (.iaload, 1) := by decide +kernel
theorem dX6_hint_124 : decode cX6_hint 124 = .ok (.ireturn, 1) := by decide +kernel
theorem dX6_hint_125 : decode cX6_hint 125 = .ok (.aload_n 0, 1) := by decide +kernel
theorem dX6_hint_126 : decode cX6_hint 126 = .ok (.getfield 19, 3) := by decide +kernel
theorem dX6_hint_129 : decode cX6_hint 129 = .ok (.iload_n 2, 1) := by decide +kernel
theorem dX6_hint_130 : decode cX6_hint 130 = .ok (.iaload, 1) := by decide +kernel
theorem dX6_hint_131 : decode cX6_hint 131 = .ok (.ireturn, 1) := by decide +kernel
theorem dX6_hint_132 : decode cX6_hint 132 = .ok (.aload_n 0, 1) := by decide +kernel
theorem dX6_hint_133 : decode cX6_hint 133 = .ok (.getfield 25, 3) := by decide +kernel
theorem dX6_hint_136 : decode cX6_hint 136 = .ok (.iload_n 2, 1) := by decide +kernel
theorem dX6_hint_137 : decode cX6_hint 137 = .ok (.iaload, 1) := by decide +kernel
theorem dX6_hint_138 : decode cX6_hint 138 = .ok (.ireturn, 1) := by decide +kernel
theorem dX6_keep_0 : decode cX6_keep 0 = .ok (.aload_n 0, 1) := by decide +kernel
theorem dX6_keep_1 : decode cX6_keep 1 = .ok (.iconst 0, 1) := by decide +kernel
theorem dX6_keep_2 : decode cX6_keep 2 = .ok (.putfield 45, 3) := by decide +kernel
theorem dX6_keep_5 : decode cX6_keep 5 = .ok (.aload_n 0, 1) := by decide +kernel
theorem dX6_keep_6 : decode cX6_keep 6 = .ok (.getfield 90, 3) := by decide +kernel
theorem dX6_keep_9 : decode cX6_keep 9 = .ok (.bipush 10, 2) := by decide +kernel
theorem dX6_keep_11 : decode cX6_keep 11 = .ok (.if_icmp .ne 5, 3) := by decide +kernel
theorem dX6_keep_14 : decode cX6_keep 14 = .ok (.iconst (-1), 1) := by decide +kernel
theorem dX6_keep_15 : decode cX6_keep 15 = .ok (.ireturn, 1) := by decide +kernel
theorem dX6_keep_16 : decode cX6_keep 16 = .ok (.iconst 0, 1) := by decide +kernel
theorem dX6_keep_17 : decode cX6_keep 17 = .ok (.istore_n 1, 1) := by decide +kernel
theorem dX6_keep_18 : decode cX6_keep 18 = .ok (.iload_n 1, 1) := by decide +kernel
theorem dX6_keep_19 : decode cX6_keep 19 = .ok (.sipush 200, 3) := by decide +kernel
theorem dX6_keep_22 : decode cX6_keep 22 = .ok (.if_icmp .ge 84, 3) := by decide +kernel
theorem dX6_keep_25 : decode cX6_keep 25 = .ok (.aload_n 0, 1) := by decide +kernel
theorem dX6_keep_26 : decode cX6_keep 26 = .ok (.getfield 19, 3) := by decide +kernel
theorem dX6_keep_29 : decode cX6_keep 29 = .ok (.sipush 200, 3) := by decide +kernel
theorem dX6_keep_32 : decode cX6_keep 32 = .ok (.aload_n 0, 1) := by decide +kernel
theorem dX6_keep_33 : decode cX6_keep 33 = .ok (.getfield 90, 3) := by decide +kernel
theorem dX6_keep_36 : decode cX6_keep 36 = .ok (.imul, 1) := by decide +kernel
theorem dX6_keep_37 : decode cX6_keep 37 = .ok (.iload_n 1, 1) := by decide +kernel
theorem dX6_keep_38 : decode cX6_keep 38 = .ok (.iadd, 1) := by decide +kernel
theorem dX6_keep_39 : decode cX6_keep 39 = .ok (.aload_n 0, 1) := by decide +kernel
theorem dX6_keep_40 : decode cX6_keep 40 = .ok (.getfield 19, 3) := by decide +kernel
theorem dX6_keep_43 : decode cX6_keep 43 = .ok (.sipush 2000, 3) := by decide +kernel
theorem dX6_keep_46 : decode cX6_keep 46 = .ok (.iload_n 1, 1) := by decide +kernel
theorem dX6_keep_47 : decode cX6_keep 47 = .ok (.iadd, 1) := by decide +kernel
theorem dX6_keep_48 : decode cX6_keep 48 = .ok (.iaload, 1) := by decide +kernel
theorem dX6_keep_49 : decode cX6_keep 49 = .ok (.iastore, 1) := by decide +kernel
theorem dX6_keep_50 : decode cX6_keep 50 = .ok (.aload_n 0, 1) := by decide +kernel
theorem dX6_keep_51 : decode cX6_keep 51 = .ok (.getfield 22, 3) := by decide +kernel
theorem dX6_keep_54 : decode cX6_keep 54 = .ok (.sipush 200, 3) := by decide +kernel
theorem dX6_keep_57 : decode cX6_keep 57 = .ok (.aload_n 0, 1) := by decide +kernel
theorem dX6_keep_58 : decode cX6_keep 58 = .ok (.getfield 90, 3) := by decide +kernel
theorem dX6_keep_61 : decode cX6_keep 61 = .ok (.imul, 1) := by decide +kernel
theorem dX6_keep_62 : decode cX6_keep 62 = .ok (.iload_n 1, 1) := by decide +kernel
theorem dX6_keep_63 : decode cX6_keep 63 = .ok (.iadd, 1) := by decide +kernel
theorem dX6_keep_64 : decode cX6_keep 64 = .ok (.aload_n 0, 1) := by decide +kernel
theorem dX6_keep_65 : decode cX6_keep 65 = .ok (.getfield 22, 3) := by decide +kernel
theorem dX6_keep_68 : decode cX6_keep 68 = .ok (.sipush 2000, 3) := by decide +kernel
theorem dX6_keep_71 : decode cX6_keep 71 = .ok (.iload_n 1, 1) := by decide +kernel
theorem dX6_keep_72 : decode cX6_keep 72 = .ok (.iadd, 1) := by decide +kernel
theorem dX6_keep_73 : decode cX6_keep 73 = .ok (.iaload, 1) := by decide +kernel
theorem dX6_keep_74 : decode cX6_keep 74 = .ok (.iastore, 1) := by decide +kernel
theorem dX6_keep_75 : decode cX6_keep 75 = .ok (.aload_n 0, 1) := by decide +kernel
theorem dX6_keep_76 : decode cX6_keep 76 = .ok (.getfield 25, 3) := by decide +kernel
theorem dX6_keep_79 : decode cX6_keep 79 = .ok (.sipush 200, 3) := by decide +kernel
theorem dX6_keep_82 : decode cX6_keep 82 = .ok (.aload_n 0, 1) := by decide +kernel
theorem dX6_keep_83 : decode cX6_keep 83 = .ok (.getfield 90, 3) := by decide +kernel
theorem dX6_keep_86 : decode cX6_keep 86 = .ok (.imul, 1) := by decide +kernel
theorem dX6_keep_87 : decode cX6_keep 87 = .ok (.iload_n 1, 1) := by decide +kernel
theorem dX6_keep_88 : decode cX6_keep 88 = .ok (.iadd, 1) := by decide +kernel
theorem dX6_keep_89 : decode cX6_keep 89 = .ok (.aload_n 0, 1) := by decide +kernel
theorem dX6_keep_90 : decode cX6_keep 90 = .ok (.getfield 25, 3) := by decide +kernel
theorem dX6_keep_93 : decode cX6_keep 93 = .ok (.sipush 2000, 3) := by decide +kernel
theorem dX6_keep_96 : decode cX6_keep 96 = .ok (.iload_n 1, 1) := by decide +kernel
theorem dX6_keep_97 : decode cX6_keep 97 = .ok (.iadd, 1) := by decide +kernel
theorem dX6_keep_98 : decode cX6_keep 98 = .ok (.iaload, 1) := by decide +kernel
theorem dX6_keep_99 : decode cX6_keep 99 = .ok (.iastore, 1) := by decide +kernel
theorem dX6_keep_100 : decode cX6_keep 100 = .ok (.iinc 1 1, 3) := by decide +kernel
theorem dX6_keep_103 : decode cX6_keep 103 = .ok (.goto (-85), 3) := by decide +kernel
theorem dX6_keep_106 : decode cX6_keep 106 = .ok (.aload_n 0, 1) := by decide +kernel
theorem dX6_keep_107 : decode cX6_keep 107 = .ok (.getfield 16, 3) := by decide +kernel
theorem dX6_keep_110 : decode cX6_keep 110 = .ok (.aload_n 0, 1) := by decide +kernel
theorem dX6_keep_111 : decode cX6_keep 111 = .ok (.getfield 90, 3) := by decide +kernel
theorem dX6_keep_114 : decode cX6_keep 114 = .ok (.aload_n 0, 1) := by decide +kernel
theorem dX6_keep_115 : decode cX6_keep 115 = .ok (.invokevirtual 53, 3) := by decide +kernel
theorem dX6_keep_118 : decode cX6_keep 118 = .ok (.iastore, 1) := by decide +kernel
theorem dX6_keep_119 : decode cX6_keep 119 = .ok (.aload_n 0, 1) := by decide +kernel
theorem dX6_keep_120 : decode cX6_keep 120 = .ok (.dup, 1) := by decide +kernel
theorem dX6_keep_121 : decode cX6_keep 121 = .ok (.getfield 90, 3) := by decide +kernel
theorem dX6_keep_124 : decode cX6_keep 124 = .ok (.iconst 1, 1) := by decide +kernel
theorem dX6_keep_125 : decode cX6_keep 125 = .ok (.iadd, 1) := by decide +kernel
theorem dX6_keep_126 : decode cX6_keep 126 = .ok (.putfield 90, 3) := by decide +kernel
theorem dX6_keep_129 : decode cX6_keep 129 = .ok (.aload_n 0, 1) := by decide +kernel
theorem dX6_keep_130 : decode cX6_keep 130 = .ok (.getfield 90, 3) := by decide +kernel
theorem dX6_keep_133 : decode cX6_keep 133 = .ok (.iconst 1, 1) := by decide +kernel
theorem dX6_keep_134 : decode cX6_keep 134 = .ok (.isub, 1) := by decide +kernel
theorem dX6_keep_135 : decode cX6_keep 135 = .ok (.ireturn, 1) := by decide +kernel
theorem dX6_way_0 : decode cX6_way 0 = .ok (.lload_n 0, 1) := by decide +kernel
theorem dX6_way_1 : decode cX6_way 1 = .ok (.lload_n 2, 1) := by decide +kernel
theorem dX6_way_2 : decode cX6_way 2 = .ok (.lcmp, 1) := by decide +kernel
theorem dX6_way_3 : decode cX6_way 3 = .ok (.ifCond .ge 7, 3) := by decide +kernel
theorem dX6_way_6 : decode cX6_way 6 = .ok (.iconst (-1), 1) := by decide +kernel
theorem dX6_way_7 : decode cX6_way 7 = .ok (.goto 14, 3) := by decide +kernel
theorem dX6_way_10 : decode cX6_way 10 = .ok (.lload_n 0, 1) := by decide +kernel
theorem dX6_way_11 : decode cX6_way 11 = .ok (.lload_n 2, 1) := by decide +kernel
theorem dX6_way_12 : decode cX6_way 12 = .ok (.lcmp, 1) := by decide +kernel
theorem dX6_way_13 : decode cX6_way 13 = .ok (.ifCond .le 7, 3) := by decide +kernel
theorem dX6_way_16 : decode cX6_way 16 = .ok (.iconst 1, 1) := by decide +kernel
theorem dX6_way_17 : decode cX6_way 17 = .ok (.goto 4, 3) := by decide +kernel
theorem dX6_way_20 : decode cX6_way 20 = .ok (.iconst 0, 1) := by decide +kernel
theorem dX6_way_21 : decode cX6_way 21 = .ok (.ireturn, 1) := by decide +kernel
theorem dX6_compare_0 : decode cX6_compare 0 = .ok (.aload_n 0, 1) := by decide +kernel
theorem dX6_compare_1 : decode cX6_compare 1 = .ok (.iconst 0, 1) := by decide +kernel
theorem dX6_compare_2 : decode cX6_compare 2 = .ok (.putfield 45, 3) := by decide +kernel
theorem dX6_compare_5 : decode cX6_compare 5 = .ok (.iload_n 1, 1) := by decide +kernel
theorem dX6_compare_6 : decode cX6_compare 6 = .ok (.ifCond .lt 11, 3) := by decide +kernel
theorem dX6_compare_9 : decode cX6_compare 9 = .ok (.iload_n 1, 1) := by decide +kernel
theorem dX6_compare_10 : decode cX6_compare 10 = .ok (.aload_n 0, 1) := by decide +kernel
theorem dX6_compare_11 : decode cX6_compare 11 = .ok (.getfield 90, 3) := by decide +kernel
theorem dX6_compare_14 : decode cX6_compare 14 = .ok (.if_icmp .lt 6, 3) := by decide +kernel
theorem dX6_compare_17 : decode cX6_compare 17 = .ok (.bipush (-2), 2) := by decide +kernel
theorem dX6_compare_19 : decode cX6_compare 19 = .ok (.ireturn, 1) := by decide +kernel
theorem dX6_compare_20 : decode cX6_compare 20 = .ok (.aload_n 0, 1) := by decide +kernel
theorem dX6_compare_21 : decode cX6_compare 21 = .ok (.invokevirtual 82, 3) := by decide +kernel
theorem dX6_compare_24 : decode cX6_compare 24 = .ok (.lstore_n 2, 1) := by decide +kernel
theorem dX6_compare_25 : decode cX6_compare 25 = .ok (.aload_n 0, 1) := by decide +kernel
theorem dX6_compare_26 : decode cX6_compare 26 = .ok (.iload_n 1, 1) := by decide +kernel
theorem dX6_compare_27 : decode cX6_compare 27 = .ok (.sipush 200, 3) := by decide +kernel
theorem dX6_compare_30 : decode cX6_compare 30 = .ok (.invokevirtual 72, 3) := by decide +kernel
theorem dX6_compare_33 : decode cX6_compare 33 = .ok (.lstore 4, 2) := by decide +kernel
theorem dX6_compare_35 : decode cX6_compare 35 = .ok (.lload_n 2, 1) := by decide +kernel
theorem dX6_compare_36 : decode cX6_compare 36 = .ok (.lload 4, 2) := by decide +kernel
theorem dX6_compare_38 : decode cX6_compare 38 = .ok (.lcmp, 1) := by decide +kernel
theorem dX6_compare_39 : decode cX6_compare 39 = .ok (.ifCond .eq 10, 3) := by decide +kernel
theorem dX6_compare_42 : decode cX6_compare 42 = .ok (.lload_n 2, 1) := by decide +kernel
theorem dX6_compare_43 : decode cX6_compare 43 = .ok (.lload 4, 2) := by decide +kernel
theorem dX6_compare_45 : decode cX6_compare 45 = .ok (.invokestatic 93, 3) := by decide +kernel
theorem dX6_compare_48 : decode cX6_compare 48 = .ok (.ireturn, 1) := by decide +kernel
theorem dX6_compare_49 : decode cX6_compare 49 = .ok (.aload_n 0, 1) := by decide +kernel
theorem dX6_compare_50 : decode cX6_compare 50 = .ok (.invokevirtual 53, 3) := by decide +kernel
theorem dX6_compare_53 : decode cX6_compare 53 = .ok (.aload_n 0, 1) := by decide +kernel
theorem dX6_compare_54 : decode cX6_compare 54 = .ok (.getfield 16, 3) := by decide +kernel
theorem dX6_compare_57 : decode cX6_compare 57 = .ok (.iload_n 1, 1) := by decide +kernel
theorem dX6_compare_58 : decode cX6_compare 58 = .ok (.iaload, 1) := by decide +kernel
theorem dX6_compare_59 : decode cX6_compare 59 = .ok (.if_icmp .eq 19, 3) := by decide +kernel
theorem dX6_compare_62 : decode cX6_compare 62 = .ok (.aload_n 0, 1) := by decide +kernel
theorem dX6_compare_63 : decode cX6_compare 63 = .ok (.invokevirtual 53, 3) := by decide +kernel
theorem dX6_compare_66 : decode cX6_compare 66 = .ok (.i2l, 1) := by decide +kernel
theorem dX6_compare_67 : decode cX6_compare 67 = .ok (.aload_n 0, 1) := by decide +kernel
theorem dX6_compare_68 : decode cX6_compare 68 = .ok (.getfield 16, 3) := by decide +kernel
theorem dX6_compare_71 : decode cX6_compare 71 = .ok (.iload_n 1, 1) := by decide +kernel
theorem dX6_compare_72 : decode cX6_compare 72 = .ok (.iaload, 1) := by decide +kernel
theorem dX6_compare_73 : decode cX6_compare 73 = .ok (.i2l, 1) := by decide +kernel
theorem dX6_compare_74 : decode cX6_compare 74 = .ok (.invokestatic 93, 3) := by decide +kernel
theorem dX6_compare_77 : decode cX6_compare 77 = .ok (.ireturn, 1) := by decide +kernel
theorem dX6_compare_78 : decode cX6_compare 78 = .ok (.iconst 0, 1) := by decide +kernel
theorem dX6_compare_79 : decode cX6_compare 79 = .ok (.istore 6, 2) := by decide +kernel
theorem dX6_compare_81 : decode cX6_compare 81 = .ok (.iload 6, 2) := by decide +kernel
theorem dX6_compare_83 : decode cX6_compare 83 = .ok (.aload_n 0, 1) := by decide +kernel
theorem dX6_compare_84 : decode cX6_compare 84 = .ok (.invokevirtual 53, 3) := by decide +kernel
theorem dX6_compare_87 : decode cX6_compare 87 = .ok (.if_icmp .ge 38, 3) := by decide +kernel
theorem dX6_compare_90 : decode cX6_compare 90 = .ok (.aload_n 0, 1) := by decide +kernel
theorem dX6_compare_91 : decode cX6_compare 91 = .ok (.getfield 39, 3) := by decide +kernel
theorem dX6_compare_94 : decode cX6_compare 94 = .ok (.iload 6, 2) := by decide +kernel
theorem dX6_compare_96 : decode cX6_compare 96 = .ok (.aload_n 0, 1) := by decide +kernel
theorem dX6_compare_97 : decode cX6_compare 97 = .ok (.bipush 10, 2) := by decide +kernel
theorem dX6_compare_99 : decode cX6_compare 99 = .ok (.iload 6, 2) := by decide +kernel
theorem dX6_compare_101 : decode cX6_compare 101 = .ok (.invokevirtual 68, 3) := by decide +kernel
theorem dX6_compare_104 : decode cX6_compare 104 = .ok (.lastore, 1) := by decide +kernel
theorem dX6_compare_105 : decode cX6_compare 105 = .ok (.aload_n 0, 1) := by decide +kernel
theorem dX6_compare_106 : decode cX6_compare 106 = .ok (.getfield 42, 3) := by decide +kernel
theorem dX6_compare_109 : decode cX6_compare 109 = .ok (.iload 6, 2) := by decide +kernel
theorem dX6_compare_111 : decode cX6_compare 111 = .ok (.aload_n 0, 1) := by decide +kernel
theorem dX6_compare_112 : decode cX6_compare 112 = .ok (.iload_n 1, 1) := by decide +kernel
theorem dX6_compare_113 : decode cX6_compare 113 = .ok (.iload 6, 2) := by decide +kernel
theorem dX6_compare_115 : decode cX6_compare 115 = .ok (.invokevirtual 68, 3) := by decide +kernel
theorem dX6_compare_118 : decode cX6_compare 118 = .ok (.lastore, 1) := by decide +kernel
theorem dX6_compare_119 : decode cX6_compare 119 = .ok (.iinc 6 1, 3) := by decide +kernel
theorem dX6_compare_122 : decode cX6_compare 122 = .ok (.goto (-41), 3) := by decide +kernel
theorem dX6_compare_125 : decode cX6_compare 125 = .ok (.iconst 0, 1) := by decide +kernel
theorem dX6_compare_126 : decode cX6_compare 126 = .ok (.istore 6, 2) := by decide +kernel
theorem dX6_compare_128 : decode cX6_compare 128 = .ok (.iload 6, 2) := by decide +kernel
theorem dX6_compare_130 : decode cX6_compare 130 = .ok (.aload_n 0, 1) := by decide +kernel
theorem dX6_compare_131 : decode cX6_compare 131 = .ok (.invokevirtual 53, 3) := by decide +kernel
theorem dX6_compare_134 : decode cX6_compare 134 = .ok (.if_icmp .ge 143, 3) := by decide +kernel
theorem dX6_compare_137 : decode cX6_compare 137 = .ok (.iconst 0, 1) := by decide +kernel
theorem dX6_compare_138 : decode cX6_compare 138 = .ok (.istore 7, 2) := by decide +kernel
theorem dX6_compare_140 : decode cX6_compare 140 = .ok (.iconst 0, 1) := by decide +kernel
theorem dX6_compare_141 : decode cX6_compare 141 = .ok (.istore 8, 2) := by decide +kernel
theorem dX6_compare_143 : decode cX6_compare 143 = .ok (.iconst 1, 1) := by decide +kernel
theorem dX6_compare_144 : decode cX6_compare 144 = .ok (.istore 9, 2) := by decide +kernel
theorem dX6_compare_146 : decode cX6_compare 146 = .ok (.iload 9, 2) := by decide +kernel
theorem dX6_compare_148 : decode cX6_compare 148 = .ok (.aload_n 0, 1) := by decide +kernel
theorem dX6_compare_149 : decode cX6_compare 149 = .ok (.invokevirtual 53, 3) := by decide +kernel
theorem dX6_compare_152 : decode cX6_compare 152 = .ok (.if_icmp .ge 63, 3) := by decide +kernel
theorem dX6_compare_155 : decode cX6_compare 155 = .ok (.aload_n 0, 1) := by decide +kernel
theorem dX6_compare_156 : decode cX6_compare 156 = .ok (.getfield 39, 3) := by decide +kernel
theorem dX6_compare_159 : decode cX6_compare 159 = .ok (.iload 9, 2) := by decide +kernel
theorem dX6_compare_161 : decode cX6_compare 161 = .ok (.laload, 1) := by decide +kernel
theorem dX6_compare_162 : decode cX6_compare 162 = .ok (.aload_n 0, 1) := by decide +kernel
theorem dX6_compare_163 : decode cX6_compare 163 = .ok (.getfield 39, 3) := by decide +kernel
theorem dX6_compare_166 : decode cX6_compare 166 = .ok (.iload 7, 2) := by decide +kernel
theorem dX6_compare_168 : decode cX6_compare 168 = .ok (.laload, 1) := by decide +kernel
theorem dX6_compare_169 : decode cX6_compare 169 = .ok (.lcmp, 1) := by decide +kernel
theorem dX6_compare_170 : decode cX6_compare 170 = .ok (.ifCond .le 8, 3) := by decide +kernel
theorem dX6_compare_173 : decode cX6_compare 173 = .ok (.iload 9, 2) := by decide +kernel
theorem dX6_compare_175 : decode cX6_compare 175 = .ok (.goto 5, 3) := by decide +kernel
theorem dX6_compare_178 : decode cX6_compare 178 = .ok (.iload 7, 2) := by decide +kernel
theorem dX6_compare_180 : decode cX6_compare 180 = .ok (.istore 7, 2) := by decide +kernel
theorem dX6_compare_182 : decode cX6_compare 182 = .ok (.aload_n 0, 1) := by decide +kernel
theorem dX6_compare_183 : decode cX6_compare 183 = .ok (.getfield 42, 3) := by decide +kernel
theorem dX6_compare_186 : decode cX6_compare 186 = .ok (.iload 9, 2) := by decide +kernel
theorem dX6_compare_188 : decode cX6_compare 188 = .ok (.laload, 1) := by decide +kernel
theorem dX6_compare_189 : decode cX6_compare 189 = .ok (.aload_n 0, 1) := by decide +kernel
theorem dX6_compare_190 : decode cX6_compare 190 = .ok (.getfield 42, 3) := by decide +kernel
theorem dX6_compare_193 : decode cX6_compare 193 = .ok (.iload 8, 2) := by decide +kernel
theorem dX6_compare_195 : decode cX6_compare 195 = .ok (.laload, 1) := by decide +kernel
theorem dX6_compare_196 : decode cX6_compare 196 = .ok (.lcmp, 1) := by decide +kernel
theorem dX6_compare_197 : decode cX6_compare 197 = .ok (.ifCond .le 8, 3) := by decide +kernel
theorem dX6_compare_200 : decode cX6_compare 200 = .ok (.iload 9, 2) := by decide +kernel
theorem dX6_compare_202 : decode cX6_compare 202 = .ok (.goto 5, 3) := by decide +kernel
theorem dX6_compare_205 : decode cX6_compare 205 = .ok (.iload 8, 2) := by decide +kernel
theorem dX6_compare_207 : decode cX6_compare 207 = .ok (.istore 8, 2) := by decide +kernel
theorem dX6_compare_209 : decode cX6_compare 209 = .ok (.iinc 9 1, 3) := by decide +kernel
theorem dX6_compare_212 : decode cX6_compare 212 = .ok (.goto (-66), 3) := by decide +kernel
theorem dX6_compare_215 : decode cX6_compare 215 = .ok (.aload_n 0, 1) := by decide +kernel
theorem dX6_compare_216 : decode cX6_compare 216 = .ok (.getfield 39, 3) := by decide +kernel
theorem dX6_compare_219 : decode cX6_compare 219 = .ok (.iload 7, 2) := by decide +kernel
theorem dX6_compare_221 : decode cX6_compare 221 = .ok (.laload, 1) := by decide +kernel
theorem dX6_compare_222 : decode cX6_compare 222 = .ok (.aload_n 0, 1) := by decide +kernel
theorem dX6_compare_223 : decode cX6_compare 223 = .ok (.getfield 42, 3) := by decide +kernel
theorem dX6_compare_226 : decode cX6_compare 226 = .ok (.iload 8, 2) := by decide +kernel
theorem dX6_compare_228 : decode cX6_compare 228 = .ok (.laload, 1) := by decide +kernel
theorem dX6_compare_229 : decode cX6_compare 229 = .ok (.lcmp, 1) := by decide +kernel
theorem dX6_compare_230 : decode cX6_compare 230 = .ok (.ifCond .eq 21, 3) := by decide +kernel
theorem dX6_compare_233 : decode cX6_compare 233 = .ok (.aload_n 0, 1) := by decide +kernel
theorem dX6_compare_234 : decode cX6_compare 234 = .ok (.getfield 39, 3) := by decide +kernel
theorem dX6_compare_237 : decode cX6_compare 237 = .ok (.iload 7, 2) := by decide +kernel
theorem dX6_compare_239 : decode cX6_compare 239 = .ok (.laload, 1) := by decide +kernel
theorem dX6_compare_240 : decode cX6_compare 240 = .ok (.aload_n 0, 1) := by decide +kernel
theorem dX6_compare_241 : decode cX6_compare 241 = .ok (.getfield 42, 3) := by decide +kernel
theorem dX6_compare_244 : decode cX6_compare 244 = .ok (.iload 8, 2) := by decide +kernel
theorem dX6_compare_246 : decode cX6_compare 246 = .ok (.laload, 1) := by decide +kernel
theorem dX6_compare_247 : decode cX6_compare 247 = .ok (.invokestatic 93, 3) := by decide +kernel
theorem dX6_compare_250 : decode cX6_compare 250 = .ok (.ireturn, 1) := by decide +kernel
theorem dX6_compare_251 : decode cX6_compare 251 = .ok (.aload_n 0, 1) := by decide +kernel
theorem dX6_compare_252 : decode cX6_compare 252 = .ok (.getfield 39, 3) := by decide +kernel
theorem dX6_compare_255 : decode cX6_compare 255 = .ok (.iload 7, 2) := by decide +kernel
theorem dX6_compare_257 : decode cX6_compare 257 = .ok (.ldc2_w 75, 3) := by decide +kernel
theorem dX6_compare_260 : decode cX6_compare 260 = .ok (.lastore, 1) := by decide +kernel
theorem dX6_compare_261 : decode cX6_compare 261 = .ok (.aload_n 0, 1) := by decide +kernel
theorem dX6_compare_262 : decode cX6_compare 262 = .ok (.getfield 42, 3) := by decide +kernel
theorem dX6_compare_265 : decode cX6_compare 265 = .ok (.iload 8, 2) := by decide +kernel
theorem dX6_compare_267 : decode cX6_compare 267 = .ok (.ldc2_w 75, 3) := by decide +kernel
theorem dX6_compare_270 : decode cX6_compare 270 = .ok (.lastore, 1) := by decide +kernel
theorem dX6_compare_271 : decode cX6_compare 271 = .ok (.iinc 6 1, 3) := by decide +kernel
theorem dX6_compare_274 : decode cX6_compare 274 = .ok (.goto (-146), 3) := by decide +kernel
theorem dX6_compare_277 : decode cX6_compare 277 = .ok (.iconst 0, 1) := by decide +kernel
theorem dX6_compare_278 : decode cX6_compare 278 = .ok (.ireturn, 1) := by decide +kernel
theorem dX6_like_0 : decode cX6_like 0 = .ok (.iconst 0, 1) := by decide +kernel
theorem dX6_like_1 : decode cX6_like 1 = .ok (.istore_n 3, 1) := by decide +kernel
theorem dX6_like_2 : decode cX6_like 2 = .ok (.sipush 2000, 3) := by decide +kernel
theorem dX6_like_5 : decode cX6_like 5 = .ok (.iload_n 2, 1) := by decide +kernel
theorem dX6_like_6 : decode cX6_like 6 = .ok (.iadd, 1) := by decide +kernel
theorem dX6_like_7 : decode cX6_like 7 = .ok (.istore 4, 2) := by decide +kernel
theorem dX6_like_9 : decode cX6_like 9 = .ok (.sipush 200, 3) := by decide +kernel
theorem dX6_like_12 : decode cX6_like 12 = .ok (.iload_n 1, 1) := by decide +kernel
theorem dX6_like_13 : decode cX6_like 13 = .ok (.imul, 1) := by decide +kernel
theorem dX6_like_14 : decode cX6_like 14 = .ok (.istore 5, 2) := by decide +kernel
theorem dX6_like_16 : decode cX6_like 16 = .ok (.iload 5, 2) := by decide +kernel
theorem dX6_like_18 : decode cX6_like 18 = .ok (.sipush 200, 3) := by decide +kernel
theorem dX6_like_21 : decode cX6_like 21 = .ok (.iload_n 1, 1) := by decide +kernel
theorem dX6_like_22 : decode cX6_like 22 = .ok (.imul, 1) := by decide +kernel
theorem dX6_like_23 : decode cX6_like 23 = .ok (.aload_n 0, 1) := by decide +kernel
theorem dX6_like_24 : decode cX6_like 24 = .ok (.getfield 16, 3) := by decide +kernel
theorem dX6_like_27 : decode cX6_like 27 = .ok (.iload_n 1, 1) := by decide +kernel
theorem dX6_like_28 : decode cX6_like 28 = .ok (.iaload, 1) := by decide +kernel
theorem dX6_like_29 : decode cX6_like 29 = .ok (.iadd, 1) := by decide +kernel
theorem dX6_like_30 : decode cX6_like 30 = .ok (.if_icmp .ge 68, 3) := by decide +kernel
theorem dX6_like_33 : decode cX6_like 33 = .ok (.iload_n 3, 1) := by decide +kernel
theorem dX6_like_34 : decode cX6_like 34 = .ok (.aload_n 0, 1) := by decide +kernel
theorem dX6_like_35 : decode cX6_like 35 = .ok (.getfield 19, 3) := by decide +kernel
theorem dX6_like_38 : decode cX6_like 38 = .ok (.iload 5, 2) := by decide +kernel
theorem dX6_like_40 : decode cX6_like 40 = .ok (.iaload, 1) := by decide +kernel
theorem dX6_like_41 : decode cX6_like 41 = .ok (.aload_n 0, 1) := by decide +kernel
theorem dX6_like_42 : decode cX6_like 42 = .ok (.getfield 19, 3) := by decide +kernel
theorem dX6_like_45 : decode cX6_like 45 = .ok (.iload 4, 2) := by decide +kernel
theorem dX6_like_47 : decode cX6_like 47 = .ok (.iaload, 1) := by decide +kernel
theorem dX6_like_48 : decode cX6_like 48 = .ok (.if_icmp .ne 41, 3) := by decide +kernel
theorem dX6_like_51 : decode cX6_like 51 = .ok (.aload_n 0, 1) := by decide +kernel
theorem dX6_like_52 : decode cX6_like 52 = .ok (.getfield 22, 3) := by decide +kernel
theorem dX6_like_55 : decode cX6_like 55 = .ok (.iload 5, 2) := by decide +kernel
theorem dX6_like_57 : decode cX6_like 57 = .ok (.iaload, 1) := by decide +kernel
theorem dX6_like_58 : decode cX6_like 58 = .ok (.aload_n 0, 1) := by decide +kernel
theorem dX6_like_59 : decode cX6_like 59 = .ok (.getfield 22, 3) := by decide +kernel
theorem dX6_like_62 : decode cX6_like 62 = .ok (.iload 4, 2) := by decide +kernel
theorem dX6_like_64 : decode cX6_like 64 = .ok (.iaload, 1) := by decide +kernel
theorem dX6_like_65 : decode cX6_like 65 = .ok (.if_icmp .ne 24, 3) := by decide +kernel
theorem dX6_like_68 : decode cX6_like 68 = .ok (.aload_n 0, 1) := by decide +kernel
theorem dX6_like_69 : decode cX6_like 69 = .ok (.getfield 25, 3) := by decide +kernel
theorem dX6_like_72 : decode cX6_like 72 = .ok (.iload 5, 2) := by decide +kernel
theorem dX6_like_74 : decode cX6_like 74 = .ok (.iaload, 1) := by decide +kernel
theorem dX6_like_75 : decode cX6_like 75 = .ok (.aload_n 0, 1) := by decide +kernel
theorem dX6_like_76 : decode cX6_like 76 = .ok (.getfield 25, 3) := by decide +kernel
theorem dX6_like_79 : decode cX6_like 79 = .ok (.iload 4, 2) := by decide +kernel
theorem dX6_like_81 : decode cX6_like 81 = .ok (.iaload, 1) := by decide +kernel
theorem dX6_like_82 : decode cX6_like 82 = .ok (.if_icmp .ne 7, 3) := by decide +kernel
theorem dX6_like_85 : decode cX6_like 85 = .ok (.iconst 1, 1) := by decide +kernel
theorem dX6_like_86 : decode cX6_like 86 = .ok (.goto 4, 3) := by decide +kernel
theorem dX6_like_89 : decode cX6_like 89 = .ok (.iconst 0, 1) := by decide +kernel
theorem dX6_like_90 : decode cX6_like 90 = .ok (.iadd, 1) := by decide +kernel
theorem dX6_like_91 : decode cX6_like 91 = .ok (.istore_n 3, 1) := by decide +kernel
theorem dX6_like_92 : decode cX6_like 92 = .ok (.iinc 5 1, 3) := by decide +kernel
theorem dX6_like_95 : decode cX6_like 95 = .ok (.goto (-79), 3) := by decide +kernel
theorem dX6_like_98 : decode cX6_like 98 = .ok (.iload_n 3, 1) := by decide +kernel
theorem dX6_like_99 : decode cX6_like 99 = .ok (.ireturn, 1) := by decide +kernel
theorem dX6_same_0 : decode cX6_same 0 = .ok (.aload_n 0, 1) := by decide +kernel
theorem dX6_same_1 : decode cX6_same 1 = .ok (.iconst 0, 1) := by decide +kernel
theorem dX6_same_2 : decode cX6_same 2 = .ok (.putfield 45, 3) := by decide +kernel
theorem dX6_same_5 : decode cX6_same 5 = .ok (.iload_n 1, 1) := by decide +kernel
theorem dX6_same_6 : decode cX6_same 6 = .ok (.ifCond .lt 24, 3) := by decide +kernel
theorem dX6_same_9 : decode cX6_same 9 = .ok (.iload_n 1, 1) := by decide +kernel
theorem dX6_same_10 : decode cX6_same 10 = .ok (.aload_n 0, 1) := by decide +kernel
theorem dX6_same_11 : decode cX6_same 11 = .ok (.getfield 90, 3) := by decide +kernel
theorem dX6_same_14 : decode cX6_same 14 = .ok (.if_icmp .ge 16, 3) := by decide +kernel
theorem dX6_same_17 : decode cX6_same 17 = .ok (.aload_n 0, 1) := by decide +kernel
theorem dX6_same_18 : decode cX6_same 18 = .ok (.getfield 16, 3) := by decide +kernel
theorem dX6_same_21 : decode cX6_same 21 = .ok (.iload_n 1, 1) := by decide +kernel
theorem dX6_same_22 : decode cX6_same 22 = .ok (.iaload, 1) := by decide +kernel
theorem dX6_same_23 : decode cX6_same 23 = .ok (.aload_n 0, 1) := by decide +kernel
theorem dX6_same_24 : decode cX6_same 24 = .ok (.invokevirtual 53, 3) := by decide +kernel
theorem dX6_same_27 : decode cX6_same 27 = .ok (.if_icmp .eq 5, 3) := by decide +kernel
theorem dX6_same_30 : decode cX6_same 30 = .ok (.iconst 0, 1) := by decide +kernel
theorem dX6_same_31 : decode cX6_same 31 = .ok (.ireturn, 1) := by decide +kernel
theorem dX6_same_32 : decode cX6_same 32 = .ok (.iconst 0, 1) := by decide +kernel
theorem dX6_same_33 : decode cX6_same 33 = .ok (.istore_n 2, 1) := by decide +kernel
theorem dX6_same_34 : decode cX6_same 34 = .ok (.iload_n 2, 1) := by decide +kernel
theorem dX6_same_35 : decode cX6_same 35 = .ok (.aload_n 0, 1) := by decide +kernel
theorem dX6_same_36 : decode cX6_same 36 = .ok (.invokevirtual 53, 3) := by decide +kernel
theorem dX6_same_39 : decode cX6_same 39 = .ok (.if_icmp .ge 27, 3) := by decide +kernel
theorem dX6_same_42 : decode cX6_same 42 = .ok (.aload_n 0, 1) := by decide +kernel
theorem dX6_same_43 : decode cX6_same 43 = .ok (.iload_n 1, 1) := by decide +kernel
theorem dX6_same_44 : decode cX6_same 44 = .ok (.iload_n 2, 1) := by decide +kernel
theorem dX6_same_45 : decode cX6_same 45 = .ok (.invokevirtual 97, 3) := by decide +kernel
theorem dX6_same_48 : decode cX6_same 48 = .ok (.aload_n 0, 1) := by decide +kernel
theorem dX6_same_49 : decode cX6_same 49 = .ok (.bipush 10, 2) := by decide +kernel
theorem dX6_same_51 : decode cX6_same 51 = .ok (.iload_n 2, 1) := by decide +kernel
theorem dX6_same_52 : decode cX6_same 52 = .ok (.invokevirtual 97, 3) := by decide +kernel
theorem dX6_same_55 : decode cX6_same 55 = .ok (.if_icmp .eq 5, 3) := by decide +kernel
theorem dX6_same_58 : decode cX6_same 58 = .ok (.iconst 0, 1) := by decide +kernel
theorem dX6_same_59 : decode cX6_same 59 = .ok (.ireturn, 1) := by decide +kernel
theorem dX6_same_60 : decode cX6_same 60 = .ok (.iinc 2 1, 3) := by decide +kernel
theorem dX6_same_63 : decode cX6_same 63 = .ok (.goto (-29), 3) := by decide +kernel
theorem dX6_same_66 : decode cX6_same 66 = .ok (.iconst 1, 1) := by decide +kernel
theorem dX6_same_67 : decode cX6_same 67 = .ok (.ireturn, 1) := by decide +kernel
end
section
/-! WHAT A METHOD TAKES AND LEAVES -/
theorem qNw_warm {s U : State} (hW : s.WarmedH U.vm) (h : qNw s) : qNw U := by
  refine ⟨fun w hw => ?_, va_AO.moved hW.alike h.2⟩
  have hz := h.1 w hw
  simp only [qNs, List.mem_cons, List.not_mem_nil, or_false] at hw
  rcases hw with rfl | rfl | rfl | rfl | rfl | rfl | rfl | rfl
  all_goals first | exact va_Nw.warmF hW hz | exact va_Nw.warmM hW hz
theorem qNw_same {u U : State} (hv : u.vm = U.vm) (h : qNw u) : qNw U := by
  refine ⟨fun w hw => ?_, va_AO.moved (by rw [hv]; exact Vm.Alike.refl U.vm) h.2⟩
  have hz := h.1 w hw
  simp only [qNs, List.mem_cons, List.not_mem_nil, or_false] at hw
  rcases hw with rfl | rfl | rfl | rfl | rfl | rfl | rfl | rfl
  all_goals exact va_Nw.same rfl hv hz
/-- what a reading method takes: the cells that it reads -/
def qk_pre (G : qG) (cl : List vw_C) (ws : va_W) : State → Prop := fun U => va_P G.1 cl ws U.heap ∧ va_K G.1 cl (qTy G) U ∧ qNw U
/-- what a writing method takes -/
def qk_prw (G : qG) (cl : List vw_C) (ws : va_W) (sz : Nat) : State → Prop := fun U => U.heap.size = sz ∧ va_P G.1 cl ws U.heap ∧ va_K G.1 cl (qTy G) U ∧ va_D (fun _ => True) ws ∧ qNw U
/-- what a writing method leaves -/
def qk_B {S : Type} (G : qG) (cl : List vw_C) (A : Nat → Prop) (w : S → va_W) : S → State → Prop := fun u t => va_P G.1 cl (w u) t.heap ∧ va_K G.1 cl (qTy G) t ∧ va_D A (w u)
theorem qk_blind (G : qG) (cl : List vw_C) (ws : va_W) (av : List Value) : FrameBlind (va_Pc av (qk_pre G cl ws)) := fun a U g mk q => ⟨q.1, q.2.1, va_K.moved (u := U) (U := U.calling g mk a) (Vm.Alike.refl U.vm) q.2.2.1, qNw_same (u := U) (U := U.calling g mk a) rfl q.2.2.2⟩
theorem qk_blindw (G : qG) (cl : List vw_C) (ws : va_W) (sz : Nat) (av : List Value) : FrameBlind (va_Pc av (qk_prw G cl ws sz)) := fun a U g mk q => ⟨q.1, q.2.1, q.2.2.1, va_K.moved (u := U) (U := U.calling g mk a) (Vm.Alike.refl U.vm) q.2.2.2.1, q.2.2.2.2.1, qNw_same (u := U) (U := U.calling g mk a) rfl q.2.2.2.2.2⟩
theorem qk_pv {G : qG} {cl : List vw_C} {ws : va_W} {s : State} {H : Heap} {b q0 ci : Nat} {fs : List Value} {As : List Value} {r : vw_C} (hK : va_K G.1 cl (qTy G) s) (hP : va_P G.1 cl ws H) (hN : qNw s) (hc : cl[ci]? = some r) (he : ws[q0]? = some (b, .inr (ci, fs))) : PreV s H r.1 b (va_Pc (.ref b :: As) (qk_pre G cl ws)) As :=
  ⟨qk_blind G cl ws _, va_recv hK hP hc he, fun U hU hW => ⟨rfl, by rw [hU]; exact hP, va_K.moved hW.alike hK, qNw_warm hW hN⟩⟩
theorem qk_ps {G : qG} {cl : List vw_C} {ws : va_W} {s : State} {H : Heap} {As : List Value} (hK : va_K G.1 cl (qTy G) s) (hP : va_P G.1 cl ws H) (hN : qNw s) : PreS s H (va_Pc As (qk_pre G cl ws)) As :=
  ⟨qk_blind G cl ws _, fun U hU hW => ⟨rfl, by rw [hU]; exact hP, va_K.moved hW.alike hK, qNw_warm hW hN⟩⟩
theorem qk_pvw {G : qG} {cl : List vw_C} {ws : va_W} {s : State} {H : Heap} {A : Nat → Prop} {b q0 ci : Nat} {fs : List Value} {As : List Value} {r : vw_C} (hK : va_K G.1 cl (qTy G) s) (hP : va_P G.1 cl ws H) (hN : qNw s) (hD : va_D A ws) (hc : cl[ci]? = some r) (he : ws[q0]? = some (b, .inr (ci, fs))) : PreV s H r.1 b (va_Pc (.ref b :: As) (qk_prw G cl ws H.size)) As :=
  ⟨qk_blindw G cl ws _ _, va_recv hK hP hc he, fun U hU hW => ⟨rfl, by rw [hU], by rw [hU]; exact hP, va_K.moved hW.alike hK, hD.weaken (fun _ _ _ _ => trivial), qNw_warm hW hN⟩⟩
theorem qk_psw {G : qG} {cl : List vw_C} {ws : va_W} {s : State} {H : Heap} {A : Nat → Prop} {As : List Value} (hK : va_K G.1 cl (qTy G) s) (hP : va_P G.1 cl ws H) (hN : qNw s) (hD : va_D A ws) : PreS s H (va_Pc As (qk_prw G cl ws H.size)) As :=
  ⟨qk_blindw G cl ws _ _, fun U hU hW => ⟨rfl, by rw [hU], by rw [hU]; exact hP, va_K.moved hW.alike hK, hD.weaken (fun _ _ _ _ => trivial), qNw_warm hW hN⟩⟩
end
section
set_option maxHeartbeats 4000000 in
set_option maxRecDepth 100000 in
/-- order: the sign -/
theorem qc_order (l : Launch) (G : qG) (x : Int64) (y : Int64)  : Met l yX5_order wsX5_order ({ frames := 0, cells := 0, slots := 0, locals := 0 } : Room) (va_Pc [.long x, .long y] (qk_pre G vwCl [])) (vp_Si (fun r => qm_sg x y r)) 0 0 (fun _ => False) := by
  refine Met.ofW (cc := cX5_order) (maxL := 4) (ret := (some .int)) (by decide) rfl ?_
  intro p e s m args below meth c s₁ B hml hv
  obtain ⟨rfl, hP, hK, hN⟩ := hv
  have hx := B.exec
  have hb := B.bytes
  have hr := B.returns
  have hlocks := B.notSynchronized
  have hts := atoms_spec (ws := wsX5_order) B.pre
  have htb := fun (w : Cond) (h : w ∈ qTb) => hts w (List.mem_cons_of_mem _ h)
  have hown : s.vm.findClass "GradeRows" = some m.cls := findClass_of_methodNamed B.named
  have hP : va_P G.1 vwCl [] s.heap := hP
  have hl := lv_entry ([.long x, .long y]) (n := 4) (Nat.le_of_ble_eq_true rfl)
  rw [lg_entry_eq]
  generalize (lg_sl ([.long x, .long y]) ++ List.replicate (4 - (lg_sl ([.long x, .long y])).length) Slot.unset).toArray = ls at hl ⊢
  have hl : lv_has ls 4 [(0, .long x), (2, .long y)] := hl
  refine lv_lload_n hx hb dX5_order_0 rfl (lv_at hl 0 rfl) ?_
  refine lv_lload_n hx hb dX5_order_1 rfl (lv_at hl 1 rfl) ?_
  refine W.lcmp hx hb dX5_order_2 ?_
  refine lv_if_ge (tgt := 10) hx hb dX5_order_3 (by decide) (fun c1 => ?_) (fun c1 => ?_)
  · have c1 : y ≤ x := (lg_cmp_ge _ _).mp c1
    refine lv_lload_n hx hb dX5_order_10 rfl (lv_at hl 0 rfl) ?_
    refine lv_lload_n hx hb dX5_order_11 rfl (lv_at hl 1 rfl) ?_
    refine W.lcmp hx hb dX5_order_12 ?_
    refine lv_if_le (tgt := 20) hx hb dX5_order_13 (by decide) (fun c2 => ?_) (fun c2 => ?_)
    · have c2 : x ≤ y := (lg_cmp_le _ _).mp c2
      refine lv_iconst (v := nI 0) hx hb dX5_order_20 (by decide) ?_
      exact W.iret (v := nI 0) hx hb hr (fun t9 ht9 hW9 => ⟨_, rfl, Or.inr (Or.inl ⟨by rw [Int64.le_iff_toInt_le] at c1 c2; rw [← Int64.toInt_inj]; omega, rfl⟩), ht9⟩) (fun q h => absurd h List.not_mem_nil) dX5_order_21
    · have c2 : ¬ (x ≤ y) := fun q9 => c2 ((lg_cmp_le _ _).mpr q9)
      refine lv_iconst (v := nI 1) hx hb dX5_order_16 (by decide) ?_
      refine lv_goto (tgt := 21) hx hb dX5_order_17 (by decide) ?_
      exact W.iret (v := nI 1) hx hb hr (fun t9 ht9 hW9 => ⟨_, rfl, Or.inr (Or.inr ⟨by rw [Int64.le_iff_toInt_le] at c2; rw [Int64.lt_iff_toInt_lt]; omega, rfl⟩), ht9⟩) (fun q h => absurd h List.not_mem_nil) dX5_order_21
  · have c1 : ¬ (y ≤ x) := fun q9 => c1 ((lg_cmp_ge _ _).mpr q9)
    refine lv_iconst (v := (-1)) hx hb dX5_order_6 (by decide) ?_
    refine lv_goto (tgt := 21) hx hb dX5_order_7 (by decide) ?_
    exact W.iret (v := (-1)) hx hb hr (fun t9 ht9 hW9 => ⟨_, rfl, Or.inl ⟨by rw [Int64.le_iff_toInt_le] at c1; rw [Int64.lt_iff_toInt_lt]; omega, rfl⟩, ht9⟩) (fun q h => absurd h List.not_mem_nil) dX5_order_21

set_option maxHeartbeats 4000000 in
set_option maxRecDepth 100000 in
/-- isWithin -/
theorem qc_within (l : Launch) (G : qG) (x : Int32) (a : Int32) (b : Int32)  : Met l yX5_isWithin wsX5_isWithin ({ frames := 0, cells := 0, slots := 0, locals := 0 } : Room) (va_Pc [.int x, .int a, .int b] (qk_pre G vwCl [])) (vp_Si (fun r => r = if a ≤ x ∧ x ≤ b then nI 1 else nI 0)) 0 0 (fun _ => False) := by
  refine Met.ofW (cc := cX5_isWithin) (maxL := 3) (ret := (some .boolean)) (by decide) rfl ?_
  intro p e s m args below meth c s₁ B hml hv
  obtain ⟨rfl, hP, hK, hN⟩ := hv
  have hx := B.exec
  have hb := B.bytes
  have hr := B.returns
  have hlocks := B.notSynchronized
  have hts := atoms_spec (ws := wsX5_isWithin) B.pre
  have htb := fun (w : Cond) (h : w ∈ qTb) => hts w (List.mem_cons_of_mem _ h)
  have hown : s.vm.findClass "GradeRows" = some m.cls := findClass_of_methodNamed B.named
  have hP : va_P G.1 vwCl [] s.heap := hP
  have hl := lv_entry ([.int x, .int a, .int b]) (n := 3) (Nat.le_of_ble_eq_true rfl)
  rw [lg_entry_eq]
  generalize (lg_sl ([.int x, .int a, .int b]) ++ List.replicate (3 - (lg_sl ([.int x, .int a, .int b])).length) Slot.unset).toArray = ls at hl ⊢
  have hl : lv_has ls 3 [(0, .int x), (1, .int a), (2, .int b)] := hl
  refine lv_iload_n hx hb dX5_isWithin_0 rfl (lv_at hl 0 rfl) ?_
  refine lv_iload_n hx hb dX5_isWithin_1 rfl (lv_at hl 1 rfl) ?_
  refine lv_icmp_lt (tgt := 14) hx hb dX5_isWithin_2 (by decide) (fun c1 => ?_) (fun c1 => ?_)
  · refine lv_iconst (v := nI 0) hx hb dX5_isWithin_14 (by decide) ?_
    exact W.zret (v := nI 0) (ty := .boolean) hx hb hr (by decide) (fun t9 ht9 hW9 => ⟨_, rfl, (if_neg (fun h => qm_lt_nle c1 h.1)).symm, ht9⟩) (fun q h => absurd h List.not_mem_nil) dX5_isWithin_15
  · refine lv_iload_n hx hb dX5_isWithin_5 rfl (lv_at hl 0 rfl) ?_
    refine lv_iload_n hx hb dX5_isWithin_6 rfl (lv_at hl 2 rfl) ?_
    refine lv_icmp_gt (tgt := 14) hx hb dX5_isWithin_7 (by decide) (fun c2 => ?_) (fun c2 => ?_)
    · refine lv_iconst (v := nI 0) hx hb dX5_isWithin_14 (by decide) ?_
      exact W.zret (v := nI 0) (ty := .boolean) hx hb hr (by decide) (fun t9 ht9 hW9 => ⟨_, rfl, (if_neg (fun h => qm_lt_nle c2 h.2)).symm, ht9⟩) (fun q h => absurd h List.not_mem_nil) dX5_isWithin_15
    · refine lv_iconst (v := nI 1) hx hb dX5_isWithin_10 (by decide) ?_
      refine lv_goto (tgt := 15) hx hb dX5_isWithin_11 (by decide) ?_
      exact W.zret (v := nI 1) (ty := .boolean) hx hb hr (by decide) (fun t9 ht9 hW9 => ⟨_, rfl, (if_pos ⟨qm_nlt c1, qm_nlt c2⟩).symm, ht9⟩) (fun q h => absurd h List.not_mem_nil) dX5_isWithin_15

set_option maxHeartbeats 4000000 in
set_option maxRecDepth 100000 in
/-- Sorted.size -/
theorem qc_S_size (l : Launch) (G : qG) (h0 : Nat) (q0 : Nat) (n : Nat)  : Met l yX3_size wsX3_size ({ frames := 0, cells := 0, slots := 0, locals := 0 } : Room) (va_Pc [.ref h0] (qk_pre G vwCl [(h0, .inr (3, [.ref q0, .int (nI n)]))])) (vp_Si (fun r => r = nI n)) 0 0 (fun _ => False) := by
  refine Met.ofW (cc := cX3_size) (maxL := 1) (ret := (some .int)) (by decide) rfl ?_
  intro p e s m args below meth c s₁ B hml hv
  obtain ⟨rfl, hP, hK, hN⟩ := hv
  have hx := B.exec
  have hb := B.bytes
  have hr := B.returns
  have hlocks := B.notSynchronized
  have hts := atoms_spec (ws := wsX3_size) B.pre
  have htb := fun (w : Cond) (h : w ∈ qTb) => hts w (List.mem_cons_of_mem _ h)
  have hown : s.vm.findClass "GradeRows$Sorted" = some m.cls := findClass_of_methodNamed B.named
  have hP : va_P G.1 vwCl [(h0, .inr (3, [.ref q0, .int (nI n)]))] s.heap := hP
  have hl := lv_entry ([.ref h0]) (n := 1) (Nat.le_of_ble_eq_true rfl)
  rw [lg_entry_eq]
  generalize (lg_sl ([.ref h0]) ++ List.replicate (1 - (lg_sl ([.ref h0])).length) Slot.unset).toArray = ls at hl ⊢
  have hl : lv_has ls 1 [(0, .ref h0)] := hl
  refine lv_aload_n hx hb dX3_size_0 rfl (lv_at hl 0 rfl) ?_
  refine va_get (D := G.1) (ci := 3) (v := .int (nI n)) (C := "GradeRows$Sorted") (T := TX3) (N := 2) hx hb htb inX3 hown hK hP 0 rfl rfl 1 (by decide) (htb _ qw_68) (fun _ h9 => h9) rfl dX3_size_1 ?_
  exact W.iret (v := nI n) hx hb hr (fun t9 ht9 hW9 => ⟨_, rfl, rfl, ht9⟩) (fun q h => absurd h List.not_mem_nil) dX3_size_4

set_option maxHeartbeats 4000000 in
set_option maxRecDepth 100000 in
/-- Sorted(items, size) -/
theorem qc_S_init (l : Launch) (G : qG) (h0 : Nat) (q0 : Nat) (n : Nat) (sz : Nat)  : Met l yX3_init wsX3_init ({ frames := 1, cells := 0, slots := 0, locals := 20 } : Room) (va_Pc [.ref h0, .ref q0, .int (nI n)] (qk_prw G vwCl [(h0, .inr (3, [.null, .int 0]))] sz)) (va_Qv (fun (_ : Unit) => True) (qk_B G vwCl (va_A [(h0, .inr (3, [.null, .int 0]))] sz) (fun (_ : Unit) => [(h0, .inr (3, [.ref q0, .int (nI n)]))])) (va_A [(h0, .inr (3, [.null, .int 0]))] sz)) 0 0 (va_A [(h0, .inr (3, [.null, .int 0]))] sz) := by
  refine Met.ofW (cc := cX3_init) (maxL := 3) (ret := none) (by decide) rfl ?_
  intro p e s m args below meth c s₁ B hml hv
  obtain ⟨rfl, hsz, hP, hK, hD0, hN⟩ := hv
  have hx := B.exec
  have hb := B.bytes
  have hr := B.returns
  have hlocks := B.notSynchronized
  have hts := atoms_spec (ws := wsX3_init) B.pre
  have htb := fun (w : Cond) (h : w ∈ qTb) => hts w (List.mem_cons_of_mem _ h)
  have hown : s.vm.findClass "GradeRows$Sorted" = some m.cls := findClass_of_methodNamed B.named
  have hin : meth.name = "<init>" := (name_of_methodNamed B.named B.method).1
  subst hsz
  have hD := hD0.self (sz := s.heap.size)
  generalize hAe : va_A [(h0, .inr (3, [.null, .int 0]))] s.heap.size = A at hD ⊢
  have hA : ∀ q : Nat, s.heap.size ≤ q → A q := fun q h => by rw [← hAe]; exact Or.inr h
  have hS : va_S A s.heap s.heap [] := va_S.rf
  have hP : va_P G.1 vwCl [(h0, .inr (3, [.null, .int 0]))] s.heap := hP
  have hl := lv_entry ([.ref h0, .ref q0, .int (nI n)]) (n := 3) (Nat.le_of_ble_eq_true rfl)
  rw [lg_entry_eq]
  generalize (lg_sl ([.ref h0, .ref q0, .int (nI n)]) ++ List.replicate (3 - (lg_sl ([.ref h0, .ref q0, .int (nI n)])).length) Slot.unset).toArray = ls at hl ⊢
  have hl : lv_has ls 3 [(0, .ref h0), (1, .ref q0), (2, .int (nI n))] := hl
  refine lv_aload_n hx hb dX3_init_0 rfl (lv_at hl 0 rfl) ?_
  refine W.objInit hx hb hown (htb _ qw_66) (htb _ qw_29) (htb _ qw_30) rfl (by rw [hml]; exact hl.1) rfl dX3_init_1 (Nat.le_of_ble_eq_true rfl) (Nat.le_of_ble_eq_true rfl) ?_
  refine W.eq (g2 := F0 m 4 ls []) rfl ?_
  refine lv_aload_n hx hb dX3_init_4 rfl (lv_at hl 0 rfl) ?_
  refine lv_aload_n hx hb dX3_init_5 rfl (lv_at hl 1 rfl) ?_
  refine va_putF (D := G.1) (ci := 3) (v := .ref q0) (ty := .array .int) (C := "GradeRows$Sorted") (T := TX3) (N := 2) hx hb htb inX3 tyX3 tyX3_ok nmX3 hown hK hP hD hS 0 rfl rfl 0 (by decide) (htb _ qw_67) (fun _ h9 => h9) rfl hin rfl (by decide +kernel) rfl rfl (Nat.le_of_ble_eq_true rfl) dX3_init_6 (fun H locs hP hD hS => ?_)
  have hP : va_P G.1 vwCl [(h0, .inr (3, [.ref q0, .int 0]))] H := hP
  have hD : va_D A [(h0, .inr (3, [.ref q0, .int 0]))] := hD
  refine lv_aload_n hx hb dX3_init_9 rfl (lv_at hl 0 rfl) ?_
  refine lv_iload_n hx hb dX3_init_10 rfl (lv_at hl 2 rfl) ?_
  refine va_put (D := G.1) (ci := 3) (v := .int (nI n)) (ty := .int) (C := "GradeRows$Sorted") (T := TX3) (N := 2) hx hb htb inX3 tyX3 tyX3_ok nmX3 hown hK hP hD hS 0 rfl rfl 1 (by decide) (htb _ qw_68) (fun _ h9 => h9) rfl (by decide +kernel) rfl rfl (Nat.le_of_ble_eq_true rfl) dX3_init_11 (fun H locs hP hD hS => ?_)
  have hP : va_P G.1 vwCl [(h0, .inr (3, [.ref q0, .int (nI n)]))] H := hP
  have hD : va_D A [(h0, .inr (3, [.ref q0, .int (nI n)]))] := hD
  have hP9 := hP.sub (ws' := [(h0, .inr (3, [.ref q0, .int (nI n)]))]) [0] rfl
  have hD9 := hD.sub (ws' := [(h0, .inr (3, [.ref q0, .int (nI n)]))]) [0] (by decide) rfl
  exact W.vret hx hb hr (fun t9 ht9 hW9 => ⟨⟨(), rfl, trivial, by rw [ht9]; exact hP9, va_K.moved hW9.alike hK, hD9⟩, hS.F ht9⟩) hS.2.2 dX3_init_14

set_option maxHeartbeats 4000000 in
set_option maxRecDepth 100000 in
/-- Sorted.put -/
theorem qc_S_put (l : Launch) (G : qG) (h0 : Nat) (q0 : Nat) (n : Nat) (f : Nat → Int32) (x : Int32) (sz : Nat) (hn : n < 200) : Met l yX3_put wsX3_put ({ frames := 0, cells := 0, slots := 0, locals := 0 } : Room) (va_Pc [.ref h0, .int x] (qk_prw G vwCl [(h0, .inr (3, [.ref q0, .int (nI n)])), (q0, .inl (G.2.1, 200, .inl f))] sz)) (va_Qv (fun (u : Nat → Int32) => qm_ins f n x u) (qk_B G vwCl (va_A [(h0, .inr (3, [.ref q0, .int (nI n)])), (q0, .inl (G.2.1, 200, .inl f))] sz) (fun (u : Nat → Int32) => [(h0, .inr (3, [.ref q0, .int (nI (n + 1))])), (q0, .inl (G.2.1, 200, .inl u))])) (va_A [(h0, .inr (3, [.ref q0, .int (nI n)])), (q0, .inl (G.2.1, 200, .inl f))] sz)) 0 0 (va_A [(h0, .inr (3, [.ref q0, .int (nI n)])), (q0, .inl (G.2.1, 200, .inl f))] sz) := by
  refine Met.ofW (cc := cX3_put) (maxL := 3) (ret := none) (by decide) rfl ?_
  intro p e s m args below meth c s₁ B hml hv
  obtain ⟨rfl, hsz, hP, hK, hD0, hN⟩ := hv
  have hx := B.exec
  have hb := B.bytes
  have hr := B.returns
  have hlocks := B.notSynchronized
  have hts := atoms_spec (ws := wsX3_put) B.pre
  have htb := fun (w : Cond) (h : w ∈ qTb) => hts w (List.mem_cons_of_mem _ h)
  have hown : s.vm.findClass "GradeRows$Sorted" = some m.cls := findClass_of_methodNamed B.named
  subst hsz
  have hD := hD0.self (sz := s.heap.size)
  generalize hAe : va_A [(h0, .inr (3, [.ref q0, .int (nI n)])), (q0, .inl (G.2.1, 200, .inl f))] s.heap.size = A at hD ⊢
  have hA : ∀ q : Nat, s.heap.size ≤ q → A q := fun q h => by rw [← hAe]; exact Or.inr h
  have hS : va_S A s.heap s.heap [] := va_S.rf
  have hP : va_P G.1 vwCl [(h0, .inr (3, [.ref q0, .int (nI n)])), (q0, .inl (G.2.1, 200, .inl f))] s.heap := hP
  have hl := lv_entry ([.ref h0, .int x]) (n := 3) (Nat.le_of_ble_eq_true rfl)
  rw [lg_entry_eq]
  generalize (lg_sl ([.ref h0, .int x]) ++ List.replicate (3 - (lg_sl ([.ref h0, .int x])).length) Slot.unset).toArray = ls at hl ⊢
  have hl : lv_has ls 3 [(0, .ref h0), (1, .int x)] := hl
  refine lv_aload_n hx hb dX3_put_0 rfl (lv_at hl 0 rfl) ?_
  refine va_get (D := G.1) (ci := 3) (v := .int (nI n)) (C := "GradeRows$Sorted") (T := TX3) (N := 2) hx hb htb inX3 hown hK hP 0 rfl rfl 1 (by decide) (htb _ qw_68) (fun _ h9 => h9) rfl dX3_put_1 ?_
  refine lv_aload_n hx hb dX3_put_4 rfl (lv_at hl 0 rfl) ?_
  refine va_get (D := G.1) (ci := 3) (v := .ref q0) (C := "GradeRows$Sorted") (T := TX3) (N := 2) hx hb htb inX3 hown hK hP 0 rfl rfl 0 (by decide) (htb _ qw_67) (fun _ h9 => h9) rfl dX3_put_5 ?_
  refine va_alen (v := nI 200) hx hb hK hP 1 0 rfl rfl rfl dX3_put_8 ?_
  refine lv_icmp_lt (tgt := 13) hx hb dX3_put_9 (by decide) (fun c_1 => ?_) (fun c_1 => ?_)
  · have c_1 : n < 200 := (nI_ltI (by omega) (by omega)).mp c_1
    refine lv_aload_n hx hb dX3_put_13 rfl (lv_at hl 0 rfl) ?_
    refine va_get (D := G.1) (ci := 3) (v := .int (nI n)) (C := "GradeRows$Sorted") (T := TX3) (N := 2) hx hb htb inX3 hown hK hP 0 rfl rfl 1 (by decide) (htb _ qw_68) (fun _ h9 => h9) rfl dX3_put_14 ?_
    refine lv_istore_n (lv' := [(2, .int (nI n)), (0, .ref h0), (1, .int x)]) hx hb dX3_put_17 rfl hl (by decide) rfl (fun ls hl => ?_)
    have loop_18 : ∀ (N : Nat) (j : Nat) (g : Nat → Int32) (H : Heap) (locs : List Loc) (ls : Array Slot), j < N → (j ≤ n) → (∀ k, k < j → g k = f k) → (∀ k, j ≤ k → k < n → g (k + 1) = f k) → (j < n → x ≤ f j) → va_P G.1 vwCl [(h0, .inr (3, [.ref q0, .int (nI n)])), (q0, .inl (G.2.1, 200, .inl g))] H → va_D A [(h0, .inr (3, [.ref q0, .int (nI n)])), (q0, .inl (G.2.1, 200, .inl g))] → va_S A s.heap H locs → lv_has ls 3 [(2, .int (nI j)), (0, .ref h0), (1, .int x)] → W p l e (headSpec wsX3_put ({ frames := 0, cells := 0, slots := 0, locals := 0 } : Room)).room s m ([.ref h0, .int x] : List Value).toArray below meth c H locs 0 0 (MQ below (va_Qv (fun (u : Nat → Int32) => qm_ins f n x u) (qk_B G vwCl A (fun (u : Nat → Int32) => [(h0, .inr (3, [.ref q0, .int (nI (n + 1))])), (q0, .inl (G.2.1, 200, .inl u))])) A) ([.ref h0, .int x] : List Value).toArray s 0 0 A) (F0 m 18 ls []) := by
      intro N
      induction N with
      | zero => intro j g H locs ls hm; exact absurd hm (Nat.not_lt_zero _)
      | succ N ih =>
        intro j g H locs ls hm hj h1 h3 h5 hP hD hS hl
        refine lv_iload_n hx hb dX3_put_18 rfl (lv_at hl 0 rfl) ?_
        refine lv_if_le (tgt := 54) hx hb dX3_put_19 (by decide) (fun c_2 => ?_) (fun c_2 => ?_)
        · have c_2 : j ≤ 0 := (z0le (by omega)).mp c_2
          refine lv_aload_n hx hb dX3_put_54 rfl (lv_at hl 1 rfl) ?_
          refine va_get (D := G.1) (ci := 3) (v := .ref q0) (C := "GradeRows$Sorted") (T := TX3) (N := 2) hx hb htb inX3 hown hK hP 0 rfl rfl 0 (by decide) (htb _ qw_67) (fun _ h9 => h9) rfl dX3_put_55 ?_
          refine lv_iload_n hx hb dX3_put_58 rfl (lv_at hl 0 rfl) ?_
          refine lv_iload_n hx hb dX3_put_59 rfl (lv_at hl 2 rfl) ?_
          refine qk_iast hx hb hK hP hD hS 1 0 rfl rfl (i := j) (by omega) (by omega) dX3_put_60 (fun H locs hP hD hS => ?_)
          have hP : va_P G.1 vwCl [(h0, .inr (3, [.ref q0, .int (nI n)])), (q0, .inl (G.2.1, 200, .inl (upd g j x)))] H := hP
          have hD : va_D A [(h0, .inr (3, [.ref q0, .int (nI n)])), (q0, .inl (G.2.1, 200, .inl (upd g j x)))] := hD
          refine lv_aload_n hx hb dX3_put_61 rfl (lv_at hl 1 rfl) ?_
          refine lv_dup hx hb dX3_put_62 rfl ?_
          refine va_get (D := G.1) (ci := 3) (v := .int (nI n)) (C := "GradeRows$Sorted") (T := TX3) (N := 2) hx hb htb inX3 hown hK hP 0 rfl rfl 1 (by decide) (htb _ qw_68) (fun _ h9 => h9) rfl dX3_put_63 ?_
          refine lv_iconst (v := nI 1) hx hb dX3_put_66 (by decide) ?_
          refine lv_iadd hx hb dX3_put_67 ?_
          refine qk_topi (t := nI (n + 1)) (nI_add _ _) ?_
          refine va_put (D := G.1) (ci := 3) (v := .int (nI (n + 1))) (ty := .int) (C := "GradeRows$Sorted") (T := TX3) (N := 2) hx hb htb inX3 tyX3 tyX3_ok nmX3 hown hK hP hD hS 0 rfl rfl 1 (by decide) (htb _ qw_68) (fun _ h9 => h9) rfl (by decide +kernel) rfl rfl (Nat.le_of_ble_eq_true rfl) dX3_put_68 (fun H locs hP hD hS => ?_)
          have hP : va_P G.1 vwCl [(h0, .inr (3, [.ref q0, .int (nI (n + 1))])), (q0, .inl (G.2.1, 200, .inl (upd g j x)))] H := hP
          have hD : va_D A [(h0, .inr (3, [.ref q0, .int (nI (n + 1))])), (q0, .inl (G.2.1, 200, .inl (upd g j x)))] := hD
          have hP9 := hP.sub (ws' := [(h0, .inr (3, [.ref q0, .int (nI (n + 1))])), (q0, .inl (G.2.1, 200, .inl (upd g j x)))]) [0, 1] rfl
          have hD9 := hD.sub (ws' := [(h0, .inr (3, [.ref q0, .int (nI (n + 1))])), (q0, .inl (G.2.1, 200, .inl (upd g j x)))]) [0, 1] (by decide) rfl
          exact W.vret hx hb hr (fun t9 ht9 hW9 => ⟨⟨(upd g j x), rfl, ⟨j, hj, fun k hk => (pk_un (by omega)).trans (h1 k hk), pk_us, fun k a b => (pk_un (by omega)).trans (h3 k a b), by first | (intro a; omega) | (intro a; exact cle), h5⟩, by rw [ht9]; exact hP9, va_K.moved hW9.alike hK, hD9⟩, hS.F ht9⟩) hS.2.2 dX3_put_71
        · have c_2 : ¬ (j ≤ 0) := fun q9 => c_2 ((z0le (by omega)).mpr q9)
          refine lv_aload_n hx hb dX3_put_22 rfl (lv_at hl 1 rfl) ?_
          refine va_get (D := G.1) (ci := 3) (v := .ref q0) (C := "GradeRows$Sorted") (T := TX3) (N := 2) hx hb htb inX3 hown hK hP 0 rfl rfl 0 (by decide) (htb _ qw_67) (fun _ h9 => h9) rfl dX3_put_23 ?_
          refine lv_iload_n hx hb dX3_put_26 rfl (lv_at hl 0 rfl) ?_
          refine lv_iconst (v := nI 1) hx hb dX3_put_27 (by decide) ?_
          refine lv_isub hx hb dX3_put_28 ?_
          refine qk_topi (t := nI (j - 1)) (pk_sub (by omega)) ?_
          refine qk_iald hx hb hK hP 1 0 rfl rfl (i := (j - 1)) (by omega) (by omega) (v := f (j - 1)) (h1 _ (by omega)) dX3_put_29 ?_
          refine lv_iload_n hx hb dX3_put_30 rfl (lv_at hl 2 rfl) ?_
          refine lv_icmp_le (tgt := 54) hx hb dX3_put_31 (by decide) (fun cle => ?_) (fun cle => ?_)
          · refine lv_aload_n hx hb dX3_put_54 rfl (lv_at hl 1 rfl) ?_
            refine va_get (D := G.1) (ci := 3) (v := .ref q0) (C := "GradeRows$Sorted") (T := TX3) (N := 2) hx hb htb inX3 hown hK hP 0 rfl rfl 0 (by decide) (htb _ qw_67) (fun _ h9 => h9) rfl dX3_put_55 ?_
            refine lv_iload_n hx hb dX3_put_58 rfl (lv_at hl 0 rfl) ?_
            refine lv_iload_n hx hb dX3_put_59 rfl (lv_at hl 2 rfl) ?_
            refine qk_iast hx hb hK hP hD hS 1 0 rfl rfl (i := j) (by omega) (by omega) dX3_put_60 (fun H locs hP hD hS => ?_)
            have hP : va_P G.1 vwCl [(h0, .inr (3, [.ref q0, .int (nI n)])), (q0, .inl (G.2.1, 200, .inl (upd g j x)))] H := hP
            have hD : va_D A [(h0, .inr (3, [.ref q0, .int (nI n)])), (q0, .inl (G.2.1, 200, .inl (upd g j x)))] := hD
            refine lv_aload_n hx hb dX3_put_61 rfl (lv_at hl 1 rfl) ?_
            refine lv_dup hx hb dX3_put_62 rfl ?_
            refine va_get (D := G.1) (ci := 3) (v := .int (nI n)) (C := "GradeRows$Sorted") (T := TX3) (N := 2) hx hb htb inX3 hown hK hP 0 rfl rfl 1 (by decide) (htb _ qw_68) (fun _ h9 => h9) rfl dX3_put_63 ?_
            refine lv_iconst (v := nI 1) hx hb dX3_put_66 (by decide) ?_
            refine lv_iadd hx hb dX3_put_67 ?_
            refine qk_topi (t := nI (n + 1)) (nI_add _ _) ?_
            refine va_put (D := G.1) (ci := 3) (v := .int (nI (n + 1))) (ty := .int) (C := "GradeRows$Sorted") (T := TX3) (N := 2) hx hb htb inX3 tyX3 tyX3_ok nmX3 hown hK hP hD hS 0 rfl rfl 1 (by decide) (htb _ qw_68) (fun _ h9 => h9) rfl (by decide +kernel) rfl rfl (Nat.le_of_ble_eq_true rfl) dX3_put_68 (fun H locs hP hD hS => ?_)
            have hP : va_P G.1 vwCl [(h0, .inr (3, [.ref q0, .int (nI (n + 1))])), (q0, .inl (G.2.1, 200, .inl (upd g j x)))] H := hP
            have hD : va_D A [(h0, .inr (3, [.ref q0, .int (nI (n + 1))])), (q0, .inl (G.2.1, 200, .inl (upd g j x)))] := hD
            have hP9 := hP.sub (ws' := [(h0, .inr (3, [.ref q0, .int (nI (n + 1))])), (q0, .inl (G.2.1, 200, .inl (upd g j x)))]) [0, 1] rfl
            have hD9 := hD.sub (ws' := [(h0, .inr (3, [.ref q0, .int (nI (n + 1))])), (q0, .inl (G.2.1, 200, .inl (upd g j x)))]) [0, 1] (by decide) rfl
            exact W.vret hx hb hr (fun t9 ht9 hW9 => ⟨⟨(upd g j x), rfl, ⟨j, hj, fun k hk => (pk_un (by omega)).trans (h1 k hk), pk_us, fun k a b => (pk_un (by omega)).trans (h3 k a b), by first | (intro a; omega) | (intro a; exact cle), h5⟩, by rw [ht9]; exact hP9, va_K.moved hW9.alike hK, hD9⟩, hS.F ht9⟩) hS.2.2 dX3_put_71
          · refine lv_aload_n hx hb dX3_put_34 rfl (lv_at hl 1 rfl) ?_
            refine va_get (D := G.1) (ci := 3) (v := .ref q0) (C := "GradeRows$Sorted") (T := TX3) (N := 2) hx hb htb inX3 hown hK hP 0 rfl rfl 0 (by decide) (htb _ qw_67) (fun _ h9 => h9) rfl dX3_put_35 ?_
            refine lv_iload_n hx hb dX3_put_38 rfl (lv_at hl 0 rfl) ?_
            refine lv_aload_n hx hb dX3_put_39 rfl (lv_at hl 1 rfl) ?_
            refine va_get (D := G.1) (ci := 3) (v := .ref q0) (C := "GradeRows$Sorted") (T := TX3) (N := 2) hx hb htb inX3 hown hK hP 0 rfl rfl 0 (by decide) (htb _ qw_67) (fun _ h9 => h9) rfl dX3_put_40 ?_
            refine lv_iload_n hx hb dX3_put_43 rfl (lv_at hl 0 rfl) ?_
            refine lv_iconst (v := nI 1) hx hb dX3_put_44 (by decide) ?_
            refine lv_isub hx hb dX3_put_45 ?_
            refine qk_topi (t := nI (j - 1)) (pk_sub (by omega)) ?_
            refine qk_iald hx hb hK hP 1 0 rfl rfl (i := (j - 1)) (by omega) (by omega) (v := f (j - 1)) (h1 _ (by omega)) dX3_put_46 ?_
            refine qk_iast hx hb hK hP hD hS 1 0 rfl rfl (i := j) (by omega) (by omega) dX3_put_47 (fun H locs hP hD hS => ?_)
            have hP : va_P G.1 vwCl [(h0, .inr (3, [.ref q0, .int (nI n)])), (q0, .inl (G.2.1, 200, .inl (upd g j (f (j - 1)))))] H := hP
            have hD : va_D A [(h0, .inr (3, [.ref q0, .int (nI n)])), (q0, .inl (G.2.1, 200, .inl (upd g j (f (j - 1)))))] := hD
            refine lv_iinc (v := nI (j - 1)) (lv' := [(2, .int (nI (j - 1))), (0, .ref h0), (1, .int x)]) hx hb dX3_put_48 hl (k := 0) rfl (sb_m1 (p := j) (by omega)) (by decide) rfl (fun ls hl => ?_)
            refine lv_goto (tgt := 18) hx hb dX3_put_51 (by decide) ?_
            exact ih (j - 1) (upd g j (f (j - 1))) _ _ ls (by omega) (by omega) (fun k hk => (pk_un (by omega)).trans (h1 k (by omega))) (fun k a b => by
                          rcases Nat.lt_or_ge k j with z | z
                          · rw [show k + 1 = j by omega, pk_us, show k = j - 1 by omega]
                          · rw [pk_un (by omega)]; exact h3 k z b) (fun _ => qm_lt_le (qm_nle cle)) hP hD hS (lv_sub hl [0, 1, 2] rfl)
    exact loop_18 (n + 1) n f _ _ ls (by omega) (Nat.le_refl n) (fun _ _ => rfl) (fun k a b => absurd b (by omega)) (fun a => absurd a (by omega)) hP hD hS (lv_sub hl [0, 1, 2] rfl)
  · have c_1 : ¬ (n < 200) := fun q9 => c_1 ((nI_ltI (by omega) (by omega)).mpr q9)
    exfalso; omega

set_option maxHeartbeats 4000000 in
set_option maxRecDepth 100000 in
/-- Sorted.take -/
theorem qc_S_take (l : Launch) (G : qG) (h0 : Nat) (q0 : Nat) (n : Nat) (f : Nat → Int32) (x : Int32) (sz : Nat) (hn : n < 200) (hf : ∃ k, k < n + 1 ∧ f k = x) : Met l yX3_take wsX3_take ({ frames := 0, cells := 0, slots := 0, locals := 0 } : Room) (va_Pc [.ref h0, .int x] (qk_prw G vwCl [(h0, .inr (3, [.ref q0, .int (nI (n + 1))])), (q0, .inl (G.2.1, 200, .inl f))] sz)) (va_Qv (fun (u : Nat → Int32) => qm_del f n x u) (qk_B G vwCl (va_A [(h0, .inr (3, [.ref q0, .int (nI (n + 1))])), (q0, .inl (G.2.1, 200, .inl f))] sz) (fun (u : Nat → Int32) => [(h0, .inr (3, [.ref q0, .int (nI n)])), (q0, .inl (G.2.1, 200, .inl u))])) (va_A [(h0, .inr (3, [.ref q0, .int (nI (n + 1))])), (q0, .inl (G.2.1, 200, .inl f))] sz)) 0 0 (va_A [(h0, .inr (3, [.ref q0, .int (nI (n + 1))])), (q0, .inl (G.2.1, 200, .inl f))] sz) := by
  refine Met.ofW (cc := cX3_take) (maxL := 4) (ret := none) (by decide) rfl ?_
  intro p e s m args below meth c s₁ B hml hv
  obtain ⟨rfl, hsz, hP, hK, hD0, hN⟩ := hv
  have hx := B.exec
  have hb := B.bytes
  have hr := B.returns
  have hlocks := B.notSynchronized
  have hts := atoms_spec (ws := wsX3_take) B.pre
  have htb := fun (w : Cond) (h : w ∈ qTb) => hts w (List.mem_cons_of_mem _ h)
  have hown : s.vm.findClass "GradeRows$Sorted" = some m.cls := findClass_of_methodNamed B.named
  subst hsz
  have hD := hD0.self (sz := s.heap.size)
  generalize hAe : va_A [(h0, .inr (3, [.ref q0, .int (nI (n + 1))])), (q0, .inl (G.2.1, 200, .inl f))] s.heap.size = A at hD ⊢
  have hA : ∀ q : Nat, s.heap.size ≤ q → A q := fun q h => by rw [← hAe]; exact Or.inr h
  have hS : va_S A s.heap s.heap [] := va_S.rf
  have hP : va_P G.1 vwCl [(h0, .inr (3, [.ref q0, .int (nI (n + 1))])), (q0, .inl (G.2.1, 200, .inl f))] s.heap := hP
  have hl := lv_entry ([.ref h0, .int x]) (n := 4) (Nat.le_of_ble_eq_true rfl)
  rw [lg_entry_eq]
  generalize (lg_sl ([.ref h0, .int x]) ++ List.replicate (4 - (lg_sl ([.ref h0, .int x])).length) Slot.unset).toArray = ls at hl ⊢
  have hl : lv_has ls 4 [(0, .ref h0), (1, .int x)] := hl
  refine lv_iconst (v := nI 0) hx hb dX3_take_0 (by decide) ?_
  refine lv_istore_n (lv' := [(2, .int (nI 0)), (0, .ref h0), (1, .int x)]) hx hb dX3_take_1 rfl hl (by decide) rfl (fun ls hl => ?_)
  have loop_2 : ∀ (N : Nat) (j : Nat) (H : Heap) (locs : List Loc) (ls : Array Slot), n + 1 - j < N → (j ≤ n) → (∀ k, k < j → ¬ f k = x) → va_P G.1 vwCl [(h0, .inr (3, [.ref q0, .int (nI (n + 1))])), (q0, .inl (G.2.1, 200, .inl f))] H → va_D A [(h0, .inr (3, [.ref q0, .int (nI (n + 1))])), (q0, .inl (G.2.1, 200, .inl f))] → va_S A s.heap H locs → lv_has ls 4 [(2, .int (nI j)), (0, .ref h0), (1, .int x)] → W p l e (headSpec wsX3_take ({ frames := 0, cells := 0, slots := 0, locals := 0 } : Room)).room s m ([.ref h0, .int x] : List Value).toArray below meth c H locs 0 0 (MQ below (va_Qv (fun (u : Nat → Int32) => qm_del f n x u) (qk_B G vwCl A (fun (u : Nat → Int32) => [(h0, .inr (3, [.ref q0, .int (nI n)])), (q0, .inl (G.2.1, 200, .inl u))])) A) ([.ref h0, .int x] : List Value).toArray s 0 0 A) (F0 m 2 ls []) := by
    intro N
    induction N with
    | zero => intro j H locs ls hm; exact absurd hm (Nat.not_lt_zero _)
    | succ N ih =>
      intro j H locs ls hm hj h1 hP hD hS hl
      refine lv_iload_n hx hb dX3_take_2 rfl (lv_at hl 0 rfl) ?_
      refine lv_aload_n hx hb dX3_take_3 rfl (lv_at hl 1 rfl) ?_
      refine va_get (D := G.1) (ci := 3) (v := .int (nI (n + 1))) (C := "GradeRows$Sorted") (T := TX3) (N := 2) hx hb htb inX3 hown hK hP 0 rfl rfl 1 (by decide) (htb _ qw_68) (fun _ h9 => h9) rfl dX3_take_4 ?_
      refine lv_icmp_ge (tgt := 26) hx hb dX3_take_7 (by decide) (fun c_1 => ?_) (fun c_1 => ?_)
      · have c_1 : (n + 1) ≤ j := (nI_leI (by omega) (by omega)).mp c_1
        exfalso; omega
      · have c_1 : ¬ ((n + 1) ≤ j) := fun q9 => c_1 ((nI_leI (by omega) (by omega)).mpr q9)
        refine lv_aload_n hx hb dX3_take_10 rfl (lv_at hl 1 rfl) ?_
        refine va_get (D := G.1) (ci := 3) (v := .ref q0) (C := "GradeRows$Sorted") (T := TX3) (N := 2) hx hb htb inX3 hown hK hP 0 rfl rfl 0 (by decide) (htb _ qw_67) (fun _ h9 => h9) rfl dX3_take_11 ?_
        refine lv_iload_n hx hb dX3_take_14 rfl (lv_at hl 0 rfl) ?_
        refine qk_iald hx hb hK hP 1 0 rfl rfl (i := j) (by omega) (by omega) (v := f j) rfl dX3_take_15 ?_
        refine lv_iload_n hx hb dX3_take_16 rfl (lv_at hl 2 rfl) ?_
        refine lv_icmp_eq (tgt := 26) hx hb dX3_take_17 (by decide) (fun cj => ?_) (fun cj => ?_)
        · refine lv_iload_n hx hb dX3_take_26 rfl (lv_at hl 0 rfl) ?_
          refine lv_aload_n hx hb dX3_take_27 rfl (lv_at hl 1 rfl) ?_
          refine va_get (D := G.1) (ci := 3) (v := .int (nI (n + 1))) (C := "GradeRows$Sorted") (T := TX3) (N := 2) hx hb htb inX3 hown hK hP 0 rfl rfl 1 (by decide) (htb _ qw_68) (fun _ h9 => h9) rfl dX3_take_28 ?_
          refine lv_icmp_lt (tgt := 35) hx hb dX3_take_31 (by decide) (fun c_3 => ?_) (fun c_3 => ?_)
          · have c_3 : j < (n + 1) := (nI_ltI (by omega) (by omega)).mp c_3
            refine lv_iload_n hx hb dX3_take_35 rfl (lv_at hl 0 rfl) ?_
            refine lv_iconst (v := nI 1) hx hb dX3_take_36 (by decide) ?_
            refine lv_iadd hx hb dX3_take_37 ?_
            refine qk_topi (t := nI (j + 1)) (nI_add _ _) ?_
            refine lv_istore_n (lv' := [(3, .int (nI (j + 1))), (2, .int (nI j)), (0, .ref h0), (1, .int x)]) hx hb dX3_take_38 rfl hl (by decide) rfl (fun ls hl => ?_)
            have loop_39 : ∀ (N : Nat) (i : Nat) (g : Nat → Int32) (H : Heap) (locs : List Loc) (ls : Array Slot), n + 1 - i < N → (j + 1 ≤ i ∧ i ≤ n + 1) → (∀ k, k < j → g k = f k) → (∀ k, j ≤ k → k < i - 1 → g k = f (k + 1)) → (∀ k, i - 1 ≤ k → g k = f k) → va_P G.1 vwCl [(h0, .inr (3, [.ref q0, .int (nI (n + 1))])), (q0, .inl (G.2.1, 200, .inl g))] H → va_D A [(h0, .inr (3, [.ref q0, .int (nI (n + 1))])), (q0, .inl (G.2.1, 200, .inl g))] → va_S A s.heap H locs → lv_has ls 4 [(3, .int (nI i)), (2, .int (nI j)), (0, .ref h0), (1, .int x)] → W p l e (headSpec wsX3_take ({ frames := 0, cells := 0, slots := 0, locals := 0 } : Room)).room s m ([.ref h0, .int x] : List Value).toArray below meth c H locs 0 0 (MQ below (va_Qv (fun (u : Nat → Int32) => qm_del f n x u) (qk_B G vwCl A (fun (u : Nat → Int32) => [(h0, .inr (3, [.ref q0, .int (nI n)])), (q0, .inl (G.2.1, 200, .inl u))])) A) ([.ref h0, .int x] : List Value).toArray s 0 0 A) (F0 m 39 ls []) := by
              intro N
              induction N with
              | zero => intro i g H locs ls hm; exact absurd hm (Nat.not_lt_zero _)
              | succ N ih =>
                intro i g H locs ls hm hi hg1 hg2 hg3 hP hD hS hl
                refine lv_iload_n hx hb dX3_take_39 rfl (lv_at hl 0 rfl) ?_
                refine lv_aload_n hx hb dX3_take_40 rfl (lv_at hl 2 rfl) ?_
                refine va_get (D := G.1) (ci := 3) (v := .int (nI (n + 1))) (C := "GradeRows$Sorted") (T := TX3) (N := 2) hx hb htb inX3 hown hK hP 0 rfl rfl 1 (by decide) (htb _ qw_68) (fun _ h9 => h9) rfl dX3_take_41 ?_
                refine lv_icmp_ge (tgt := 67) hx hb dX3_take_44 (by decide) (fun c_4 => ?_) (fun c_4 => ?_)
                · have c_4 : (n + 1) ≤ i := (nI_leI (by omega) (by omega)).mp c_4
                  refine lv_aload_n hx hb dX3_take_67 rfl (lv_at hl 2 rfl) ?_
                  refine lv_dup hx hb dX3_take_68 rfl ?_
                  refine va_get (D := G.1) (ci := 3) (v := .int (nI (n + 1))) (C := "GradeRows$Sorted") (T := TX3) (N := 2) hx hb htb inX3 hown hK hP 0 rfl rfl 1 (by decide) (htb _ qw_68) (fun _ h9 => h9) rfl dX3_take_69 ?_
                  refine lv_iconst (v := nI 1) hx hb dX3_take_72 (by decide) ?_
                  refine lv_isub hx hb dX3_take_73 ?_
                  refine qk_topi (t := nI n) (nI_pred n) ?_
                  refine va_put (D := G.1) (ci := 3) (v := .int (nI n)) (ty := .int) (C := "GradeRows$Sorted") (T := TX3) (N := 2) hx hb htb inX3 tyX3 tyX3_ok nmX3 hown hK hP hD hS 0 rfl rfl 1 (by decide) (htb _ qw_68) (fun _ h9 => h9) rfl (by decide +kernel) rfl rfl (Nat.le_of_ble_eq_true rfl) dX3_take_74 (fun H locs hP hD hS => ?_)
                  have hP : va_P G.1 vwCl [(h0, .inr (3, [.ref q0, .int (nI n)])), (q0, .inl (G.2.1, 200, .inl g))] H := hP
                  have hD : va_D A [(h0, .inr (3, [.ref q0, .int (nI n)])), (q0, .inl (G.2.1, 200, .inl g))] := hD
                  have hP9 := hP.sub (ws' := [(h0, .inr (3, [.ref q0, .int (nI n)])), (q0, .inl (G.2.1, 200, .inl g))]) [0, 1] rfl
                  have hD9 := hD.sub (ws' := [(h0, .inr (3, [.ref q0, .int (nI n)])), (q0, .inl (G.2.1, 200, .inl g))]) [0, 1] (by decide) rfl
                  exact W.vret hx hb hr (fun t9 ht9 hW9 => ⟨⟨g, rfl, ⟨j, hj, cj, hg1, fun k a b => hg2 k a (by omega)⟩, by rw [ht9]; exact hP9, va_K.moved hW9.alike hK, hD9⟩, hS.F ht9⟩) hS.2.2 dX3_take_77
                · have c_4 : ¬ ((n + 1) ≤ i) := fun q9 => c_4 ((nI_leI (by omega) (by omega)).mpr q9)
                  refine lv_aload_n hx hb dX3_take_47 rfl (lv_at hl 2 rfl) ?_
                  refine va_get (D := G.1) (ci := 3) (v := .ref q0) (C := "GradeRows$Sorted") (T := TX3) (N := 2) hx hb htb inX3 hown hK hP 0 rfl rfl 0 (by decide) (htb _ qw_67) (fun _ h9 => h9) rfl dX3_take_48 ?_
                  refine lv_iload_n hx hb dX3_take_51 rfl (lv_at hl 0 rfl) ?_
                  refine lv_iconst (v := nI 1) hx hb dX3_take_52 (by decide) ?_
                  refine lv_isub hx hb dX3_take_53 ?_
                  refine qk_topi (t := nI (i - 1)) (pk_sub (by omega)) ?_
                  refine lv_aload_n hx hb dX3_take_54 rfl (lv_at hl 2 rfl) ?_
                  refine va_get (D := G.1) (ci := 3) (v := .ref q0) (C := "GradeRows$Sorted") (T := TX3) (N := 2) hx hb htb inX3 hown hK hP 0 rfl rfl 0 (by decide) (htb _ qw_67) (fun _ h9 => h9) rfl dX3_take_55 ?_
                  refine lv_iload_n hx hb dX3_take_58 rfl (lv_at hl 0 rfl) ?_
                  refine qk_iald hx hb hK hP 1 0 rfl rfl (i := i) (by omega) (by omega) (v := f i) (hg3 i (by omega)) dX3_take_59 ?_
                  refine qk_iast hx hb hK hP hD hS 1 0 rfl rfl (i := (i - 1)) (by omega) (by omega) dX3_take_60 (fun H locs hP hD hS => ?_)
                  have hP : va_P G.1 vwCl [(h0, .inr (3, [.ref q0, .int (nI (n + 1))])), (q0, .inl (G.2.1, 200, .inl (upd g (i - 1) (f i))))] H := hP
                  have hD : va_D A [(h0, .inr (3, [.ref q0, .int (nI (n + 1))])), (q0, .inl (G.2.1, 200, .inl (upd g (i - 1) (f i))))] := hD
                  refine lv_iinc (v := nI (i + 1)) (lv' := [(3, .int (nI (i + 1))), (2, .int (nI j)), (0, .ref h0), (1, .int x)]) hx hb dX3_take_61 hl (k := 0) rfl (nI_1 i) (by decide) rfl (fun ls hl => ?_)
                  refine lv_goto (tgt := 39) hx hb dX3_take_64 (by decide) ?_
                  exact ih (i + 1) (upd g (i - 1) (f i)) _ _ ls (by omega) (⟨by omega, by omega⟩) (fun k hk => (pk_un (by omega)).trans (hg1 k hk)) (fun k a b => by
                                      rcases Nat.lt_or_ge k (i - 1) with z | z
                                      · rw [pk_un (by omega)]; exact hg2 k a z
                                      · rw [show k = i - 1 by omega, pk_us, show i - 1 + 1 = i by omega]) (fun k a => (pk_un (by omega)).trans (hg3 k (by omega))) hP hD hS (lv_sub hl [0, 1, 2, 3] rfl)
            exact loop_39 (n + 1 - (j + 1) + 1) (j + 1) f _ _ ls (by omega) (⟨Nat.le_refl _, by omega⟩) (fun _ _ => rfl) (fun k a b => absurd b (by omega)) (fun _ _ => rfl) hP hD hS (lv_sub hl [0, 1, 2, 3] rfl)
          · have c_3 : ¬ (j < (n + 1)) := fun q9 => c_3 ((nI_ltI (by omega) (by omega)).mpr q9)
            exfalso; omega
        · refine lv_iinc (v := nI (j + 1)) (lv' := [(2, .int (nI (j + 1))), (0, .ref h0), (1, .int x)]) hx hb dX3_take_20 hl (k := 0) rfl (nI_1 j) (by decide) rfl (fun ls hl => ?_)
          refine lv_goto (tgt := 2) hx hb dX3_take_23 (by decide) ?_
          exact ih (j + 1) _ _ ls (by omega) (qm_next hf h1 cj) (qm_till h1 cj) hP hD hS (lv_sub hl [0, 1, 2] rfl)
  exact loop_2 (n + 1 - 0 + 1) 0 _ _ ls (by omega) (Nat.zero_le n) (fun k a => absurd a (Nat.not_lt_zero k)) hP hD hS (lv_sub hl [0, 1, 2] rfl)

set_option maxHeartbeats 4000000 in
set_option maxRecDepth 100000 in
/-- Sorted.orderFromGreatest -/
theorem qc_S_order (l : Launch) (G : qG) (h0 : Nat) (q0 : Nat) (n : Nat) (N1 : Nat) (f : Nat → Int32) (h1 : Nat) (q1 : Nat) (N2 : Nat) (g : Nat → Int32) (hn1 : n ≤ N1) (hn2 : n ≤ N2) (hN1 : N1 ≤ 200) (hN2 : N2 ≤ 200) (hf : qm_srt f n) (hg : qm_srt g n) : Met l yX3_orderFromGreatest wsX3_orderFromGreatest ({ frames := 1, cells := 0, slots := 0, locals := 23 } : Room) (va_Pc [.ref h0, .ref h1] (qk_pre G vwCl [(h0, .inr (3, [.ref q0, .int (nI n)])), (q0, .inl (G.2.1, N1, .inl f)), (h1, .inr (3, [.ref q1, .int (nI n)])), (q1, .inl (G.2.1, N2, .inl g))])) (vp_Si (fun r => qm_ord (fun a b : Int32 => a < b) (qm_cnt f n) (qm_cnt g n) r)) 0 0 (fun _ => False) := by
  refine Met.ofW (cc := cX3_orderFromGreatest) (maxL := 5) (ret := (some .int)) (by decide) rfl ?_
  intro p e s m args below meth c s₁ B hml hv
  obtain ⟨rfl, hP, hK, hN⟩ := hv
  have hx := B.exec
  have hb := B.bytes
  have hr := B.returns
  have hlocks := B.notSynchronized
  have hts := atoms_spec (ws := wsX3_orderFromGreatest) B.pre
  have htb := fun (w : Cond) (h : w ∈ qTb) => hts w (List.mem_cons_of_mem _ h)
  have hown : s.vm.findClass "GradeRows$Sorted" = some m.cls := findClass_of_methodNamed B.named
  have hP : va_P G.1 vwCl [(h0, .inr (3, [.ref q0, .int (nI n)])), (q0, .inl (G.2.1, N1, .inl f)), (h1, .inr (3, [.ref q1, .int (nI n)])), (q1, .inl (G.2.1, N2, .inl g))] s.heap := hP
  have hl := lv_entry ([.ref h0, .ref h1]) (n := 5) (Nat.le_of_ble_eq_true rfl)
  rw [lg_entry_eq]
  generalize (lg_sl ([.ref h0, .ref h1]) ++ List.replicate (5 - (lg_sl ([.ref h0, .ref h1])).length) Slot.unset).toArray = ls at hl ⊢
  have hl : lv_has ls 5 [(0, .ref h0), (1, .ref h1)] := hl
  refine lv_aload_n hx hb dX3_orderFromGreatest_0 rfl (lv_at hl 0 rfl) ?_
  refine va_get (D := G.1) (ci := 3) (v := .int (nI n)) (C := "GradeRows$Sorted") (T := TX3) (N := 2) hx hb htb inX3 hown hK hP 0 rfl rfl 1 (by decide) (htb _ qw_68) (fun _ h9 => h9) rfl dX3_orderFromGreatest_1 ?_
  refine lv_aload_n hx hb dX3_orderFromGreatest_4 rfl (lv_at hl 1 rfl) ?_
  refine va_get (D := G.1) (ci := 3) (v := .int (nI n)) (C := "GradeRows$Sorted") (T := TX3) (N := 2) hx hb htb inX3 hown hK hP 2 rfl rfl 1 (by decide) (htb _ qw_68) (fun _ h9 => h9) rfl dX3_orderFromGreatest_5 ?_
  refine va_mmin hx hb (hml.trans hl.1.symm) hown (htb _ qw_417) (htb _ qw_236) (htb _ qw_19) (htb _ qw_237) (Nat.le_of_ble_eq_true rfl) (Nat.le_of_ble_eq_true rfl) (Nat.le_of_ble_eq_true rfl) (Nat.le_of_ble_eq_true rfl) dX3_orderFromGreatest_8 ?_
  refine qk_topi (t := nI n) (by simp) ?_
  refine lv_istore_n (lv' := [(2, .int (nI n)), (0, .ref h0), (1, .ref h1)]) hx hb dX3_orderFromGreatest_11 rfl hl (by decide) rfl (fun ls hl => ?_)
  refine lv_iconst (v := nI 1) hx hb dX3_orderFromGreatest_12 (by decide) ?_
  refine lv_istore_n (lv' := [(3, .int (nI 1)), (2, .int (nI n)), (0, .ref h0), (1, .ref h1)]) hx hb dX3_orderFromGreatest_13 rfl hl (by decide) rfl (fun ls hl => ?_)
  have loop_14 : ∀ (N : Nat) (i : Nat) (ls : Array Slot), n - i < N → (i ≤ n) → (∀ k, n - i ≤ k → k < n → f k = g k) → lv_has ls 5 [(3, .int (nI (i + 1))), (2, .int (nI n)), (0, .ref h0), (1, .ref h1)] → W p l e (headSpec wsX3_orderFromGreatest ({ frames := 1, cells := 0, slots := 0, locals := 23 } : Room)).room s m ([.ref h0, .ref h1] : List Value).toArray below meth c s.heap [] 0 0 (MQ below (vp_Si (fun r => qm_ord (fun a b : Int32 => a < b) (qm_cnt f n) (qm_cnt g n) r)) ([.ref h0, .ref h1] : List Value).toArray s 0 0 (fun _ => False)) (F0 m 14 ls []) := by
    intro N
    induction N with
    | zero => intro i ls hm; exact absurd hm (Nat.not_lt_zero _)
    | succ N ih =>
      intro i ls hm hi he hl
      refine lv_iload_n hx hb dX3_orderFromGreatest_14 rfl (lv_at hl 0 rfl) ?_
      refine lv_iload_n hx hb dX3_orderFromGreatest_15 rfl (lv_at hl 1 rfl) ?_
      refine lv_icmp_gt (tgt := 62) hx hb dX3_orderFromGreatest_16 (by decide) (fun c_1 => ?_) (fun c_1 => ?_)
      · have c_1 : n < (i + 1) := (nI_ltI (by omega) (by omega)).mp c_1
        refine lv_iconst (v := nI 0) hx hb dX3_orderFromGreatest_62 (by decide) ?_
        exact W.iret (v := nI 0) hx hb hr (fun t9 ht9 hW9 => ⟨_, rfl, Or.inl ⟨rfl, fun v => qm_cnt_congr (fun k hk => he k (by omega) hk)⟩, ht9⟩) (fun q h => absurd h List.not_mem_nil) dX3_orderFromGreatest_63
      · have c_1 : ¬ (n < (i + 1)) := fun q9 => c_1 ((nI_ltI (by omega) (by omega)).mpr q9)
        refine lv_aload_n hx hb dX3_orderFromGreatest_19 rfl (lv_at hl 2 rfl) ?_
        refine va_get (D := G.1) (ci := 3) (v := .ref q0) (C := "GradeRows$Sorted") (T := TX3) (N := 2) hx hb htb inX3 hown hK hP 0 rfl rfl 0 (by decide) (htb _ qw_67) (fun _ h9 => h9) rfl dX3_orderFromGreatest_20 ?_
        refine lv_aload_n hx hb dX3_orderFromGreatest_23 rfl (lv_at hl 2 rfl) ?_
        refine va_get (D := G.1) (ci := 3) (v := .int (nI n)) (C := "GradeRows$Sorted") (T := TX3) (N := 2) hx hb htb inX3 hown hK hP 0 rfl rfl 1 (by decide) (htb _ qw_68) (fun _ h9 => h9) rfl dX3_orderFromGreatest_24 ?_
        refine lv_iload_n hx hb dX3_orderFromGreatest_27 rfl (lv_at hl 0 rfl) ?_
        refine lv_isub hx hb dX3_orderFromGreatest_28 ?_
        refine qk_topi (t := nI (n - (i + 1))) (pk_sub (by omega)) ?_
        refine qk_iald hx hb hK hP 1 0 rfl rfl (i := (n - (i + 1))) (by omega) (by omega) (v := f (n - (i + 1))) rfl dX3_orderFromGreatest_29 ?_
        refine lv_i2l (v := (f (n - (i + 1))).toInt64) hx hb dX3_orderFromGreatest_30 rfl ?_
        refine lv_aload_n hx hb dX3_orderFromGreatest_31 rfl (lv_at hl 3 rfl) ?_
        refine va_get (D := G.1) (ci := 3) (v := .ref q1) (C := "GradeRows$Sorted") (T := TX3) (N := 2) hx hb htb inX3 hown hK hP 2 rfl rfl 0 (by decide) (htb _ qw_67) (fun _ h9 => h9) rfl dX3_orderFromGreatest_32 ?_
        refine lv_aload_n hx hb dX3_orderFromGreatest_35 rfl (lv_at hl 3 rfl) ?_
        refine va_get (D := G.1) (ci := 3) (v := .int (nI n)) (C := "GradeRows$Sorted") (T := TX3) (N := 2) hx hb htb inX3 hown hK hP 2 rfl rfl 1 (by decide) (htb _ qw_68) (fun _ h9 => h9) rfl dX3_orderFromGreatest_36 ?_
        refine lv_iload_n hx hb dX3_orderFromGreatest_39 rfl (lv_at hl 0 rfl) ?_
        refine lv_isub hx hb dX3_orderFromGreatest_40 ?_
        refine qk_topi (t := nI (n - (i + 1))) (pk_sub (by omega)) ?_
        refine qk_iald hx hb hK hP 3 0 rfl rfl (i := (n - (i + 1))) (by omega) (by omega) (v := g (n - (i + 1))) rfl dX3_orderFromGreatest_41 ?_
        refine lv_i2l (v := (g (n - (i + 1))).toInt64) hx hb dX3_orderFromGreatest_42 rfl ?_
        have hPc := hP.sub (ws' := []) [] rfl
        refine vp_callSi (va_runSN (As := [.long (f (n - (i + 1))).toInt64, .long (g (n - (i + 1))).toInt64]) (rest := []) ⟨hx, hb, hml, hown, htb⟩ (qc_order l G (f (n - (i + 1))).toInt64 (g (n - (i + 1))).toInt64) ⟨va_cnB 2 htb (qW_good qw_408) rfl rfl rfl (hN.1 _ qw_418) (htb _ qw_13) (by decide +kernel) ⟨Nat.le_of_ble_eq_true rfl, Nat.le_of_ble_eq_true rfl⟩, htb _ qw_407, trivial⟩ (qk_ps hK hPc hN) rfl rfl hl.1 rfl (lv_room (Nat.le_of_ble_eq_true rfl)) dX3_orderFromGreatest_43 ⟨Nat.le_of_ble_eq_true rfl, Nat.le_of_ble_eq_true rfl⟩).run (fun r_43 e_43 => ?_)
        refine lv_istore (lv' := [(4, .int r_43), (3, .int (nI (i + 1))), (2, .int (nI n)), (0, .ref h0), (1, .ref h1)]) hx hb dX3_orderFromGreatest_46 hl (by decide) rfl (fun ls hl => ?_)
        refine lv_iload hx hb dX3_orderFromGreatest_48 (lv_at hl 0 rfl) ?_
        refine lv_if_eq (tgt := 56) hx hb dX3_orderFromGreatest_50 (by decide) (fun cz => ?_) (fun cz => ?_)
        · refine lv_iinc (v := nI ((i + 1) + 1)) (lv' := [(3, .int (nI ((i + 1) + 1))), (4, .int r_43), (2, .int (nI n)), (0, .ref h0), (1, .ref h1)]) hx hb dX3_orderFromGreatest_56 hl (k := 1) rfl (nI_1 (i + 1)) (by decide) rfl (fun ls hl => ?_)
          refine lv_goto (tgt := 14) hx hb dX3_orderFromGreatest_59 (by decide) ?_
          exact ih (i + 1) ls (by omega) (by omega) (qm_down he (qm_l_inj (qm_sg_0 e_43 cz)) (by omega)) (lv_sub hl [0, 2, 3, 4] rfl)
        · refine lv_iload hx hb dX3_orderFromGreatest_53 (lv_at hl 0 rfl) ?_
          exact W.iret (v := r_43) hx hb hr (fun t9 ht9 hW9 => ⟨_, rfl, qm_ord_of hf hg (by omega) he e_43 cz, ht9⟩) (fun q h => absurd h List.not_mem_nil) dX3_orderFromGreatest_55
  exact loop_14 (n - 0 + 1) 0 ls (by omega) (Nat.zero_le n) (fun k a b => absurd a (by omega)) (lv_sub hl [0, 1, 2, 3] rfl)
end
section
set_option maxHeartbeats 4000000 in
set_option maxRecDepth 100000 in
/-- Rules.has -/
theorem qc_R_has (l : Launch) (G : qG) (h0 : Nat) (qw : Nat) (qx : Nat) (qu : Nat) (qs : Nat) (n : Nat) (x : Int32)  : Met l yX2_has wsX2_has ({ frames := 0, cells := 0, slots := 0, locals := 0 } : Room) (va_Pc [.ref h0, .int x] (qk_pre G vwCl [(h0, .inr (2, [.ref qw, .ref qx, .ref qu, .ref qs, .int (nI n)]))])) (vp_Si (fun r => r = if ¬ x < 0 ∧ x < nI n then nI 1 else nI 0)) 0 0 (fun _ => False) := by
  refine Met.ofW (cc := cX2_has) (maxL := 2) (ret := (some .boolean)) (by decide) rfl ?_
  intro p e s m args below meth c s₁ B hml hv
  obtain ⟨rfl, hP, hK, hN⟩ := hv
  have hx := B.exec
  have hb := B.bytes
  have hr := B.returns
  have hlocks := B.notSynchronized
  have hts := atoms_spec (ws := wsX2_has) B.pre
  have htb := fun (w : Cond) (h : w ∈ qTb) => hts w (List.mem_cons_of_mem _ h)
  have hown : s.vm.findClass "GradeRows$Rules" = some m.cls := findClass_of_methodNamed B.named
  have hP : va_P G.1 vwCl [(h0, .inr (2, [.ref qw, .ref qx, .ref qu, .ref qs, .int (nI n)]))] s.heap := hP
  have hl := lv_entry ([.ref h0, .int x]) (n := 2) (Nat.le_of_ble_eq_true rfl)
  rw [lg_entry_eq]
  generalize (lg_sl ([.ref h0, .int x]) ++ List.replicate (2 - (lg_sl ([.ref h0, .int x])).length) Slot.unset).toArray = ls at hl ⊢
  have hl : lv_has ls 2 [(0, .ref h0), (1, .int x)] := hl
  refine lv_iload_n hx hb dX2_has_0 rfl (lv_at hl 1 rfl) ?_
  refine lv_if_lt (tgt := 16) hx hb dX2_has_1 (by decide) (fun c1 => ?_) (fun c1 => ?_)
  · refine lv_iconst (v := nI 0) hx hb dX2_has_16 (by decide) ?_
    exact W.zret (v := nI 0) (ty := .boolean) hx hb hr (by decide) (fun t9 ht9 hW9 => ⟨_, rfl, (if_neg (fun h => h.1 c1)).symm, ht9⟩) (fun q h => absurd h List.not_mem_nil) dX2_has_17
  · refine lv_iload_n hx hb dX2_has_4 rfl (lv_at hl 1 rfl) ?_
    refine lv_aload_n hx hb dX2_has_5 rfl (lv_at hl 0 rfl) ?_
    refine va_get (D := G.1) (ci := 2) (v := .int (nI n)) (C := "GradeRows$Rules") (T := TX2) (N := 5) hx hb htb inX2 hown hK hP 0 rfl rfl 4 (by decide) (htb _ qw_41) (fun _ h9 => h9) rfl dX2_has_6 ?_
    refine lv_icmp_ge (tgt := 16) hx hb dX2_has_9 (by decide) (fun c2 => ?_) (fun c2 => ?_)
    · refine lv_iconst (v := nI 0) hx hb dX2_has_16 (by decide) ?_
      exact W.zret (v := nI 0) (ty := .boolean) hx hb hr (by decide) (fun t9 ht9 hW9 => ⟨_, rfl, (if_neg (fun h => qm_lt_nle h.2 c2)).symm, ht9⟩) (fun q h => absurd h List.not_mem_nil) dX2_has_17
    · refine lv_iconst (v := nI 1) hx hb dX2_has_12 (by decide) ?_
      refine lv_goto (tgt := 17) hx hb dX2_has_13 (by decide) ?_
      exact W.zret (v := nI 1) (ty := .boolean) hx hb hr (by decide) (fun t9 ht9 hW9 => ⟨_, rfl, (if_pos ⟨c1, qm_nle c2⟩).symm, ht9⟩) (fun q h => absurd h List.not_mem_nil) dX2_has_17

set_option maxHeartbeats 4000000 in
set_option maxRecDepth 100000 in
/-- Rules.add, full -/
theorem qc_R_add0 (l : Launch) (G : qG) (h0 : Nat) (qw : Nat) (qx : Nat) (qu : Nat) (qs : Nat) (n : Nat) (x : Int32) (y : Int32) (hn : ¬ n < 40) (hn2 : n ≤ 40) : Met l yX2_add wsX2_add ({ frames := 0, cells := 0, slots := 0, locals := 0 } : Room) (va_Pc [.ref h0, .int x, .int y] (qk_pre G vwCl [(h0, .inr (2, [.ref qw, .ref qx, .ref qu, .ref qs, .int (nI n)]))])) (vp_Si (fun r => r = (-1))) 0 0 (fun _ => False) := by
  refine Met.ofW (cc := cX2_add) (maxL := 3) (ret := (some .int)) (by decide) rfl ?_
  intro p e s m args below meth c s₁ B hml hv
  obtain ⟨rfl, hP, hK, hN⟩ := hv
  have hx := B.exec
  have hb := B.bytes
  have hr := B.returns
  have hlocks := B.notSynchronized
  have hts := atoms_spec (ws := wsX2_add) B.pre
  have htb := fun (w : Cond) (h : w ∈ qTb) => hts w (List.mem_cons_of_mem _ h)
  have hown : s.vm.findClass "GradeRows$Rules" = some m.cls := findClass_of_methodNamed B.named
  have hP : va_P G.1 vwCl [(h0, .inr (2, [.ref qw, .ref qx, .ref qu, .ref qs, .int (nI n)]))] s.heap := hP
  have hl := lv_entry ([.ref h0, .int x, .int y]) (n := 3) (Nat.le_of_ble_eq_true rfl)
  rw [lg_entry_eq]
  generalize (lg_sl ([.ref h0, .int x, .int y]) ++ List.replicate (3 - (lg_sl ([.ref h0, .int x, .int y])).length) Slot.unset).toArray = ls at hl ⊢
  have hl : lv_has ls 3 [(0, .ref h0), (1, .int x), (2, .int y)] := hl
  refine lv_aload_n hx hb dX2_add_0 rfl (lv_at hl 0 rfl) ?_
  refine va_get (D := G.1) (ci := 2) (v := .int (nI n)) (C := "GradeRows$Rules") (T := TX2) (N := 5) hx hb htb inX2 hown hK hP 0 rfl rfl 4 (by decide) (htb _ qw_41) (fun _ h9 => h9) rfl dX2_add_1 ?_
  refine lv_bipush (v := nI 40) hx hb dX2_add_4 (by decide) ?_
  refine lv_icmp_lt (tgt := 11) hx hb dX2_add_6 (by decide) (fun c_1 => ?_) (fun c_1 => ?_)
  · have c_1 : n < 40 := (nI_ltI (by omega) (by omega)).mp c_1
    exfalso; omega
  · have c_1 : ¬ (n < 40) := fun q9 => c_1 ((nI_ltI (by omega) (by omega)).mpr q9)
    refine lv_iconst (v := (-1)) hx hb dX2_add_9 (by decide) ?_
    exact W.iret (v := (-1)) hx hb hr (fun t9 ht9 hW9 => ⟨_, rfl, rfl, ht9⟩) (fun q h => absurd h List.not_mem_nil) dX2_add_10

set_option maxHeartbeats 4000000 in
set_option maxRecDepth 100000 in
/-- Rules.add -/
theorem qc_R_add1 (l : Launch) (G : qG) (h0 : Nat) (qw : Nat) (qx : Nat) (qu : Nat) (qs : Nat) (n : Nat) (fw : Nat → Int32) (fx : Nat → Int32) (x : Int32) (y : Int32) (sz : Nat) (hn : n < 40) : Met l yX2_add wsX2_add ({ frames := 0, cells := 0, slots := 0, locals := 0 } : Room) (va_Pc [.ref h0, .int x, .int y] (qk_prw G vwCl [(h0, .inr (2, [.ref qw, .ref qx, .ref qu, .ref qs, .int (nI n)])), (qw, .inl (G.2.1, 40, .inl fw)), (qx, .inl (G.2.1, 40, .inl fx))] sz)) (va_Qi (fun (r : Int32) (_ : Unit) => r = nI n) (qk_B G vwCl (va_A [(h0, .inr (2, [.ref qw, .ref qx, .ref qu, .ref qs, .int (nI n)])), (qw, .inl (G.2.1, 40, .inl fw)), (qx, .inl (G.2.1, 40, .inl fx))] sz) (fun (_ : Unit) => [(h0, .inr (2, [.ref qw, .ref qx, .ref qu, .ref qs, .int (nI (n + 1))])), (qw, .inl (G.2.1, 40, .inl (upd fw n x))), (qx, .inl (G.2.1, 40, .inl (upd fx n y)))])) (va_A [(h0, .inr (2, [.ref qw, .ref qx, .ref qu, .ref qs, .int (nI n)])), (qw, .inl (G.2.1, 40, .inl fw)), (qx, .inl (G.2.1, 40, .inl fx))] sz)) 0 0 (va_A [(h0, .inr (2, [.ref qw, .ref qx, .ref qu, .ref qs, .int (nI n)])), (qw, .inl (G.2.1, 40, .inl fw)), (qx, .inl (G.2.1, 40, .inl fx))] sz) := by
  refine Met.ofW (cc := cX2_add) (maxL := 3) (ret := (some .int)) (by decide) rfl ?_
  intro p e s m args below meth c s₁ B hml hv
  obtain ⟨rfl, hsz, hP, hK, hD0, hN⟩ := hv
  have hx := B.exec
  have hb := B.bytes
  have hr := B.returns
  have hlocks := B.notSynchronized
  have hts := atoms_spec (ws := wsX2_add) B.pre
  have htb := fun (w : Cond) (h : w ∈ qTb) => hts w (List.mem_cons_of_mem _ h)
  have hown : s.vm.findClass "GradeRows$Rules" = some m.cls := findClass_of_methodNamed B.named
  subst hsz
  have hD := hD0.self (sz := s.heap.size)
  generalize hAe : va_A [(h0, .inr (2, [.ref qw, .ref qx, .ref qu, .ref qs, .int (nI n)])), (qw, .inl (G.2.1, 40, .inl fw)), (qx, .inl (G.2.1, 40, .inl fx))] s.heap.size = A at hD ⊢
  have hA : ∀ q : Nat, s.heap.size ≤ q → A q := fun q h => by rw [← hAe]; exact Or.inr h
  have hS : va_S A s.heap s.heap [] := va_S.rf
  have hP : va_P G.1 vwCl [(h0, .inr (2, [.ref qw, .ref qx, .ref qu, .ref qs, .int (nI n)])), (qw, .inl (G.2.1, 40, .inl fw)), (qx, .inl (G.2.1, 40, .inl fx))] s.heap := hP
  have hl := lv_entry ([.ref h0, .int x, .int y]) (n := 3) (Nat.le_of_ble_eq_true rfl)
  rw [lg_entry_eq]
  generalize (lg_sl ([.ref h0, .int x, .int y]) ++ List.replicate (3 - (lg_sl ([.ref h0, .int x, .int y])).length) Slot.unset).toArray = ls at hl ⊢
  have hl : lv_has ls 3 [(0, .ref h0), (1, .int x), (2, .int y)] := hl
  refine lv_aload_n hx hb dX2_add_0 rfl (lv_at hl 0 rfl) ?_
  refine va_get (D := G.1) (ci := 2) (v := .int (nI n)) (C := "GradeRows$Rules") (T := TX2) (N := 5) hx hb htb inX2 hown hK hP 0 rfl rfl 4 (by decide) (htb _ qw_41) (fun _ h9 => h9) rfl dX2_add_1 ?_
  refine lv_bipush (v := nI 40) hx hb dX2_add_4 (by decide) ?_
  refine lv_icmp_lt (tgt := 11) hx hb dX2_add_6 (by decide) (fun c_1 => ?_) (fun c_1 => ?_)
  · have c_1 : n < 40 := (nI_ltI (by omega) (by omega)).mp c_1
    refine lv_aload_n hx hb dX2_add_11 rfl (lv_at hl 0 rfl) ?_
    refine va_get (D := G.1) (ci := 2) (v := .ref qw) (C := "GradeRows$Rules") (T := TX2) (N := 5) hx hb htb inX2 hown hK hP 0 rfl rfl 0 (by decide) (htb _ qw_37) (fun _ h9 => h9) rfl dX2_add_12 ?_
    refine lv_aload_n hx hb dX2_add_15 rfl (lv_at hl 0 rfl) ?_
    refine va_get (D := G.1) (ci := 2) (v := .int (nI n)) (C := "GradeRows$Rules") (T := TX2) (N := 5) hx hb htb inX2 hown hK hP 0 rfl rfl 4 (by decide) (htb _ qw_41) (fun _ h9 => h9) rfl dX2_add_16 ?_
    refine lv_iload_n hx hb dX2_add_19 rfl (lv_at hl 1 rfl) ?_
    refine qk_iast hx hb hK hP hD hS 1 0 rfl rfl (i := n) (by omega) (by omega) dX2_add_20 (fun H locs hP hD hS => ?_)
    have hP : va_P G.1 vwCl [(h0, .inr (2, [.ref qw, .ref qx, .ref qu, .ref qs, .int (nI n)])), (qw, .inl (G.2.1, 40, .inl (upd fw n x))), (qx, .inl (G.2.1, 40, .inl fx))] H := hP
    have hD : va_D A [(h0, .inr (2, [.ref qw, .ref qx, .ref qu, .ref qs, .int (nI n)])), (qw, .inl (G.2.1, 40, .inl (upd fw n x))), (qx, .inl (G.2.1, 40, .inl fx))] := hD
    refine lv_aload_n hx hb dX2_add_21 rfl (lv_at hl 0 rfl) ?_
    refine va_get (D := G.1) (ci := 2) (v := .ref qx) (C := "GradeRows$Rules") (T := TX2) (N := 5) hx hb htb inX2 hown hK hP 0 rfl rfl 1 (by decide) (htb _ qw_38) (fun _ h9 => h9) rfl dX2_add_22 ?_
    refine lv_aload_n hx hb dX2_add_25 rfl (lv_at hl 0 rfl) ?_
    refine va_get (D := G.1) (ci := 2) (v := .int (nI n)) (C := "GradeRows$Rules") (T := TX2) (N := 5) hx hb htb inX2 hown hK hP 0 rfl rfl 4 (by decide) (htb _ qw_41) (fun _ h9 => h9) rfl dX2_add_26 ?_
    refine lv_iload_n hx hb dX2_add_29 rfl (lv_at hl 2 rfl) ?_
    refine qk_iast hx hb hK hP hD hS 2 0 rfl rfl (i := n) (by omega) (by omega) dX2_add_30 (fun H locs hP hD hS => ?_)
    have hP : va_P G.1 vwCl [(h0, .inr (2, [.ref qw, .ref qx, .ref qu, .ref qs, .int (nI n)])), (qw, .inl (G.2.1, 40, .inl (upd fw n x))), (qx, .inl (G.2.1, 40, .inl (upd fx n y)))] H := hP
    have hD : va_D A [(h0, .inr (2, [.ref qw, .ref qx, .ref qu, .ref qs, .int (nI n)])), (qw, .inl (G.2.1, 40, .inl (upd fw n x))), (qx, .inl (G.2.1, 40, .inl (upd fx n y)))] := hD
    refine lv_aload_n hx hb dX2_add_31 rfl (lv_at hl 0 rfl) ?_
    refine lv_dup hx hb dX2_add_32 rfl ?_
    refine va_get (D := G.1) (ci := 2) (v := .int (nI n)) (C := "GradeRows$Rules") (T := TX2) (N := 5) hx hb htb inX2 hown hK hP 0 rfl rfl 4 (by decide) (htb _ qw_41) (fun _ h9 => h9) rfl dX2_add_33 ?_
    refine lv_iconst (v := nI 1) hx hb dX2_add_36 (by decide) ?_
    refine lv_iadd hx hb dX2_add_37 ?_
    refine qk_topi (t := nI (n + 1)) (nI_add _ _) ?_
    refine va_put (D := G.1) (ci := 2) (v := .int (nI (n + 1))) (ty := .int) (C := "GradeRows$Rules") (T := TX2) (N := 5) hx hb htb inX2 tyX2 tyX2_ok nmX2 hown hK hP hD hS 0 rfl rfl 4 (by decide) (htb _ qw_41) (fun _ h9 => h9) rfl (by decide +kernel) rfl rfl (Nat.le_of_ble_eq_true rfl) dX2_add_38 (fun H locs hP hD hS => ?_)
    have hP : va_P G.1 vwCl [(h0, .inr (2, [.ref qw, .ref qx, .ref qu, .ref qs, .int (nI (n + 1))])), (qw, .inl (G.2.1, 40, .inl (upd fw n x))), (qx, .inl (G.2.1, 40, .inl (upd fx n y)))] H := hP
    have hD : va_D A [(h0, .inr (2, [.ref qw, .ref qx, .ref qu, .ref qs, .int (nI (n + 1))])), (qw, .inl (G.2.1, 40, .inl (upd fw n x))), (qx, .inl (G.2.1, 40, .inl (upd fx n y)))] := hD
    refine lv_aload_n hx hb dX2_add_41 rfl (lv_at hl 0 rfl) ?_
    refine va_get (D := G.1) (ci := 2) (v := .int (nI (n + 1))) (C := "GradeRows$Rules") (T := TX2) (N := 5) hx hb htb inX2 hown hK hP 0 rfl rfl 4 (by decide) (htb _ qw_41) (fun _ h9 => h9) rfl dX2_add_42 ?_
    refine lv_iconst (v := nI 1) hx hb dX2_add_45 (by decide) ?_
    refine lv_isub hx hb dX2_add_46 ?_
    refine qk_topi (t := nI n) (nI_pred n) ?_
    have hP9 := hP.sub (ws' := [(h0, .inr (2, [.ref qw, .ref qx, .ref qu, .ref qs, .int (nI (n + 1))])), (qw, .inl (G.2.1, 40, .inl (upd fw n x))), (qx, .inl (G.2.1, 40, .inl (upd fx n y)))]) [0, 1, 2] rfl
    have hD9 := hD.sub (ws' := [(h0, .inr (2, [.ref qw, .ref qx, .ref qu, .ref qs, .int (nI (n + 1))])), (qw, .inl (G.2.1, 40, .inl (upd fw n x))), (qx, .inl (G.2.1, 40, .inl (upd fx n y)))]) [0, 1, 2] (by decide) rfl
    exact W.iret (v := nI n) hx hb hr (fun t9 ht9 hW9 => ⟨⟨_, (), rfl, rfl, by rw [ht9]; exact hP9, va_K.moved hW9.alike hK, hD9⟩, hS.F ht9⟩) hS.2.2 dX2_add_47
  · have c_1 : ¬ (n < 40) := fun q9 => c_1 ((nI_ltI (by omega) (by omega)).mpr q9)
    exfalso; omega

set_option maxHeartbeats 4000000 in
set_option maxRecDepth 100000 in
/-- Rules.priceOfNext -/
theorem qc_R_price (l : Launch) (G : qG) (h0 : Nat) (qw : Nat) (qx : Nat) (qu : Nat) (qs : Nat) (n : Nat) (fw : Nat → Int32) (fx : Nat → Int32) (fu : Nat → Int32) (k : Nat) (b : Nat) (wk : Nat) (xk : Nat) (uk : Nat) (hk : k < n) (hn : n ≤ 40) (hw : fw k = nI wk) (hx1 : fx k = nI xk) (hu : fu k = nI uk) (hm : wk * (12 - b) ≤ 120000) (hxk : xk ≤ 100000) (huk : uk ≤ 200) (hb1 : b ≤ 12) : Met l yX2_priceOfNext wsX2_priceOfNext ({ frames := 1, cells := 0, slots := 0, locals := 21 } : Room) (va_Pc [.ref h0, .int (nI k), .int (nI b)] (qk_pre G vwCl [(h0, .inr (2, [.ref qw, .ref qx, .ref qu, .ref qs, .int (nI n)])), (qw, .inl (G.2.1, 40, .inl fw)), (qx, .inl (G.2.1, 40, .inl fx)), (qu, .inl (G.2.1, 40, .inl fu))])) (vp_Si (fun r => r = nI (wk * (12 - b) / 4 + (if uk = 0 then xk else 0)))) 0 0 (fun _ => False) := by
  refine Met.ofW (cc := cX2_priceOfNext) (maxL := 4) (ret := (some .int)) (by decide) rfl ?_
  intro p e s m args below meth c s₁ B hml hv
  obtain ⟨rfl, hP, hK, hN⟩ := hv
  have hx := B.exec
  have hb := B.bytes
  have hr := B.returns
  have hlocks := B.notSynchronized
  have hts := atoms_spec (ws := wsX2_priceOfNext) B.pre
  have htb := fun (w : Cond) (h : w ∈ qTb) => hts w (List.mem_cons_of_mem _ h)
  have hown : s.vm.findClass "GradeRows$Rules" = some m.cls := findClass_of_methodNamed B.named
  have hP : va_P G.1 vwCl [(h0, .inr (2, [.ref qw, .ref qx, .ref qu, .ref qs, .int (nI n)])), (qw, .inl (G.2.1, 40, .inl fw)), (qx, .inl (G.2.1, 40, .inl fx)), (qu, .inl (G.2.1, 40, .inl fu))] s.heap := hP
  have hl := lv_entry ([.ref h0, .int (nI k), .int (nI b)]) (n := 4) (Nat.le_of_ble_eq_true rfl)
  rw [lg_entry_eq]
  generalize (lg_sl ([.ref h0, .int (nI k), .int (nI b)]) ++ List.replicate (4 - (lg_sl ([.ref h0, .int (nI k), .int (nI b)])).length) Slot.unset).toArray = ls at hl ⊢
  have hl : lv_has ls 4 [(0, .ref h0), (1, .int (nI k)), (2, .int (nI b))] := hl
  refine lv_aload_n hx hb dX2_priceOfNext_0 rfl (lv_at hl 0 rfl) ?_
  refine lv_iload_n hx hb dX2_priceOfNext_1 rfl (lv_at hl 1 rfl) ?_
  have hPc := hP.sub (ws' := [(h0, .inr (2, [.ref qw, .ref qx, .ref qu, .ref qs, .int (nI n)]))]) [0] rfl
  refine vp_callSi (va_runV (As := [.int (nI k)]) (rest := []) ⟨hx, hb, hml, hown, htb⟩ (qc_R_has l G h0 qw qx qu qs n (nI k)) (cwV 1 htb (qW_V qw_168 qw_157 qw_158 qw_14 qw_159) rfl rfl rfl (by decide +kernel) ⟨Nat.le_of_ble_eq_true rfl, Nat.le_of_ble_eq_true rfl⟩) (qk_pv (ci := 2) (q0 := 0) hK hPc hN rfl rfl) rfl rfl hl.1 rfl (lv_room (Nat.le_of_ble_eq_true rfl)) dX2_priceOfNext_2 ⟨Nat.le_of_ble_eq_true rfl, Nat.le_of_ble_eq_true rfl⟩).run (fun r_2 e_2 => ?_)
  subst e_2
  refine qk_topi (t := nI 1) (if_pos ⟨nI_pos (by omega), nI_lt (by omega) (by omega)⟩) ?_
  refine lv_if_ne (tgt := 10) hx hb dX2_priceOfNext_5 (by decide) (fun c_1 => ?_) (fun c_1 => ?_)
  · have c_1 : ¬ (1 = 0) := fun q9 => c_1 ((z0eq (by omega)).mpr q9)
    refine lv_aload_n hx hb dX2_priceOfNext_10 rfl (lv_at hl 0 rfl) ?_
    refine va_get (D := G.1) (ci := 2) (v := .ref qw) (C := "GradeRows$Rules") (T := TX2) (N := 5) hx hb htb inX2 hown hK hP 0 rfl rfl 0 (by decide) (htb _ qw_37) (fun _ h9 => h9) rfl dX2_priceOfNext_11 ?_
    refine lv_iload_n hx hb dX2_priceOfNext_14 rfl (lv_at hl 1 rfl) ?_
    refine qk_iald hx hb hK hP 1 0 rfl rfl (i := k) (by omega) (by omega) (v := nI wk) hw dX2_priceOfNext_15 ?_
    refine lv_bipush (v := nI 12) hx hb dX2_priceOfNext_16 (by decide) ?_
    refine lv_iload_n hx hb dX2_priceOfNext_18 rfl (lv_at hl 2 rfl) ?_
    refine lv_isub hx hb dX2_priceOfNext_19 ?_
    refine qk_topi (t := nI (12 - b)) (pk_sub (by omega)) ?_
    refine lv_imul hx hb dX2_priceOfNext_20 ?_
    refine qk_topi (t := nI (wk * (12 - b))) (pk_mul _ _) ?_
    refine lv_iconst (v := nI 4) hx hb dX2_priceOfNext_21 (by decide) ?_
    refine lv_idiv hx hb dX2_priceOfNext_22 (by decide) ?_
    refine qk_topi (t := nI ((wk * (12 - b)) / 4)) (pk_div (by omega) (by omega) (by omega)) ?_
    refine lv_istore_n (lv' := [(3, .int (nI ((wk * (12 - b)) / 4))), (0, .ref h0), (1, .int (nI k)), (2, .int (nI b))]) hx hb dX2_priceOfNext_23 rfl hl (by decide) rfl (fun ls hl => ?_)
    refine lv_aload_n hx hb dX2_priceOfNext_24 rfl (lv_at hl 1 rfl) ?_
    refine va_get (D := G.1) (ci := 2) (v := .ref qu) (C := "GradeRows$Rules") (T := TX2) (N := 5) hx hb htb inX2 hown hK hP 0 rfl rfl 2 (by decide) (htb _ qw_39) (fun _ h9 => h9) rfl dX2_priceOfNext_25 ?_
    refine lv_iload_n hx hb dX2_priceOfNext_28 rfl (lv_at hl 2 rfl) ?_
    refine qk_iald hx hb hK hP 3 0 rfl rfl (i := k) (by omega) (by omega) (v := nI uk) hu dX2_priceOfNext_29 ?_
    refine lv_if_ne (tgt := 44) hx hb dX2_priceOfNext_30 (by decide) (fun cu => ?_) (fun cu => ?_)
    · have cu : ¬ (uk = 0) := fun q9 => cu ((z0eq (by omega)).mpr q9)
      refine lv_iload_n hx hb dX2_priceOfNext_44 rfl (lv_at hl 0 rfl) ?_
      exact W.iret (v := nI ((wk * (12 - b)) / 4)) hx hb hr (fun t9 ht9 hW9 => ⟨_, rfl, by rw [if_neg cu, Nat.add_zero], ht9⟩) (fun q h => absurd h List.not_mem_nil) dX2_priceOfNext_45
    · have cu : uk = 0 := (z0eq (by omega)).mp cu
      refine lv_iload_n hx hb dX2_priceOfNext_33 rfl (lv_at hl 0 rfl) ?_
      refine lv_aload_n hx hb dX2_priceOfNext_34 rfl (lv_at hl 1 rfl) ?_
      refine va_get (D := G.1) (ci := 2) (v := .ref qx) (C := "GradeRows$Rules") (T := TX2) (N := 5) hx hb htb inX2 hown hK hP 0 rfl rfl 1 (by decide) (htb _ qw_38) (fun _ h9 => h9) rfl dX2_priceOfNext_35 ?_
      refine lv_iload_n hx hb dX2_priceOfNext_38 rfl (lv_at hl 2 rfl) ?_
      refine qk_iald hx hb hK hP 2 0 rfl rfl (i := k) (by omega) (by omega) (v := nI xk) hx1 dX2_priceOfNext_39 ?_
      refine lv_iadd hx hb dX2_priceOfNext_40 ?_
      refine qk_topi (t := nI (((wk * (12 - b)) / 4) + xk)) (nI_add _ _) ?_
      refine lv_goto (tgt := 45) hx hb dX2_priceOfNext_41 (by decide) ?_
      exact W.iret (v := nI (((wk * (12 - b)) / 4) + xk)) hx hb hr (fun t9 ht9 hW9 => ⟨_, rfl, by rw [if_pos cu], ht9⟩) (fun q h => absurd h List.not_mem_nil) dX2_priceOfNext_45
  · have c_1 : 1 = 0 := (z0eq (by omega)).mp c_1
    exfalso; omega

set_option maxHeartbeats 4000000 in
set_option maxRecDepth 100000 in
/-- Rules.noteStep -/
theorem qc_R_note (l : Launch) (G : qG) (h0 : Nat) (qw : Nat) (qx : Nat) (qu : Nat) (qs : Nat) (n : Nat) (fu : Nat → Int32) (fs : Nat → Int64) (k : Nat) (pr : Nat) (uk : Nat) (sk : Nat) (sz : Nat) (hk : k < n) (hn : n ≤ 40) (hu : fu k = nI uk) (hs : fs k = lN sk) (hpr : pr < 2 ^ 31) : Met l yX2_noteStep wsX2_noteStep ({ frames := 1, cells := 0, slots := 0, locals := 21 } : Room) (va_Pc [.ref h0, .int (nI k), .int (nI pr)] (qk_prw G vwCl [(h0, .inr (2, [.ref qw, .ref qx, .ref qu, .ref qs, .int (nI n)])), (qu, .inl (G.2.1, 40, .inl fu)), (qs, .inl (G.2.2.1, 40, .inr (.inl fs)))] sz)) (va_Qv (fun (_ : Unit) => True) (qk_B G vwCl (va_A [(h0, .inr (2, [.ref qw, .ref qx, .ref qu, .ref qs, .int (nI n)])), (qu, .inl (G.2.1, 40, .inl fu)), (qs, .inl (G.2.2.1, 40, .inr (.inl fs)))] sz) (fun (_ : Unit) => [(h0, .inr (2, [.ref qw, .ref qx, .ref qu, .ref qs, .int (nI n)])), (qu, .inl (G.2.1, 40, .inl (upd fu k (nI (uk + 1))))), (qs, .inl (G.2.2.1, 40, .inr (.inl (vp_updL fs k (lN (sk + pr))))))])) (va_A [(h0, .inr (2, [.ref qw, .ref qx, .ref qu, .ref qs, .int (nI n)])), (qu, .inl (G.2.1, 40, .inl fu)), (qs, .inl (G.2.2.1, 40, .inr (.inl fs)))] sz)) 0 0 (va_A [(h0, .inr (2, [.ref qw, .ref qx, .ref qu, .ref qs, .int (nI n)])), (qu, .inl (G.2.1, 40, .inl fu)), (qs, .inl (G.2.2.1, 40, .inr (.inl fs)))] sz) := by
  refine Met.ofW (cc := cX2_noteStep) (maxL := 3) (ret := none) (by decide) rfl ?_
  intro p e s m args below meth c s₁ B hml hv
  obtain ⟨rfl, hsz, hP, hK, hD0, hN⟩ := hv
  have hx := B.exec
  have hb := B.bytes
  have hr := B.returns
  have hlocks := B.notSynchronized
  have hts := atoms_spec (ws := wsX2_noteStep) B.pre
  have htb := fun (w : Cond) (h : w ∈ qTb) => hts w (List.mem_cons_of_mem _ h)
  have hown : s.vm.findClass "GradeRows$Rules" = some m.cls := findClass_of_methodNamed B.named
  subst hsz
  have hD := hD0.self (sz := s.heap.size)
  generalize hAe : va_A [(h0, .inr (2, [.ref qw, .ref qx, .ref qu, .ref qs, .int (nI n)])), (qu, .inl (G.2.1, 40, .inl fu)), (qs, .inl (G.2.2.1, 40, .inr (.inl fs)))] s.heap.size = A at hD ⊢
  have hA : ∀ q : Nat, s.heap.size ≤ q → A q := fun q h => by rw [← hAe]; exact Or.inr h
  have hS : va_S A s.heap s.heap [] := va_S.rf
  have hP : va_P G.1 vwCl [(h0, .inr (2, [.ref qw, .ref qx, .ref qu, .ref qs, .int (nI n)])), (qu, .inl (G.2.1, 40, .inl fu)), (qs, .inl (G.2.2.1, 40, .inr (.inl fs)))] s.heap := hP
  have hl := lv_entry ([.ref h0, .int (nI k), .int (nI pr)]) (n := 3) (Nat.le_of_ble_eq_true rfl)
  rw [lg_entry_eq]
  generalize (lg_sl ([.ref h0, .int (nI k), .int (nI pr)]) ++ List.replicate (3 - (lg_sl ([.ref h0, .int (nI k), .int (nI pr)])).length) Slot.unset).toArray = ls at hl ⊢
  have hl : lv_has ls 3 [(0, .ref h0), (1, .int (nI k)), (2, .int (nI pr))] := hl
  refine lv_aload_n hx hb dX2_noteStep_0 rfl (lv_at hl 0 rfl) ?_
  refine lv_iload_n hx hb dX2_noteStep_1 rfl (lv_at hl 1 rfl) ?_
  have hPc := hP.sub (ws' := [(h0, .inr (2, [.ref qw, .ref qx, .ref qu, .ref qs, .int (nI n)]))]) [0] rfl
  refine vp_callSi (va_runV (As := [.int (nI k)]) (rest := []) ⟨hx, hb, hml, hown, htb⟩ (qc_R_has l G h0 qw qx qu qs n (nI k)) (cwV 1 htb (qW_V qw_168 qw_157 qw_158 qw_14 qw_159) rfl rfl rfl (by decide +kernel) ⟨Nat.le_of_ble_eq_true rfl, Nat.le_of_ble_eq_true rfl⟩) (qk_pv (ci := 2) (q0 := 0) hK hPc hN rfl rfl) rfl rfl hl.1 rfl (lv_room (Nat.le_of_ble_eq_true rfl)) dX2_noteStep_2 ⟨Nat.le_of_ble_eq_true rfl, Nat.le_of_ble_eq_true rfl⟩).run (fun r_2 e_2 => ?_)
  subst e_2
  refine qk_topi (t := nI 1) (if_pos ⟨nI_pos (by omega), nI_lt (by omega) (by omega)⟩) ?_
  refine lv_if_eq (tgt := 29) hx hb dX2_noteStep_5 (by decide) (fun c_1 => ?_) (fun c_1 => ?_)
  · have c_1 : 1 = 0 := (z0eq (by omega)).mp c_1
    exfalso; omega
  · have c_1 : ¬ (1 = 0) := fun q9 => c_1 ((z0eq (by omega)).mpr q9)
    refine lv_aload_n hx hb dX2_noteStep_8 rfl (lv_at hl 0 rfl) ?_
    refine va_get (D := G.1) (ci := 2) (v := .ref qu) (C := "GradeRows$Rules") (T := TX2) (N := 5) hx hb htb inX2 hown hK hP 0 rfl rfl 2 (by decide) (htb _ qw_39) (fun _ h9 => h9) rfl dX2_noteStep_9 ?_
    refine lv_iload_n hx hb dX2_noteStep_12 rfl (lv_at hl 1 rfl) ?_
    refine lv_dup2_11 hx hb dX2_noteStep_13 rfl rfl ?_
    refine qk_iald hx hb hK hP 1 0 rfl rfl (i := k) (by omega) (by omega) (v := nI uk) hu dX2_noteStep_14 ?_
    refine lv_iconst (v := nI 1) hx hb dX2_noteStep_15 (by decide) ?_
    refine lv_iadd hx hb dX2_noteStep_16 ?_
    refine qk_topi (t := nI (uk + 1)) (nI_add _ _) ?_
    refine qk_iast hx hb hK hP hD hS 1 0 rfl rfl (i := k) (by omega) (by omega) dX2_noteStep_17 (fun H locs hP hD hS => ?_)
    have hP : va_P G.1 vwCl [(h0, .inr (2, [.ref qw, .ref qx, .ref qu, .ref qs, .int (nI n)])), (qu, .inl (G.2.1, 40, .inl (upd fu k (nI (uk + 1))))), (qs, .inl (G.2.2.1, 40, .inr (.inl fs)))] H := hP
    have hD : va_D A [(h0, .inr (2, [.ref qw, .ref qx, .ref qu, .ref qs, .int (nI n)])), (qu, .inl (G.2.1, 40, .inl (upd fu k (nI (uk + 1))))), (qs, .inl (G.2.2.1, 40, .inr (.inl fs)))] := hD
    refine lv_aload_n hx hb dX2_noteStep_18 rfl (lv_at hl 0 rfl) ?_
    refine va_get (D := G.1) (ci := 2) (v := .ref qs) (C := "GradeRows$Rules") (T := TX2) (N := 5) hx hb htb inX2 hown hK hP 0 rfl rfl 3 (by decide) (htb _ qw_40) (fun _ h9 => h9) rfl dX2_noteStep_19 ?_
    refine lv_iload_n hx hb dX2_noteStep_22 rfl (lv_at hl 1 rfl) ?_
    refine lv_dup2_11 hx hb dX2_noteStep_23 rfl rfl ?_
    refine qk_lald hx hb hK hP 2 1 rfl rfl (i := k) (by omega) (by omega) (v := lN sk) hs dX2_noteStep_24 ?_
    refine lv_iload_n hx hb dX2_noteStep_25 rfl (lv_at hl 2 rfl) ?_
    refine lv_i2l (v := lN pr) hx hb dX2_noteStep_26 (nI_l (by omega)) ?_
    refine lv_ladd hx hb dX2_noteStep_27 ?_
    refine qk_topl (t := lN (sk + pr)) (lN_add _ _) ?_
    refine qk_last hx hb hK hP hD hS 2 1 rfl rfl (i := k) (by omega) (by omega) dX2_noteStep_28 (fun H locs hP hD hS => ?_)
    have hP : va_P G.1 vwCl [(h0, .inr (2, [.ref qw, .ref qx, .ref qu, .ref qs, .int (nI n)])), (qu, .inl (G.2.1, 40, .inl (upd fu k (nI (uk + 1))))), (qs, .inl (G.2.2.1, 40, .inr (.inl (vp_updL fs k (lN (sk + pr))))))] H := hP
    have hD : va_D A [(h0, .inr (2, [.ref qw, .ref qx, .ref qu, .ref qs, .int (nI n)])), (qu, .inl (G.2.1, 40, .inl (upd fu k (nI (uk + 1))))), (qs, .inl (G.2.2.1, 40, .inr (.inl (vp_updL fs k (lN (sk + pr))))))] := hD
    have hP9 := hP.sub (ws' := [(h0, .inr (2, [.ref qw, .ref qx, .ref qu, .ref qs, .int (nI n)])), (qu, .inl (G.2.1, 40, .inl (upd fu k (nI (uk + 1))))), (qs, .inl (G.2.2.1, 40, .inr (.inl (vp_updL fs k (lN (sk + pr))))))]) [0, 1, 2] rfl
    have hD9 := hD.sub (ws' := [(h0, .inr (2, [.ref qw, .ref qx, .ref qu, .ref qs, .int (nI n)])), (qu, .inl (G.2.1, 40, .inl (upd fu k (nI (uk + 1))))), (qs, .inl (G.2.2.1, 40, .inr (.inl (vp_updL fs k (lN (sk + pr))))))]) [0, 1, 2] (by decide) rfl
    exact W.vret hx hb hr (fun t9 ht9 hW9 => ⟨⟨(), rfl, trivial, by rw [ht9]; exact hP9, va_K.moved hW9.alike hK, hD9⟩, hS.F ht9⟩) hS.2.2 dX2_noteStep_29

set_option maxHeartbeats 4000000 in
set_option maxRecDepth 100000 in
/-- Rules.forgetStep -/
theorem qc_R_forget (l : Launch) (G : qG) (h0 : Nat) (qw : Nat) (qx : Nat) (qu : Nat) (qs : Nat) (n : Nat) (fu : Nat → Int32) (fs : Nat → Int64) (k : Nat) (pr : Nat) (uk : Nat) (sk : Nat) (sz : Nat) (hk : k < n) (hn : n ≤ 40) (hu : fu k = nI (uk + 1)) (hs : fs k = lN (sk + pr)) (hpr : pr < 2 ^ 31) : Met l yX2_forgetStep wsX2_forgetStep ({ frames := 1, cells := 0, slots := 0, locals := 21 } : Room) (va_Pc [.ref h0, .int (nI k), .int (nI pr)] (qk_prw G vwCl [(h0, .inr (2, [.ref qw, .ref qx, .ref qu, .ref qs, .int (nI n)])), (qu, .inl (G.2.1, 40, .inl fu)), (qs, .inl (G.2.2.1, 40, .inr (.inl fs)))] sz)) (va_Qv (fun (_ : Unit) => True) (qk_B G vwCl (va_A [(h0, .inr (2, [.ref qw, .ref qx, .ref qu, .ref qs, .int (nI n)])), (qu, .inl (G.2.1, 40, .inl fu)), (qs, .inl (G.2.2.1, 40, .inr (.inl fs)))] sz) (fun (_ : Unit) => [(h0, .inr (2, [.ref qw, .ref qx, .ref qu, .ref qs, .int (nI n)])), (qu, .inl (G.2.1, 40, .inl (upd fu k (nI uk)))), (qs, .inl (G.2.2.1, 40, .inr (.inl (vp_updL fs k (lN sk)))))])) (va_A [(h0, .inr (2, [.ref qw, .ref qx, .ref qu, .ref qs, .int (nI n)])), (qu, .inl (G.2.1, 40, .inl fu)), (qs, .inl (G.2.2.1, 40, .inr (.inl fs)))] sz)) 0 0 (va_A [(h0, .inr (2, [.ref qw, .ref qx, .ref qu, .ref qs, .int (nI n)])), (qu, .inl (G.2.1, 40, .inl fu)), (qs, .inl (G.2.2.1, 40, .inr (.inl fs)))] sz) := by
  refine Met.ofW (cc := cX2_forgetStep) (maxL := 3) (ret := none) (by decide) rfl ?_
  intro p e s m args below meth c s₁ B hml hv
  obtain ⟨rfl, hsz, hP, hK, hD0, hN⟩ := hv
  have hx := B.exec
  have hb := B.bytes
  have hr := B.returns
  have hlocks := B.notSynchronized
  have hts := atoms_spec (ws := wsX2_forgetStep) B.pre
  have htb := fun (w : Cond) (h : w ∈ qTb) => hts w (List.mem_cons_of_mem _ h)
  have hown : s.vm.findClass "GradeRows$Rules" = some m.cls := findClass_of_methodNamed B.named
  subst hsz
  have hD := hD0.self (sz := s.heap.size)
  generalize hAe : va_A [(h0, .inr (2, [.ref qw, .ref qx, .ref qu, .ref qs, .int (nI n)])), (qu, .inl (G.2.1, 40, .inl fu)), (qs, .inl (G.2.2.1, 40, .inr (.inl fs)))] s.heap.size = A at hD ⊢
  have hA : ∀ q : Nat, s.heap.size ≤ q → A q := fun q h => by rw [← hAe]; exact Or.inr h
  have hS : va_S A s.heap s.heap [] := va_S.rf
  have hP : va_P G.1 vwCl [(h0, .inr (2, [.ref qw, .ref qx, .ref qu, .ref qs, .int (nI n)])), (qu, .inl (G.2.1, 40, .inl fu)), (qs, .inl (G.2.2.1, 40, .inr (.inl fs)))] s.heap := hP
  have hl := lv_entry ([.ref h0, .int (nI k), .int (nI pr)]) (n := 3) (Nat.le_of_ble_eq_true rfl)
  rw [lg_entry_eq]
  generalize (lg_sl ([.ref h0, .int (nI k), .int (nI pr)]) ++ List.replicate (3 - (lg_sl ([.ref h0, .int (nI k), .int (nI pr)])).length) Slot.unset).toArray = ls at hl ⊢
  have hl : lv_has ls 3 [(0, .ref h0), (1, .int (nI k)), (2, .int (nI pr))] := hl
  refine lv_aload_n hx hb dX2_forgetStep_0 rfl (lv_at hl 0 rfl) ?_
  refine lv_iload_n hx hb dX2_forgetStep_1 rfl (lv_at hl 1 rfl) ?_
  have hPc := hP.sub (ws' := [(h0, .inr (2, [.ref qw, .ref qx, .ref qu, .ref qs, .int (nI n)]))]) [0] rfl
  refine vp_callSi (va_runV (As := [.int (nI k)]) (rest := []) ⟨hx, hb, hml, hown, htb⟩ (qc_R_has l G h0 qw qx qu qs n (nI k)) (cwV 1 htb (qW_V qw_168 qw_157 qw_158 qw_14 qw_159) rfl rfl rfl (by decide +kernel) ⟨Nat.le_of_ble_eq_true rfl, Nat.le_of_ble_eq_true rfl⟩) (qk_pv (ci := 2) (q0 := 0) hK hPc hN rfl rfl) rfl rfl hl.1 rfl (lv_room (Nat.le_of_ble_eq_true rfl)) dX2_forgetStep_2 ⟨Nat.le_of_ble_eq_true rfl, Nat.le_of_ble_eq_true rfl⟩).run (fun r_2 e_2 => ?_)
  subst e_2
  refine qk_topi (t := nI 1) (if_pos ⟨nI_pos (by omega), nI_lt (by omega) (by omega)⟩) ?_
  refine lv_if_eq (tgt := 29) hx hb dX2_forgetStep_5 (by decide) (fun c_1 => ?_) (fun c_1 => ?_)
  · have c_1 : 1 = 0 := (z0eq (by omega)).mp c_1
    exfalso; omega
  · have c_1 : ¬ (1 = 0) := fun q9 => c_1 ((z0eq (by omega)).mpr q9)
    refine lv_aload_n hx hb dX2_forgetStep_8 rfl (lv_at hl 0 rfl) ?_
    refine va_get (D := G.1) (ci := 2) (v := .ref qu) (C := "GradeRows$Rules") (T := TX2) (N := 5) hx hb htb inX2 hown hK hP 0 rfl rfl 2 (by decide) (htb _ qw_39) (fun _ h9 => h9) rfl dX2_forgetStep_9 ?_
    refine lv_iload_n hx hb dX2_forgetStep_12 rfl (lv_at hl 1 rfl) ?_
    refine lv_dup2_11 hx hb dX2_forgetStep_13 rfl rfl ?_
    refine qk_iald hx hb hK hP 1 0 rfl rfl (i := k) (by omega) (by omega) (v := nI (uk + 1)) hu dX2_forgetStep_14 ?_
    refine lv_iconst (v := nI 1) hx hb dX2_forgetStep_15 (by decide) ?_
    refine lv_isub hx hb dX2_forgetStep_16 ?_
    refine qk_topi (t := nI uk) (nI_pred uk) ?_
    refine qk_iast hx hb hK hP hD hS 1 0 rfl rfl (i := k) (by omega) (by omega) dX2_forgetStep_17 (fun H locs hP hD hS => ?_)
    have hP : va_P G.1 vwCl [(h0, .inr (2, [.ref qw, .ref qx, .ref qu, .ref qs, .int (nI n)])), (qu, .inl (G.2.1, 40, .inl (upd fu k (nI uk)))), (qs, .inl (G.2.2.1, 40, .inr (.inl fs)))] H := hP
    have hD : va_D A [(h0, .inr (2, [.ref qw, .ref qx, .ref qu, .ref qs, .int (nI n)])), (qu, .inl (G.2.1, 40, .inl (upd fu k (nI uk)))), (qs, .inl (G.2.2.1, 40, .inr (.inl fs)))] := hD
    refine lv_aload_n hx hb dX2_forgetStep_18 rfl (lv_at hl 0 rfl) ?_
    refine va_get (D := G.1) (ci := 2) (v := .ref qs) (C := "GradeRows$Rules") (T := TX2) (N := 5) hx hb htb inX2 hown hK hP 0 rfl rfl 3 (by decide) (htb _ qw_40) (fun _ h9 => h9) rfl dX2_forgetStep_19 ?_
    refine lv_iload_n hx hb dX2_forgetStep_22 rfl (lv_at hl 1 rfl) ?_
    refine lv_dup2_11 hx hb dX2_forgetStep_23 rfl rfl ?_
    refine qk_lald hx hb hK hP 2 1 rfl rfl (i := k) (by omega) (by omega) (v := lN (sk + pr)) hs dX2_forgetStep_24 ?_
    refine lv_iload_n hx hb dX2_forgetStep_25 rfl (lv_at hl 2 rfl) ?_
    refine lv_i2l (v := lN pr) hx hb dX2_forgetStep_26 (nI_l (by omega)) ?_
    refine lv_lsub hx hb dX2_forgetStep_27 ?_
    refine qk_topl (t := lN sk) ((lN_sub (by omega)).trans (by rw [Nat.add_sub_cancel])) ?_
    refine qk_last hx hb hK hP hD hS 2 1 rfl rfl (i := k) (by omega) (by omega) dX2_forgetStep_28 (fun H locs hP hD hS => ?_)
    have hP : va_P G.1 vwCl [(h0, .inr (2, [.ref qw, .ref qx, .ref qu, .ref qs, .int (nI n)])), (qu, .inl (G.2.1, 40, .inl (upd fu k (nI uk)))), (qs, .inl (G.2.2.1, 40, .inr (.inl (vp_updL fs k (lN sk)))))] H := hP
    have hD : va_D A [(h0, .inr (2, [.ref qw, .ref qx, .ref qu, .ref qs, .int (nI n)])), (qu, .inl (G.2.1, 40, .inl (upd fu k (nI uk)))), (qs, .inl (G.2.2.1, 40, .inr (.inl (vp_updL fs k (lN sk)))))] := hD
    have hP9 := hP.sub (ws' := [(h0, .inr (2, [.ref qw, .ref qx, .ref qu, .ref qs, .int (nI n)])), (qu, .inl (G.2.1, 40, .inl (upd fu k (nI uk)))), (qs, .inl (G.2.2.1, 40, .inr (.inl (vp_updL fs k (lN sk)))))]) [0, 1, 2] rfl
    have hD9 := hD.sub (ws' := [(h0, .inr (2, [.ref qw, .ref qx, .ref qu, .ref qs, .int (nI n)])), (qu, .inl (G.2.1, 40, .inl (upd fu k (nI uk)))), (qs, .inl (G.2.2.1, 40, .inr (.inl (vp_updL fs k (lN sk)))))]) [0, 1, 2] (by decide) rfl
    exact W.vret hx hb hr (fun t9 ht9 hW9 => ⟨⟨(), rfl, trivial, by rw [ht9]; exact hP9, va_K.moved hW9.alike hK, hD9⟩, hS.F ht9⟩) hS.2.2 dX2_forgetStep_29

set_option maxHeartbeats 4000000 in
set_option maxRecDepth 100000 in
/-- Rules.forgetStep of a guess -/
theorem qc_R_forget0 (l : Launch) (G : qG) (h0 : Nat) (qw : Nat) (qx : Nat) (qu : Nat) (qs : Nat) (n : Nat) (x : Int32)  : Met l yX2_forgetStep wsX2_forgetStep ({ frames := 1, cells := 0, slots := 0, locals := 21 } : Room) (va_Pc [.ref h0, .int (-1), .int x] (qk_pre G vwCl [(h0, .inr (2, [.ref qw, .ref qx, .ref qu, .ref qs, .int (nI n)]))])) (va_Sv (fun _ => True)) 0 0 (fun _ => False) := by
  refine Met.ofW (cc := cX2_forgetStep) (maxL := 3) (ret := none) (by decide) rfl ?_
  intro p e s m args below meth c s₁ B hml hv
  obtain ⟨rfl, hP, hK, hN⟩ := hv
  have hx := B.exec
  have hb := B.bytes
  have hr := B.returns
  have hlocks := B.notSynchronized
  have hts := atoms_spec (ws := wsX2_forgetStep) B.pre
  have htb := fun (w : Cond) (h : w ∈ qTb) => hts w (List.mem_cons_of_mem _ h)
  have hown : s.vm.findClass "GradeRows$Rules" = some m.cls := findClass_of_methodNamed B.named
  have hP : va_P G.1 vwCl [(h0, .inr (2, [.ref qw, .ref qx, .ref qu, .ref qs, .int (nI n)]))] s.heap := hP
  have hl := lv_entry ([.ref h0, .int (-1), .int x]) (n := 3) (Nat.le_of_ble_eq_true rfl)
  rw [lg_entry_eq]
  generalize (lg_sl ([.ref h0, .int (-1), .int x]) ++ List.replicate (3 - (lg_sl ([.ref h0, .int (-1), .int x])).length) Slot.unset).toArray = ls at hl ⊢
  have hl : lv_has ls 3 [(0, .ref h0), (1, .int (-1)), (2, .int x)] := hl
  refine lv_aload_n hx hb dX2_forgetStep_0 rfl (lv_at hl 0 rfl) ?_
  refine lv_iload_n hx hb dX2_forgetStep_1 rfl (lv_at hl 1 rfl) ?_
  have hPc := hP.sub (ws' := [(h0, .inr (2, [.ref qw, .ref qx, .ref qu, .ref qs, .int (nI n)]))]) [0] rfl
  refine vp_callSi (va_runV (As := [.int (-1)]) (rest := []) ⟨hx, hb, hml, hown, htb⟩ (qc_R_has l G h0 qw qx qu qs n (-1)) (cwV 1 htb (qW_V qw_168 qw_157 qw_158 qw_14 qw_159) rfl rfl rfl (by decide +kernel) ⟨Nat.le_of_ble_eq_true rfl, Nat.le_of_ble_eq_true rfl⟩) (qk_pv (ci := 2) (q0 := 0) hK hPc hN rfl rfl) rfl rfl hl.1 rfl (lv_room (Nat.le_of_ble_eq_true rfl)) dX2_forgetStep_2 ⟨Nat.le_of_ble_eq_true rfl, Nat.le_of_ble_eq_true rfl⟩).run (fun r_2 e_2 => ?_)
  subst e_2
  refine qk_topi (t := nI 0) (if_neg (fun h => h.1 (by decide))) ?_
  refine lv_if_eq (tgt := 29) hx hb dX2_forgetStep_5 (by decide) (fun c_1 => ?_) (fun c_1 => ?_)
  · have c_1 : 0 = 0 := (z0eq (by omega)).mp c_1
    exact W.vret hx hb hr (fun t9 ht9 hW9 => ⟨rfl, trivial, ht9⟩) (fun q h => absurd h List.not_mem_nil) dX2_forgetStep_29
  · have c_1 : ¬ (0 = 0) := fun q9 => c_1 ((z0eq (by omega)).mpr q9)
    exfalso; omega

set_option maxHeartbeats 4000000 in
set_option maxRecDepth 100000 in
/-- Rules.dearest -/
theorem qc_R_dear (l : Launch) (G : qG) (h0 : Nat) (qw : Nat) (qx : Nat) (qu : Nat) (qs : Nat) (n : Nat) (fu : Nat → Int32) (fs : Nat → Int64) (u : Nat → Nat) (sp : Nat → Nat) (hn : n ≤ 40) (hu : ∀ i, i < n → fu i = nI (u i)) (hs : ∀ i, i < n → fs i = lN (sp i)) (hub : ∀ i, i < n → u i ≤ 200) (hsb : ∀ i, i < n → sp i ≤ 26000000) : Met l yX2_dearest wsX2_dearest ({ frames := 0, cells := 0, slots := 0, locals := 0 } : Room) (va_Pc [.ref h0] (qk_pre G vwCl [(h0, .inr (2, [.ref qw, .ref qx, .ref qu, .ref qs, .int (nI n)])), (qu, .inl (G.2.1, 40, .inl fu)), (qs, .inl (G.2.2.1, 40, .inr (.inl fs)))])) (vp_Si (fun r => r = nM (qm_hd u sp n).1)) 0 0 (fun _ => False) := by
  refine Met.ofW (cc := cX2_dearest) (maxL := 5) (ret := (some .int)) (by decide) rfl ?_
  intro p e s m args below meth c s₁ B hml hv
  obtain ⟨rfl, hP, hK, hN⟩ := hv
  have hx := B.exec
  have hb := B.bytes
  have hr := B.returns
  have hlocks := B.notSynchronized
  have hts := atoms_spec (ws := wsX2_dearest) B.pre
  have htb := fun (w : Cond) (h : w ∈ qTb) => hts w (List.mem_cons_of_mem _ h)
  have hown : s.vm.findClass "GradeRows$Rules" = some m.cls := findClass_of_methodNamed B.named
  have hP : va_P G.1 vwCl [(h0, .inr (2, [.ref qw, .ref qx, .ref qu, .ref qs, .int (nI n)])), (qu, .inl (G.2.1, 40, .inl fu)), (qs, .inl (G.2.2.1, 40, .inr (.inl fs)))] s.heap := hP
  have hl := lv_entry ([.ref h0]) (n := 5) (Nat.le_of_ble_eq_true rfl)
  rw [lg_entry_eq]
  generalize (lg_sl ([.ref h0]) ++ List.replicate (5 - (lg_sl ([.ref h0])).length) Slot.unset).toArray = ls at hl ⊢
  have hl : lv_has ls 5 [(0, .ref h0)] := hl
  refine lv_iconst (v := (-1)) hx hb dX2_dearest_0 (by decide) ?_
  refine qk_topi (t := nM 0) nM_0.symm ?_
  refine lv_istore_n (lv' := [(1, .int (nM 0)), (0, .ref h0)]) hx hb dX2_dearest_1 rfl hl (by decide) rfl (fun ls hl => ?_)
  refine lv_ldc2 (v := -1) hx hb hown (htb _ qw_321) dX2_dearest_2 ?_
  refine qk_topl (t := lM 0) lM_0.symm ?_
  refine lv_lstore_n (lv' := [(2, .long (lM 0)), (1, .int (nM 0)), (0, .ref h0)]) hx hb dX2_dearest_5 rfl hl (by decide) rfl (fun ls hl => ?_)
  refine lv_iconst (v := nI 0) hx hb dX2_dearest_6 (by decide) ?_
  refine lv_istore (lv' := [(4, .int (nI 0)), (2, .long (lM 0)), (1, .int (nM 0)), (0, .ref h0)]) hx hb dX2_dearest_7 hl (by decide) rfl (fun ls hl => ?_)
  have loop_9 : ∀ (N : Nat) (i : Nat) (b : Nat) (mo : Nat) (ls : Array Slot), n - i < N → (i ≤ n) → (qm_hd u sp i = (b, mo)) → (b ≤ i ∧ mo ≤ 26000001) → lv_has ls 5 [(4, .int (nI i)), (2, .long (lM mo)), (1, .int (nM b)), (0, .ref h0)] → W p l e (headSpec wsX2_dearest ({ frames := 0, cells := 0, slots := 0, locals := 0 } : Room)).room s m ([.ref h0] : List Value).toArray below meth c s.heap [] 0 0 (MQ below (vp_Si (fun r => r = nM (qm_hd u sp n).1)) ([.ref h0] : List Value).toArray s 0 0 (fun _ => False)) (F0 m 9 ls []) := by
    intro N
    induction N with
    | zero => intro i b mo ls hm; exact absurd hm (Nat.not_lt_zero _)
    | succ N ih =>
      intro i b mo ls hm hi hq hbm hl
      refine lv_iload hx hb dX2_dearest_9 (lv_at hl 0 rfl) ?_
      refine lv_aload_n hx hb dX2_dearest_11 rfl (lv_at hl 3 rfl) ?_
      refine va_get (D := G.1) (ci := 2) (v := .int (nI n)) (C := "GradeRows$Rules") (T := TX2) (N := 5) hx hb htb inX2 hown hK hP 0 rfl rfl 4 (by decide) (htb _ qw_41) (fun _ h9 => h9) rfl dX2_dearest_12 ?_
      refine lv_icmp_ge (tgt := 57) hx hb dX2_dearest_15 (by decide) (fun c_1 => ?_) (fun c_1 => ?_)
      · have c_1 : n ≤ i := (nI_leI (by omega) (by omega)).mp c_1
        refine lv_iload_n hx hb dX2_dearest_57 rfl (lv_at hl 2 rfl) ?_
        exact W.iret (v := nM b) hx hb hr (fun t9 ht9 hW9 => ⟨_, rfl, by rw [← show i = n by omega, hq], ht9⟩) (fun q h => absurd h List.not_mem_nil) dX2_dearest_58
      · have c_1 : ¬ (n ≤ i) := fun q9 => c_1 ((nI_leI (by omega) (by omega)).mpr q9)
        refine lv_aload_n hx hb dX2_dearest_18 rfl (lv_at hl 3 rfl) ?_
        refine va_get (D := G.1) (ci := 2) (v := .ref qu) (C := "GradeRows$Rules") (T := TX2) (N := 5) hx hb htb inX2 hown hK hP 0 rfl rfl 2 (by decide) (htb _ qw_39) (fun _ h9 => h9) rfl dX2_dearest_19 ?_
        refine lv_iload hx hb dX2_dearest_22 (lv_at hl 0 rfl) ?_
        have hub1 := hub i (by omega)
        have hsb1 := hsb i (by omega)
        refine qk_iald hx hb hK hP 1 0 rfl rfl (i := i) (by omega) (by omega) (v := nI (u i)) (hu i (by omega)) dX2_dearest_24 ?_
        refine lv_if_le (tgt := 51) hx hb dX2_dearest_25 (by decide) (fun c_2 => ?_) (fun c_2 => ?_)
        · have c_2 : (u i) ≤ 0 := (z0le (by omega)).mp c_2
          refine lv_iinc (v := nI (i + 1)) (lv' := [(4, .int (nI (i + 1))), (2, .long (lM mo)), (1, .int (nM b)), (0, .ref h0)]) hx hb dX2_dearest_51 hl (k := 0) rfl (nI_1 i) (by decide) rfl (fun ls hl => ?_)
          refine lv_goto (tgt := 9) hx hb dX2_dearest_54 (by decide) ?_
          exact ih (i + 1) b mo ls (by omega) (by omega) ((qm_hd_no (by rw [hq]; intro h; omega)).trans hq) (⟨by omega, hbm.2⟩) (lv_sub hl [0, 1, 2, 3] rfl)
        · have c_2 : ¬ ((u i) ≤ 0) := fun q9 => c_2 ((z0le (by omega)).mpr q9)
          refine lv_aload_n hx hb dX2_dearest_28 rfl (lv_at hl 3 rfl) ?_
          refine va_get (D := G.1) (ci := 2) (v := .ref qs) (C := "GradeRows$Rules") (T := TX2) (N := 5) hx hb htb inX2 hown hK hP 0 rfl rfl 3 (by decide) (htb _ qw_40) (fun _ h9 => h9) rfl dX2_dearest_29 ?_
          refine lv_iload hx hb dX2_dearest_32 (lv_at hl 0 rfl) ?_
          refine qk_lald hx hb hK hP 2 1 rfl rfl (i := i) (by omega) (by omega) (v := lM (sp i + 1)) ((hs i (by omega)).trans (lM_s _).symm) dX2_dearest_34 ?_
          refine lv_lload_n hx hb dX2_dearest_35 rfl (lv_at hl 1 rfl) ?_
          refine W.lcmp hx hb dX2_dearest_36 ?_
          refine lv_if_le (tgt := 51) hx hb dX2_dearest_37 (by decide) (fun c_3 => ?_) (fun c_3 => ?_)
          · have c_3 : (sp i + 1) ≤ mo := ((lg_cmp_le _ _).trans (lM_le (by omega) (by omega))).mp c_3
            refine lv_iinc (v := nI (i + 1)) (lv' := [(4, .int (nI (i + 1))), (2, .long (lM mo)), (1, .int (nM b)), (0, .ref h0)]) hx hb dX2_dearest_51 hl (k := 0) rfl (nI_1 i) (by decide) rfl (fun ls hl => ?_)
            refine lv_goto (tgt := 9) hx hb dX2_dearest_54 (by decide) ?_
            exact ih (i + 1) b mo ls (by omega) (by omega) ((qm_hd_no (by rw [hq]; intro h; omega)).trans hq) (⟨by omega, hbm.2⟩) (lv_sub hl [0, 1, 2, 3] rfl)
          · have c_3 : ¬ ((sp i + 1) ≤ mo) := fun q9 => c_3 (((lg_cmp_le _ _).trans (lM_le (by omega) (by omega))).mpr q9)
            refine lv_iload hx hb dX2_dearest_40 (lv_at hl 0 rfl) ?_
            refine qk_topi (t := nM (i + 1)) (nM_s i).symm ?_
            refine lv_istore_n (lv' := [(1, .int (nM (i + 1))), (4, .int (nI i)), (2, .long (lM mo)), (0, .ref h0)]) hx hb dX2_dearest_42 rfl hl (by decide) rfl (fun ls hl => ?_)
            refine lv_aload_n hx hb dX2_dearest_43 rfl (lv_at hl 3 rfl) ?_
            refine va_get (D := G.1) (ci := 2) (v := .ref qs) (C := "GradeRows$Rules") (T := TX2) (N := 5) hx hb htb inX2 hown hK hP 0 rfl rfl 3 (by decide) (htb _ qw_40) (fun _ h9 => h9) rfl dX2_dearest_44 ?_
            refine lv_iload hx hb dX2_dearest_47 (lv_at hl 1 rfl) ?_
            refine qk_lald hx hb hK hP 2 1 rfl rfl (i := i) (by omega) (by omega) (v := lM (sp i + 1)) ((hs i (by omega)).trans (lM_s _).symm) dX2_dearest_49 ?_
            refine lv_lstore_n (lv' := [(2, .long (lM (sp i + 1))), (1, .int (nM (i + 1))), (4, .int (nI i)), (0, .ref h0)]) hx hb dX2_dearest_50 rfl hl (by decide) rfl (fun ls hl => ?_)
            refine lv_iinc (v := nI (i + 1)) (lv' := [(4, .int (nI (i + 1))), (2, .long (lM (sp i + 1))), (1, .int (nM (i + 1))), (0, .ref h0)]) hx hb dX2_dearest_51 hl (k := 2) rfl (nI_1 i) (by decide) rfl (fun ls hl => ?_)
            refine lv_goto (tgt := 9) hx hb dX2_dearest_54 (by decide) ?_
            exact ih (i + 1) (i + 1) (sp i + 1) ls (by omega) (by omega) ((qm_hd_yes (by rw [hq]; exact ⟨by omega, by omega⟩)).trans rfl) (⟨Nat.le_refl _, by have := hsb i (by omega); omega⟩) (lv_sub hl [0, 1, 2, 3] rfl)
  exact loop_9 (n - 0 + 1) 0 0 0 ls (by omega) (Nat.zero_le n) rfl (⟨Nat.le_refl 0, Nat.zero_le _⟩) (lv_sub hl [0, 1, 2, 3] rfl)
end
section
set_option maxHeartbeats 4000000 in
set_option maxRecDepth 100000 in
/-- Classes.classOf -/
theorem qc_C_of (l : Launch) (G : qG) (h0 : Nat) (ql : Nat) (qh : Nat) (n : Nat) (lo : Nat → Int64) (hi : Nat → Int64) (v : Int64) (hn : n ≤ 20) : Met l yX0_classOf wsX0_classOf ({ frames := 0, cells := 0, slots := 0, locals := 0 } : Room) (va_Pc [.ref h0, .long v] (qk_pre G vwCl [(h0, .inr (0, [.ref ql, .ref qh, .int (nI n)])), (ql, .inl (G.2.2.1, 20, .inr (.inl lo))), (qh, .inl (G.2.2.1, 20, .inr (.inl hi)))])) (vp_Si (fun r => r = qm_ans n (qm_cof lo hi v n 0))) 0 0 (fun _ => False) := by
  refine Met.ofW (cc := cX0_classOf) (maxL := 4) (ret := (some .int)) (by decide) rfl ?_
  intro p e s m args below meth c s₁ B hml hv
  obtain ⟨rfl, hP, hK, hN⟩ := hv
  have hx := B.exec
  have hb := B.bytes
  have hr := B.returns
  have hlocks := B.notSynchronized
  have hts := atoms_spec (ws := wsX0_classOf) B.pre
  have htb := fun (w : Cond) (h : w ∈ qTb) => hts w (List.mem_cons_of_mem _ h)
  have hown : s.vm.findClass "GradeRows$Classes" = some m.cls := findClass_of_methodNamed B.named
  have hP : va_P G.1 vwCl [(h0, .inr (0, [.ref ql, .ref qh, .int (nI n)])), (ql, .inl (G.2.2.1, 20, .inr (.inl lo))), (qh, .inl (G.2.2.1, 20, .inr (.inl hi)))] s.heap := hP
  have hl := lv_entry ([.ref h0, .long v]) (n := 4) (Nat.le_of_ble_eq_true rfl)
  rw [lg_entry_eq]
  generalize (lg_sl ([.ref h0, .long v]) ++ List.replicate (4 - (lg_sl ([.ref h0, .long v])).length) Slot.unset).toArray = ls at hl ⊢
  have hl : lv_has ls 4 [(0, .ref h0), (1, .long v)] := hl
  refine lv_iconst (v := nI 0) hx hb dX0_classOf_0 (by decide) ?_
  refine lv_istore_n (lv' := [(3, .int (nI 0)), (0, .ref h0), (1, .long v)]) hx hb dX0_classOf_1 rfl hl (by decide) rfl (fun ls hl => ?_)
  have loop_2 : ∀ (N : Nat) (i : Nat) (ls : Array Slot), n - i < N → (i ≤ n) → (qm_cof lo hi v n 0 = qm_cof lo hi v (n - i) i) → lv_has ls 4 [(3, .int (nI i)), (0, .ref h0), (1, .long v)] → W p l e (headSpec wsX0_classOf ({ frames := 0, cells := 0, slots := 0, locals := 0 } : Room)).room s m ([.ref h0, .long v] : List Value).toArray below meth c s.heap [] 0 0 (MQ below (vp_Si (fun r => r = qm_ans n (qm_cof lo hi v n 0))) ([.ref h0, .long v] : List Value).toArray s 0 0 (fun _ => False)) (F0 m 2 ls []) := by
    intro N
    induction N with
    | zero => intro i ls hm; exact absurd hm (Nat.not_lt_zero _)
    | succ N ih =>
      intro i ls hm hi1 hq hl
      refine lv_iload_n hx hb dX0_classOf_2 rfl (lv_at hl 0 rfl) ?_
      refine lv_aload_n hx hb dX0_classOf_3 rfl (lv_at hl 1 rfl) ?_
      refine va_get (D := G.1) (ci := 0) (v := .int (nI n)) (C := "GradeRows$Classes") (T := TX0) (N := 3) hx hb htb inX0 hown hK hP 0 rfl rfl 2 (by decide) (htb _ qw_111) (fun _ h9 => h9) rfl dX0_classOf_4 ?_
      refine lv_icmp_ge (tgt := 40) hx hb dX0_classOf_7 (by decide) (fun c_1 => ?_) (fun c_1 => ?_)
      · have c_1 : n ≤ i := (nI_leI (by omega) (by omega)).mp c_1
        refine lv_iconst (v := (-1)) hx hb dX0_classOf_40 (by decide) ?_
        exact W.iret (v := (-1)) hx hb hr (fun t9 ht9 hW9 => ⟨_, rfl, (qm_cof_end hq (by omega) hi1).symm, ht9⟩) (fun q h => absurd h List.not_mem_nil) dX0_classOf_41
      · have c_1 : ¬ (n ≤ i) := fun q9 => c_1 ((nI_leI (by omega) (by omega)).mpr q9)
        refine lv_aload_n hx hb dX0_classOf_10 rfl (lv_at hl 1 rfl) ?_
        refine va_get (D := G.1) (ci := 0) (v := .ref ql) (C := "GradeRows$Classes") (T := TX0) (N := 3) hx hb htb inX0 hown hK hP 0 rfl rfl 0 (by decide) (htb _ qw_109) (fun _ h9 => h9) rfl dX0_classOf_11 ?_
        refine lv_iload_n hx hb dX0_classOf_14 rfl (lv_at hl 0 rfl) ?_
        refine qk_lald hx hb hK hP 1 1 rfl rfl (i := i) (by omega) (by omega) (v := lo i) rfl dX0_classOf_15 ?_
        refine lv_lload_n hx hb dX0_classOf_16 rfl (lv_at hl 2 rfl) ?_
        refine W.lcmp hx hb dX0_classOf_17 ?_
        refine lv_if_gt (tgt := 34) hx hb dX0_classOf_18 (by decide) (fun c1 => ?_) (fun c1 => ?_)
        · have c1 : v < (lo i) := (lg_cmp_gt _ _).mp c1
          have c1n : ¬ lo i ≤ v := by rw [Int64.lt_iff_toInt_lt] at c1; rw [Int64.le_iff_toInt_le]; omega
          refine lv_iinc (v := nI (i + 1)) (lv' := [(3, .int (nI (i + 1))), (0, .ref h0), (1, .long v)]) hx hb dX0_classOf_34 hl (k := 0) rfl (nI_1 i) (by decide) rfl (fun ls hl => ?_)
          refine lv_goto (tgt := 2) hx hb dX0_classOf_37 (by decide) ?_
          exact ih (i + 1) ls (by omega) (by omega) (hq.trans (qm_cof_next (by omega) (by first | (intro h; exact c1n h.1) | (intro h; exact c2n h.2)))) (lv_sub hl [0, 1, 2] rfl)
        · have c1 : ¬ (v < (lo i)) := fun q9 => c1 ((lg_cmp_gt _ _).mpr q9)
          refine lv_lload_n hx hb dX0_classOf_21 rfl (lv_at hl 2 rfl) ?_
          refine lv_aload_n hx hb dX0_classOf_22 rfl (lv_at hl 1 rfl) ?_
          refine va_get (D := G.1) (ci := 0) (v := .ref qh) (C := "GradeRows$Classes") (T := TX0) (N := 3) hx hb htb inX0 hown hK hP 0 rfl rfl 1 (by decide) (htb _ qw_110) (fun _ h9 => h9) rfl dX0_classOf_23 ?_
          refine lv_iload_n hx hb dX0_classOf_26 rfl (lv_at hl 0 rfl) ?_
          refine qk_lald hx hb hK hP 2 1 rfl rfl (i := i) (by omega) (by omega) (v := hi i) rfl dX0_classOf_27 ?_
          refine W.lcmp hx hb dX0_classOf_28 ?_
          refine lv_if_gt (tgt := 34) hx hb dX0_classOf_29 (by decide) (fun c2 => ?_) (fun c2 => ?_)
          · have c2 : (hi i) < v := (lg_cmp_gt _ _).mp c2
            have c2n : ¬ v ≤ hi i := by rw [Int64.lt_iff_toInt_lt] at c2; rw [Int64.le_iff_toInt_le]; omega
            refine lv_iinc (v := nI (i + 1)) (lv' := [(3, .int (nI (i + 1))), (0, .ref h0), (1, .long v)]) hx hb dX0_classOf_34 hl (k := 0) rfl (nI_1 i) (by decide) rfl (fun ls hl => ?_)
            refine lv_goto (tgt := 2) hx hb dX0_classOf_37 (by decide) ?_
            exact ih (i + 1) ls (by omega) (by omega) (hq.trans (qm_cof_next (by omega) (by first | (intro h; exact c1n h.1) | (intro h; exact c2n h.2)))) (lv_sub hl [0, 1, 2] rfl)
          · have c2 : ¬ ((hi i) < v) := fun q9 => c2 ((lg_cmp_gt _ _).mpr q9)
            refine lv_iload_n hx hb dX0_classOf_32 rfl (lv_at hl 0 rfl) ?_
            exact W.iret (v := nI i) hx hb hr (fun t9 ht9 hW9 => ⟨_, rfl, (qm_cof_hit hq (by omega) (qm_lnlt c1) (qm_lnlt c2)).symm, ht9⟩) (fun q h => absurd h List.not_mem_nil) dX0_classOf_33
  exact loop_2 (n - 0 + 1) 0 ls (by omega) (Nat.zero_le n) rfl (lv_sub hl [0, 1, 2] rfl)

set_option maxHeartbeats 4000000 in
set_option maxRecDepth 100000 in
/-- Classes.countBelow -/
theorem qc_C_below (l : Launch) (G : qG) (h0 : Nat) (ql : Nat) (qh : Nat) (n : Nat) (lo : Nat → Int64) (hi : Nat → Int64) (v : Int64) (hn : n ≤ 20) : Met l yX0_countBelow wsX0_countBelow ({ frames := 0, cells := 0, slots := 0, locals := 0 } : Room) (va_Pc [.ref h0, .long v] (qk_pre G vwCl [(h0, .inr (0, [.ref ql, .ref qh, .int (nI n)])), (ql, .inl (G.2.2.1, 20, .inr (.inl lo))), (qh, .inl (G.2.2.1, 20, .inr (.inl hi)))])) (vp_Si (fun r => r = nI (qm_bel hi v n))) 0 0 (fun _ => False) := by
  refine Met.ofW (cc := cX0_countBelow) (maxL := 5) (ret := (some .int)) (by decide) rfl ?_
  intro p e s m args below meth c s₁ B hml hv
  obtain ⟨rfl, hP, hK, hN⟩ := hv
  have hx := B.exec
  have hb := B.bytes
  have hr := B.returns
  have hlocks := B.notSynchronized
  have hts := atoms_spec (ws := wsX0_countBelow) B.pre
  have htb := fun (w : Cond) (h : w ∈ qTb) => hts w (List.mem_cons_of_mem _ h)
  have hown : s.vm.findClass "GradeRows$Classes" = some m.cls := findClass_of_methodNamed B.named
  have hP : va_P G.1 vwCl [(h0, .inr (0, [.ref ql, .ref qh, .int (nI n)])), (ql, .inl (G.2.2.1, 20, .inr (.inl lo))), (qh, .inl (G.2.2.1, 20, .inr (.inl hi)))] s.heap := hP
  have hl := lv_entry ([.ref h0, .long v]) (n := 5) (Nat.le_of_ble_eq_true rfl)
  rw [lg_entry_eq]
  generalize (lg_sl ([.ref h0, .long v]) ++ List.replicate (5 - (lg_sl ([.ref h0, .long v])).length) Slot.unset).toArray = ls at hl ⊢
  have hl : lv_has ls 5 [(0, .ref h0), (1, .long v)] := hl
  refine lv_iconst (v := nI 0) hx hb dX0_countBelow_0 (by decide) ?_
  refine lv_istore_n (lv' := [(3, .int (nI 0)), (0, .ref h0), (1, .long v)]) hx hb dX0_countBelow_1 rfl hl (by decide) rfl (fun ls hl => ?_)
  refine lv_iconst (v := nI 0) hx hb dX0_countBelow_2 (by decide) ?_
  refine lv_istore (lv' := [(4, .int (nI 0)), (3, .int (nI 0)), (0, .ref h0), (1, .long v)]) hx hb dX0_countBelow_3 hl (by decide) rfl (fun ls hl => ?_)
  have loop_5 : ∀ (N : Nat) (i : Nat) (b : Nat) (ls : Array Slot), n - i < N → (i ≤ n) → (qm_bel hi v i = b) → (b ≤ i) → lv_has ls 5 [(4, .int (nI i)), (3, .int (nI b)), (0, .ref h0), (1, .long v)] → W p l e (headSpec wsX0_countBelow ({ frames := 0, cells := 0, slots := 0, locals := 0 } : Room)).room s m ([.ref h0, .long v] : List Value).toArray below meth c s.heap [] 0 0 (MQ below (vp_Si (fun r => r = nI (qm_bel hi v n))) ([.ref h0, .long v] : List Value).toArray s 0 0 (fun _ => False)) (F0 m 5 ls []) := by
    intro N
    induction N with
    | zero => intro i b ls hm; exact absurd hm (Nat.not_lt_zero _)
    | succ N ih =>
      intro i b ls hm hi1 hq hb1 hl
      refine lv_iload hx hb dX0_countBelow_5 (lv_at hl 0 rfl) ?_
      refine lv_aload_n hx hb dX0_countBelow_7 rfl (lv_at hl 2 rfl) ?_
      refine va_get (D := G.1) (ci := 0) (v := .int (nI n)) (C := "GradeRows$Classes") (T := TX0) (N := 3) hx hb htb inX0 hown hK hP 0 rfl rfl 2 (by decide) (htb _ qw_111) (fun _ h9 => h9) rfl dX0_countBelow_8 ?_
      refine lv_icmp_ge (tgt := 35) hx hb dX0_countBelow_11 (by decide) (fun c_1 => ?_) (fun c_1 => ?_)
      · have c_1 : n ≤ i := (nI_leI (by omega) (by omega)).mp c_1
        refine lv_iload_n hx hb dX0_countBelow_35 rfl (lv_at hl 1 rfl) ?_
        exact W.iret (v := nI b) hx hb hr (fun t9 ht9 hW9 => ⟨_, rfl, by rw [← show i = n by omega, hq], ht9⟩) (fun q h => absurd h List.not_mem_nil) dX0_countBelow_36
      · have c_1 : ¬ (n ≤ i) := fun q9 => c_1 ((nI_leI (by omega) (by omega)).mpr q9)
        refine lv_aload_n hx hb dX0_countBelow_14 rfl (lv_at hl 2 rfl) ?_
        refine va_get (D := G.1) (ci := 0) (v := .ref qh) (C := "GradeRows$Classes") (T := TX0) (N := 3) hx hb htb inX0 hown hK hP 0 rfl rfl 1 (by decide) (htb _ qw_110) (fun _ h9 => h9) rfl dX0_countBelow_15 ?_
        refine lv_iload hx hb dX0_countBelow_18 (lv_at hl 0 rfl) ?_
        refine qk_lald hx hb hK hP 2 1 rfl rfl (i := i) (by omega) (by omega) (v := hi i) rfl dX0_countBelow_20 ?_
        refine lv_lload_n hx hb dX0_countBelow_21 rfl (lv_at hl 3 rfl) ?_
        refine W.lcmp hx hb dX0_countBelow_22 ?_
        refine lv_if_ge (tgt := 29) hx hb dX0_countBelow_23 (by decide) (fun c1 => ?_) (fun c1 => ?_)
        · have c1 : v ≤ (hi i) := (lg_cmp_ge _ _).mp c1
          refine lv_iinc (v := nI (i + 1)) (lv' := [(4, .int (nI (i + 1))), (3, .int (nI b)), (0, .ref h0), (1, .long v)]) hx hb dX0_countBelow_29 hl (k := 0) rfl (nI_1 i) (by decide) rfl (fun ls hl => ?_)
          refine lv_goto (tgt := 5) hx hb dX0_countBelow_32 (by decide) ?_
          exact ih (i + 1) b ls (by omega) (by omega) (by show qm_bel hi v i + (if hi i < v then 1 else 0) = b; rw [if_neg (qm_lle_nlt c1), hq]; rfl) (by omega) (lv_sub hl [0, 1, 2, 3] rfl)
        · have c1 : ¬ (v ≤ (hi i)) := fun q9 => c1 ((lg_cmp_ge _ _).mpr q9)
          refine lv_iinc (v := nI (b + 1)) (lv' := [(3, .int (nI (b + 1))), (4, .int (nI i)), (0, .ref h0), (1, .long v)]) hx hb dX0_countBelow_26 hl (k := 1) rfl (nI_1 b) (by decide) rfl (fun ls hl => ?_)
          refine lv_iinc (v := nI (i + 1)) (lv' := [(4, .int (nI (i + 1))), (3, .int (nI (b + 1))), (0, .ref h0), (1, .long v)]) hx hb dX0_countBelow_29 hl (k := 1) rfl (nI_1 i) (by decide) rfl (fun ls hl => ?_)
          refine lv_goto (tgt := 5) hx hb dX0_countBelow_32 (by decide) ?_
          exact ih (i + 1) (b + 1) ls (by omega) (by omega) (by show qm_bel hi v i + (if hi i < v then 1 else 0) = b + 1; rw [if_pos (qm_lnle c1), hq]) (by omega) (lv_sub hl [0, 1, 2, 3] rfl)
  exact loop_5 (n - 0 + 1) 0 0 ls (by omega) (Nat.zero_le n) rfl (Nat.le_refl 0) (lv_sub hl [0, 1, 2, 3] rfl)

set_option maxHeartbeats 4000000 in
set_option maxRecDepth 100000 in
/-- Classes.firstFree -/
theorem qc_C_free (l : Launch) (G : qG) (h0 : Nat) (ql : Nat) (qh : Nat) (n : Nat) (lo : Nat → Int64) (hi : Nat → Int64) (v : Int64) (hn : n ≤ 20) : Met l yX0_firstFree wsX0_firstFree ({ frames := 1, cells := 0, slots := 0, locals := 23 } : Room) (va_Pc [.ref h0, .long v] (qk_pre G vwCl [(h0, .inr (0, [.ref ql, .ref qh, .int (nI n)])), (ql, .inl (G.2.2.1, 20, .inr (.inl lo))), (qh, .inl (G.2.2.1, 20, .inr (.inl hi)))])) (vp_Sl (fun r => r = qm_gap lo hi n n v)) 0 0 (fun _ => False) := by
  refine Met.ofW (cc := cX0_firstFree) (maxL := 7) (ret := (some .long)) (by decide) rfl ?_
  intro p e s m args below meth c s₁ B hml hv
  obtain ⟨rfl, hP, hK, hN⟩ := hv
  have hx := B.exec
  have hb := B.bytes
  have hr := B.returns
  have hlocks := B.notSynchronized
  have hts := atoms_spec (ws := wsX0_firstFree) B.pre
  have htb := fun (w : Cond) (h : w ∈ qTb) => hts w (List.mem_cons_of_mem _ h)
  have hown : s.vm.findClass "GradeRows$Classes" = some m.cls := findClass_of_methodNamed B.named
  have hP : va_P G.1 vwCl [(h0, .inr (0, [.ref ql, .ref qh, .int (nI n)])), (ql, .inl (G.2.2.1, 20, .inr (.inl lo))), (qh, .inl (G.2.2.1, 20, .inr (.inl hi)))] s.heap := hP
  have hl := lv_entry ([.ref h0, .long v]) (n := 7) (Nat.le_of_ble_eq_true rfl)
  rw [lg_entry_eq]
  generalize (lg_sl ([.ref h0, .long v]) ++ List.replicate (7 - (lg_sl ([.ref h0, .long v])).length) Slot.unset).toArray = ls at hl ⊢
  have hl : lv_has ls 7 [(0, .ref h0), (1, .long v)] := hl
  refine lv_lload_n hx hb dX0_firstFree_0 rfl (lv_at hl 1 rfl) ?_
  refine lv_lstore_n (lv' := [(3, .long v), (0, .ref h0), (1, .long v)]) hx hb dX0_firstFree_1 rfl hl (by decide) rfl (fun ls hl => ?_)
  refine lv_iconst (v := nI 0) hx hb dX0_firstFree_2 (by decide) ?_
  refine lv_istore (lv' := [(5, .int (nI 0)), (3, .long v), (0, .ref h0), (1, .long v)]) hx hb dX0_firstFree_3 hl (by decide) rfl (fun ls hl => ?_)
  have loop_5 : ∀ (N : Nat) (t : Nat) (f : Int64) (ls : Array Slot), n - t < N → (t ≤ n) → (qm_gap lo hi n n v = qm_gap lo hi n (n - t) f) → lv_has ls 7 [(5, .int (nI t)), (3, .long f), (0, .ref h0), (1, .long v)] → W p l e (headSpec wsX0_firstFree ({ frames := 1, cells := 0, slots := 0, locals := 23 } : Room)).room s m ([.ref h0, .long v] : List Value).toArray below meth c s.heap [] 0 0 (MQ below (vp_Sl (fun r => r = qm_gap lo hi n n v)) ([.ref h0, .long v] : List Value).toArray s 0 0 (fun _ => False)) (F0 m 5 ls []) := by
    intro N
    induction N with
    | zero => intro t f ls hm; exact absurd hm (Nat.not_lt_zero _)
    | succ N ih =>
      intro t f ls hm ht hq hl
      refine lv_iload hx hb dX0_firstFree_5 (lv_at hl 0 rfl) ?_
      refine lv_aload_n hx hb dX0_firstFree_7 rfl (lv_at hl 2 rfl) ?_
      refine va_get (D := G.1) (ci := 0) (v := .int (nI n)) (C := "GradeRows$Classes") (T := TX0) (N := 3) hx hb htb inX0 hown hK hP 0 rfl rfl 2 (by decide) (htb _ qw_111) (fun _ h9 => h9) rfl dX0_firstFree_8 ?_
      refine lv_icmp_ge (tgt := 44) hx hb dX0_firstFree_11 (by decide) (fun c_1 => ?_) (fun c_1 => ?_)
      · have c_1 : n ≤ t := (nI_leI (by omega) (by omega)).mp c_1
        refine lv_lload_n hx hb dX0_firstFree_44 rfl (lv_at hl 1 rfl) ?_
        exact W.lret (v := f) hx hb hr (fun t9 ht9 hW9 => ⟨_, rfl, (hq.trans (by rw [show n - t = 0 by omega]; rfl)).symm, ht9⟩) (fun q h => absurd h List.not_mem_nil) dX0_firstFree_45
      · have c_1 : ¬ (n ≤ t) := fun q9 => c_1 ((nI_leI (by omega) (by omega)).mpr q9)
        refine lv_aload_n hx hb dX0_firstFree_14 rfl (lv_at hl 2 rfl) ?_
        refine lv_lload_n hx hb dX0_firstFree_15 rfl (lv_at hl 1 rfl) ?_
        have hPc := hP.sub (ws' := [(h0, .inr (0, [.ref ql, .ref qh, .int (nI n)])), (ql, .inl (G.2.2.1, 20, .inr (.inl lo))), (qh, .inl (G.2.2.1, 20, .inr (.inl hi)))]) [0, 1, 2] rfl
        refine vp_callSi (va_runV (As := [.long f]) (rest := []) ⟨hx, hb, hml, hown, htb⟩ (qc_C_of l G h0 ql qh n lo hi f hn) (cwV 1 htb (qW_V qw_293 qw_274 qw_275 qw_17 qw_276) rfl rfl rfl (by decide +kernel) ⟨Nat.le_of_ble_eq_true rfl, Nat.le_of_ble_eq_true rfl⟩) (qk_pv (ci := 0) (q0 := 0) hK hPc hN rfl rfl) rfl rfl hl.1 rfl (lv_room (Nat.le_of_ble_eq_true rfl)) dX0_firstFree_16 ⟨Nat.le_of_ble_eq_true rfl, Nat.le_of_ble_eq_true rfl⟩).run (fun r_16 e_16 => ?_)
        subst e_16
        refine lv_istore (lv' := [(6, .int (qm_ans n (qm_cof lo hi f n 0))), (5, .int (nI t)), (3, .long f), (0, .ref h0), (1, .long v)]) hx hb dX0_firstFree_19 hl (by decide) rfl (fun ls hl => ?_)
        refine lv_iload hx hb dX0_firstFree_21 (lv_at hl 0 rfl) ?_
        refine lv_if_ge (tgt := 28) hx hb dX0_firstFree_23 (by decide) (fun cg => ?_) (fun cg => ?_)
        · have cq : qm_cof lo hi f n 0 < n := (qm_ans_ge (by omega)).mp cg
          refine lv_aload_n hx hb dX0_firstFree_28 rfl (lv_at hl 3 rfl) ?_
          refine va_get (D := G.1) (ci := 0) (v := .ref qh) (C := "GradeRows$Classes") (T := TX0) (N := 3) hx hb htb inX0 hown hK hP 0 rfl rfl 1 (by decide) (htb _ qw_110) (fun _ h9 => h9) rfl dX0_firstFree_29 ?_
          refine lv_iload hx hb dX0_firstFree_32 (lv_at hl 0 rfl) ?_
          refine qk_topi (t := nI (qm_cof lo hi f n 0)) (if_pos cq) ?_
          refine qk_lald hx hb hK hP 2 1 rfl rfl (i := (qm_cof lo hi f n 0)) (by omega) (by omega) (v := hi (qm_cof lo hi f n 0)) rfl dX0_firstFree_34 ?_
          refine lv_lconst (v := lN 1) hx hb dX0_firstFree_35 (by decide) ?_
          refine lv_ladd hx hb dX0_firstFree_36 ?_
          refine lv_lstore_n (lv' := [(3, .long ((hi (qm_cof lo hi f n 0)) + (lN 1))), (6, .int (qm_ans n (qm_cof lo hi f n 0))), (5, .int (nI t)), (0, .ref h0), (1, .long v)]) hx hb dX0_firstFree_37 rfl hl (by decide) rfl (fun ls hl => ?_)
          refine lv_iinc (v := nI (t + 1)) (lv' := [(5, .int (nI (t + 1))), (3, .long ((hi (qm_cof lo hi f n 0)) + (lN 1))), (6, .int (qm_ans n (qm_cof lo hi f n 0))), (0, .ref h0), (1, .long v)]) hx hb dX0_firstFree_38 hl (k := 2) rfl (nI_1 t) (by decide) rfl (fun ls hl => ?_)
          refine lv_goto (tgt := 5) hx hb dX0_firstFree_41 (by decide) ?_
          exact ih (t + 1) (hi (qm_cof lo hi f n 0) + lN 1) ls (by omega) (by omega) (hq.trans (qm_gap_next (by omega) cq)) (lv_sub hl [0, 1, 3, 4] rfl)
        · have cq : ¬ qm_cof lo hi f n 0 < n := fun q9 => cg ((qm_ans_ge (by omega)).mpr q9)
          refine lv_lload_n hx hb dX0_firstFree_26 rfl (lv_at hl 2 rfl) ?_
          exact W.lret (v := f) hx hb hr (fun t9 ht9 hW9 => ⟨_, rfl, (hq.trans (qm_gap_stop cq)).symm, ht9⟩) (fun q h => absurd h List.not_mem_nil) dX0_firstFree_27
  exact loop_5 (n - 0 + 1) 0 v ls (by omega) (Nat.zero_le n) rfl (lv_sub hl [0, 1, 2, 3] rfl)

set_option maxHeartbeats 4000000 in
set_option maxRecDepth 100000 in
/-- Classes.hasOneOf -/
theorem qc_C_ovl (l : Launch) (G : qG) (h0 : Nat) (ql : Nat) (qh : Nat) (n : Nat) (lo : Nat → Int64) (hi : Nat → Int64) (a : Int64) (b : Int64) (hn : n ≤ 20) : Met l yX0_hasOneOf wsX0_hasOneOf ({ frames := 0, cells := 0, slots := 0, locals := 0 } : Room) (va_Pc [.ref h0, .long a, .long b] (qk_pre G vwCl [(h0, .inr (0, [.ref ql, .ref qh, .int (nI n)])), (ql, .inl (G.2.2.1, 20, .inr (.inl lo))), (qh, .inl (G.2.2.1, 20, .inr (.inl hi)))])) (vp_Si (fun r => r = if qm_ovl lo hi a b n 0 = true then nI 1 else nI 0)) 0 0 (fun _ => False) := by
  refine Met.ofW (cc := cX0_hasOneOf) (maxL := 6) (ret := (some .boolean)) (by decide) rfl ?_
  intro p e s m args below meth c s₁ B hml hv
  obtain ⟨rfl, hP, hK, hN⟩ := hv
  have hx := B.exec
  have hb := B.bytes
  have hr := B.returns
  have hlocks := B.notSynchronized
  have hts := atoms_spec (ws := wsX0_hasOneOf) B.pre
  have htb := fun (w : Cond) (h : w ∈ qTb) => hts w (List.mem_cons_of_mem _ h)
  have hown : s.vm.findClass "GradeRows$Classes" = some m.cls := findClass_of_methodNamed B.named
  have hP : va_P G.1 vwCl [(h0, .inr (0, [.ref ql, .ref qh, .int (nI n)])), (ql, .inl (G.2.2.1, 20, .inr (.inl lo))), (qh, .inl (G.2.2.1, 20, .inr (.inl hi)))] s.heap := hP
  have hl := lv_entry ([.ref h0, .long a, .long b]) (n := 6) (Nat.le_of_ble_eq_true rfl)
  rw [lg_entry_eq]
  generalize (lg_sl ([.ref h0, .long a, .long b]) ++ List.replicate (6 - (lg_sl ([.ref h0, .long a, .long b])).length) Slot.unset).toArray = ls at hl ⊢
  have hl : lv_has ls 6 [(0, .ref h0), (1, .long a), (3, .long b)] := hl
  refine lv_iconst (v := nI 0) hx hb dX0_hasOneOf_0 (by decide) ?_
  refine lv_istore (lv' := [(5, .int (nI 0)), (0, .ref h0), (1, .long a), (3, .long b)]) hx hb dX0_hasOneOf_1 hl (by decide) rfl (fun ls hl => ?_)
  have loop_3 : ∀ (N : Nat) (i : Nat) (ls : Array Slot), n - i < N → (i ≤ n) → (qm_ovl lo hi a b n 0 = qm_ovl lo hi a b (n - i) i) → lv_has ls 6 [(5, .int (nI i)), (0, .ref h0), (1, .long a), (3, .long b)] → W p l e (headSpec wsX0_hasOneOf ({ frames := 0, cells := 0, slots := 0, locals := 0 } : Room)).room s m ([.ref h0, .long a, .long b] : List Value).toArray below meth c s.heap [] 0 0 (MQ below (vp_Si (fun r => r = if qm_ovl lo hi a b n 0 = true then nI 1 else nI 0)) ([.ref h0, .long a, .long b] : List Value).toArray s 0 0 (fun _ => False)) (F0 m 3 ls []) := by
    intro N
    induction N with
    | zero => intro i ls hm; exact absurd hm (Nat.not_lt_zero _)
    | succ N ih =>
      intro i ls hm hi1 hq hl
      refine lv_iload hx hb dX0_hasOneOf_3 (lv_at hl 0 rfl) ?_
      refine lv_aload_n hx hb dX0_hasOneOf_5 rfl (lv_at hl 1 rfl) ?_
      refine va_get (D := G.1) (ci := 0) (v := .int (nI n)) (C := "GradeRows$Classes") (T := TX0) (N := 3) hx hb htb inX0 hown hK hP 0 rfl rfl 2 (by decide) (htb _ qw_111) (fun _ h9 => h9) rfl dX0_hasOneOf_6 ?_
      refine lv_icmp_ge (tgt := 44) hx hb dX0_hasOneOf_9 (by decide) (fun c_1 => ?_) (fun c_1 => ?_)
      · have c_1 : n ≤ i := (nI_leI (by omega) (by omega)).mp c_1
        refine lv_iconst (v := nI 0) hx hb dX0_hasOneOf_44 (by decide) ?_
        exact W.zret (v := nI 0) (ty := .boolean) hx hb hr (by decide) (fun t9 ht9 hW9 => ⟨_, rfl, (if_neg (qm_ovl_end hq (by omega))).symm, ht9⟩) (fun q h => absurd h List.not_mem_nil) dX0_hasOneOf_45
      · have c_1 : ¬ (n ≤ i) := fun q9 => c_1 ((nI_leI (by omega) (by omega)).mpr q9)
        refine lv_aload_n hx hb dX0_hasOneOf_12 rfl (lv_at hl 1 rfl) ?_
        refine va_get (D := G.1) (ci := 0) (v := .ref ql) (C := "GradeRows$Classes") (T := TX0) (N := 3) hx hb htb inX0 hown hK hP 0 rfl rfl 0 (by decide) (htb _ qw_109) (fun _ h9 => h9) rfl dX0_hasOneOf_13 ?_
        refine lv_iload hx hb dX0_hasOneOf_16 (lv_at hl 0 rfl) ?_
        refine qk_lald hx hb hK hP 1 1 rfl rfl (i := i) (by omega) (by omega) (v := lo i) rfl dX0_hasOneOf_18 ?_
        refine lv_lload_n hx hb dX0_hasOneOf_19 rfl (lv_at hl 3 rfl) ?_
        refine W.lcmp hx hb dX0_hasOneOf_20 ?_
        refine lv_if_gt (tgt := 38) hx hb dX0_hasOneOf_21 (by decide) (fun c1 => ?_) (fun c1 => ?_)
        · have c1 : b < (lo i) := (lg_cmp_gt _ _).mp c1
          have c1n : ¬ lo i ≤ b := by rw [Int64.lt_iff_toInt_lt] at c1; rw [Int64.le_iff_toInt_le]; omega
          refine lv_iinc (v := nI (i + 1)) (lv' := [(5, .int (nI (i + 1))), (0, .ref h0), (1, .long a), (3, .long b)]) hx hb dX0_hasOneOf_38 hl (k := 0) rfl (nI_1 i) (by decide) rfl (fun ls hl => ?_)
          refine lv_goto (tgt := 3) hx hb dX0_hasOneOf_41 (by decide) ?_
          exact ih (i + 1) ls (by omega) (by omega) (hq.trans (qm_ovl_next (by omega) (by first | (intro h; exact c1n h.1) | (intro h; exact c2n h.2)))) (lv_sub hl [0, 1, 2, 3] rfl)
        · have c1 : ¬ (b < (lo i)) := fun q9 => c1 ((lg_cmp_gt _ _).mpr q9)
          refine lv_lload_n hx hb dX0_hasOneOf_24 rfl (lv_at hl 2 rfl) ?_
          refine lv_aload_n hx hb dX0_hasOneOf_25 rfl (lv_at hl 1 rfl) ?_
          refine va_get (D := G.1) (ci := 0) (v := .ref qh) (C := "GradeRows$Classes") (T := TX0) (N := 3) hx hb htb inX0 hown hK hP 0 rfl rfl 1 (by decide) (htb _ qw_110) (fun _ h9 => h9) rfl dX0_hasOneOf_26 ?_
          refine lv_iload hx hb dX0_hasOneOf_29 (lv_at hl 0 rfl) ?_
          refine qk_lald hx hb hK hP 2 1 rfl rfl (i := i) (by omega) (by omega) (v := hi i) rfl dX0_hasOneOf_31 ?_
          refine W.lcmp hx hb dX0_hasOneOf_32 ?_
          refine lv_if_gt (tgt := 38) hx hb dX0_hasOneOf_33 (by decide) (fun c2 => ?_) (fun c2 => ?_)
          · have c2 : (hi i) < a := (lg_cmp_gt _ _).mp c2
            have c2n : ¬ a ≤ hi i := by rw [Int64.lt_iff_toInt_lt] at c2; rw [Int64.le_iff_toInt_le]; omega
            refine lv_iinc (v := nI (i + 1)) (lv' := [(5, .int (nI (i + 1))), (0, .ref h0), (1, .long a), (3, .long b)]) hx hb dX0_hasOneOf_38 hl (k := 0) rfl (nI_1 i) (by decide) rfl (fun ls hl => ?_)
            refine lv_goto (tgt := 3) hx hb dX0_hasOneOf_41 (by decide) ?_
            exact ih (i + 1) ls (by omega) (by omega) (hq.trans (qm_ovl_next (by omega) (by first | (intro h; exact c1n h.1) | (intro h; exact c2n h.2)))) (lv_sub hl [0, 1, 2, 3] rfl)
          · have c2 : ¬ ((hi i) < a) := fun q9 => c2 ((lg_cmp_gt _ _).mpr q9)
            refine lv_iconst (v := nI 1) hx hb dX0_hasOneOf_36 (by decide) ?_
            exact W.zret (v := nI 1) (ty := .boolean) hx hb hr (by decide) (fun t9 ht9 hW9 => ⟨_, rfl, (if_pos (qm_ovl_hit hq (by omega) (qm_lnlt c1) (qm_lnlt c2))).symm, ht9⟩) (fun q h => absurd h List.not_mem_nil) dX0_hasOneOf_37
  exact loop_3 (n - 0 + 1) 0 ls (by omega) (Nat.zero_le n) rfl (lv_sub hl [0, 1, 2, 3] rfl)

set_option maxHeartbeats 4000000 in
set_option maxRecDepth 100000 in
/-- Classes.add, refused -/
theorem qc_C_add0 (l : Launch) (G : qG) (h0 : Nat) (ql : Nat) (qh : Nat) (n : Nat) (lo : Nat → Int64) (hi : Nat → Int64) (a : Int64) (b : Int64) (hn : n ≤ 20) (hno : n = 20 ∨ qm_ovl lo hi a b n 0 = true) : Met l yX0_add wsX0_add ({ frames := 1, cells := 0, slots := 0, locals := 25 } : Room) (va_Pc [.ref h0, .long a, .long b] (qk_pre G vwCl [(h0, .inr (0, [.ref ql, .ref qh, .int (nI n)])), (ql, .inl (G.2.2.1, 20, .inr (.inl lo))), (qh, .inl (G.2.2.1, 20, .inr (.inl hi)))])) (vp_Si (fun r => r = (-1))) 0 0 (fun _ => False) := by
  refine Met.ofW (cc := cX0_add) (maxL := 5) (ret := (some .int)) (by decide) rfl ?_
  intro p e s m args below meth c s₁ B hml hv
  obtain ⟨rfl, hP, hK, hN⟩ := hv
  have hx := B.exec
  have hb := B.bytes
  have hr := B.returns
  have hlocks := B.notSynchronized
  have hts := atoms_spec (ws := wsX0_add) B.pre
  have htb := fun (w : Cond) (h : w ∈ qTb) => hts w (List.mem_cons_of_mem _ h)
  have hown : s.vm.findClass "GradeRows$Classes" = some m.cls := findClass_of_methodNamed B.named
  have hP : va_P G.1 vwCl [(h0, .inr (0, [.ref ql, .ref qh, .int (nI n)])), (ql, .inl (G.2.2.1, 20, .inr (.inl lo))), (qh, .inl (G.2.2.1, 20, .inr (.inl hi)))] s.heap := hP
  have hl := lv_entry ([.ref h0, .long a, .long b]) (n := 5) (Nat.le_of_ble_eq_true rfl)
  rw [lg_entry_eq]
  generalize (lg_sl ([.ref h0, .long a, .long b]) ++ List.replicate (5 - (lg_sl ([.ref h0, .long a, .long b])).length) Slot.unset).toArray = ls at hl ⊢
  have hl : lv_has ls 5 [(0, .ref h0), (1, .long a), (3, .long b)] := hl
  refine lv_aload_n hx hb dX0_add_0 rfl (lv_at hl 0 rfl) ?_
  refine va_get (D := G.1) (ci := 0) (v := .int (nI n)) (C := "GradeRows$Classes") (T := TX0) (N := 3) hx hb htb inX0 hown hK hP 0 rfl rfl 2 (by decide) (htb _ qw_111) (fun _ h9 => h9) rfl dX0_add_1 ?_
  refine lv_bipush (v := nI 20) hx hb dX0_add_4 (by decide) ?_
  refine lv_icmp_ge (tgt := 18) hx hb dX0_add_6 (by decide) (fun c_1 => ?_) (fun c_1 => ?_)
  · have c_1 : 20 ≤ n := (nI_leI (by omega) (by omega)).mp c_1
    refine lv_iconst (v := (-1)) hx hb dX0_add_18 (by decide) ?_
    exact W.iret (v := (-1)) hx hb hr (fun t9 ht9 hW9 => ⟨_, rfl, rfl, ht9⟩) (fun q h => absurd h List.not_mem_nil) dX0_add_19
  · have c_1 : ¬ (20 ≤ n) := fun q9 => c_1 ((nI_leI (by omega) (by omega)).mpr q9)
    refine lv_aload_n hx hb dX0_add_9 rfl (lv_at hl 0 rfl) ?_
    refine lv_lload_n hx hb dX0_add_10 rfl (lv_at hl 1 rfl) ?_
    refine lv_lload_n hx hb dX0_add_11 rfl (lv_at hl 2 rfl) ?_
    have hPc := hP.sub (ws' := [(h0, .inr (0, [.ref ql, .ref qh, .int (nI n)])), (ql, .inl (G.2.2.1, 20, .inr (.inl lo))), (qh, .inl (G.2.2.1, 20, .inr (.inl hi)))]) [0, 1, 2] rfl
    refine vp_callSi (va_runV (As := [.long a, .long b]) (rest := []) ⟨hx, hb, hml, hown, htb⟩ (qc_C_ovl l G h0 ql qh n lo hi a b (by omega)) (cwV 2 htb (qW_V qw_264 qw_266 qw_1 qw_17 qw_267) rfl rfl rfl (by decide +kernel) ⟨Nat.le_of_ble_eq_true rfl, Nat.le_of_ble_eq_true rfl⟩) (qk_pv (ci := 0) (q0 := 0) hK hPc hN rfl rfl) rfl rfl hl.1 rfl (lv_room (Nat.le_of_ble_eq_true rfl)) dX0_add_12 ⟨Nat.le_of_ble_eq_true rfl, Nat.le_of_ble_eq_true rfl⟩).run (fun r_12 e_12 => ?_)
    subst e_12
    refine lv_if_eq (tgt := 20) hx hb dX0_add_15 (by decide) (fun co => ?_) (fun co => ?_)
    · have co : ¬ (qm_ovl lo hi a b n 0 = true) := fun q9 => qk_ite0.mpr q9 co
      rcases hno with h | h
      · omega
      · exact absurd h co
    · have co : qm_ovl lo hi a b n 0 = true := qk_ite0.mp co
      refine lv_iconst (v := (-1)) hx hb dX0_add_18 (by decide) ?_
      exact W.iret (v := (-1)) hx hb hr (fun t9 ht9 hW9 => ⟨_, rfl, rfl, ht9⟩) (fun q h => absurd h List.not_mem_nil) dX0_add_19

set_option maxHeartbeats 4000000 in
set_option maxRecDepth 100000 in
/-- Classes.add -/
theorem qc_C_add1 (l : Launch) (G : qG) (h0 : Nat) (ql : Nat) (qh : Nat) (n : Nat) (lo : Nat → Int64) (hi : Nat → Int64) (a : Int64) (b : Int64) (sz : Nat) (hn : n < 20) (hno : ¬ qm_ovl lo hi a b n 0 = true) : Met l yX0_add wsX0_add ({ frames := 1, cells := 0, slots := 0, locals := 25 } : Room) (va_Pc [.ref h0, .long a, .long b] (qk_prw G vwCl [(h0, .inr (0, [.ref ql, .ref qh, .int (nI n)])), (ql, .inl (G.2.2.1, 20, .inr (.inl lo))), (qh, .inl (G.2.2.1, 20, .inr (.inl hi)))] sz)) (va_Qi (fun (r : Int32) (_ : Unit) => r = nI n) (qk_B G vwCl (va_A [(h0, .inr (0, [.ref ql, .ref qh, .int (nI n)])), (ql, .inl (G.2.2.1, 20, .inr (.inl lo))), (qh, .inl (G.2.2.1, 20, .inr (.inl hi)))] sz) (fun (_ : Unit) => [(h0, .inr (0, [.ref ql, .ref qh, .int (nI (n + 1))])), (ql, .inl (G.2.2.1, 20, .inr (.inl (vp_updL lo n a)))), (qh, .inl (G.2.2.1, 20, .inr (.inl (vp_updL hi n b))))])) (va_A [(h0, .inr (0, [.ref ql, .ref qh, .int (nI n)])), (ql, .inl (G.2.2.1, 20, .inr (.inl lo))), (qh, .inl (G.2.2.1, 20, .inr (.inl hi)))] sz)) 0 0 (va_A [(h0, .inr (0, [.ref ql, .ref qh, .int (nI n)])), (ql, .inl (G.2.2.1, 20, .inr (.inl lo))), (qh, .inl (G.2.2.1, 20, .inr (.inl hi)))] sz) := by
  refine Met.ofW (cc := cX0_add) (maxL := 5) (ret := (some .int)) (by decide) rfl ?_
  intro p e s m args below meth c s₁ B hml hv
  obtain ⟨rfl, hsz, hP, hK, hD0, hN⟩ := hv
  have hx := B.exec
  have hb := B.bytes
  have hr := B.returns
  have hlocks := B.notSynchronized
  have hts := atoms_spec (ws := wsX0_add) B.pre
  have htb := fun (w : Cond) (h : w ∈ qTb) => hts w (List.mem_cons_of_mem _ h)
  have hown : s.vm.findClass "GradeRows$Classes" = some m.cls := findClass_of_methodNamed B.named
  subst hsz
  have hD := hD0.self (sz := s.heap.size)
  generalize hAe : va_A [(h0, .inr (0, [.ref ql, .ref qh, .int (nI n)])), (ql, .inl (G.2.2.1, 20, .inr (.inl lo))), (qh, .inl (G.2.2.1, 20, .inr (.inl hi)))] s.heap.size = A at hD ⊢
  have hA : ∀ q : Nat, s.heap.size ≤ q → A q := fun q h => by rw [← hAe]; exact Or.inr h
  have hS : va_S A s.heap s.heap [] := va_S.rf
  have hP : va_P G.1 vwCl [(h0, .inr (0, [.ref ql, .ref qh, .int (nI n)])), (ql, .inl (G.2.2.1, 20, .inr (.inl lo))), (qh, .inl (G.2.2.1, 20, .inr (.inl hi)))] s.heap := hP
  have hl := lv_entry ([.ref h0, .long a, .long b]) (n := 5) (Nat.le_of_ble_eq_true rfl)
  rw [lg_entry_eq]
  generalize (lg_sl ([.ref h0, .long a, .long b]) ++ List.replicate (5 - (lg_sl ([.ref h0, .long a, .long b])).length) Slot.unset).toArray = ls at hl ⊢
  have hl : lv_has ls 5 [(0, .ref h0), (1, .long a), (3, .long b)] := hl
  refine lv_aload_n hx hb dX0_add_0 rfl (lv_at hl 0 rfl) ?_
  refine va_get (D := G.1) (ci := 0) (v := .int (nI n)) (C := "GradeRows$Classes") (T := TX0) (N := 3) hx hb htb inX0 hown hK hP 0 rfl rfl 2 (by decide) (htb _ qw_111) (fun _ h9 => h9) rfl dX0_add_1 ?_
  refine lv_bipush (v := nI 20) hx hb dX0_add_4 (by decide) ?_
  refine lv_icmp_ge (tgt := 18) hx hb dX0_add_6 (by decide) (fun c_1 => ?_) (fun c_1 => ?_)
  · have c_1 : 20 ≤ n := (nI_leI (by omega) (by omega)).mp c_1
    exfalso; omega
  · have c_1 : ¬ (20 ≤ n) := fun q9 => c_1 ((nI_leI (by omega) (by omega)).mpr q9)
    refine lv_aload_n hx hb dX0_add_9 rfl (lv_at hl 0 rfl) ?_
    refine lv_lload_n hx hb dX0_add_10 rfl (lv_at hl 1 rfl) ?_
    refine lv_lload_n hx hb dX0_add_11 rfl (lv_at hl 2 rfl) ?_
    have hPc := hP.sub (ws' := [(h0, .inr (0, [.ref ql, .ref qh, .int (nI n)])), (ql, .inl (G.2.2.1, 20, .inr (.inl lo))), (qh, .inl (G.2.2.1, 20, .inr (.inl hi)))]) [0, 1, 2] rfl
    refine vp_callSi (va_runV (As := [.long a, .long b]) (rest := []) ⟨hx, hb, hml, hown, htb⟩ (qc_C_ovl l G h0 ql qh n lo hi a b (by omega)) (cwV 2 htb (qW_V qw_264 qw_266 qw_1 qw_17 qw_267) rfl rfl rfl (by decide +kernel) ⟨Nat.le_of_ble_eq_true rfl, Nat.le_of_ble_eq_true rfl⟩) (qk_pv (ci := 0) (q0 := 0) hK hPc hN rfl rfl) rfl rfl hl.1 rfl (lv_room (Nat.le_of_ble_eq_true rfl)) dX0_add_12 ⟨Nat.le_of_ble_eq_true rfl, Nat.le_of_ble_eq_true rfl⟩).run (fun r_12 e_12 => ?_)
    subst e_12
    refine lv_if_eq (tgt := 20) hx hb dX0_add_15 (by decide) (fun co => ?_) (fun co => ?_)
    · have co : ¬ (qm_ovl lo hi a b n 0 = true) := fun q9 => qk_ite0.mpr q9 co
      refine lv_aload_n hx hb dX0_add_20 rfl (lv_at hl 0 rfl) ?_
      refine va_get (D := G.1) (ci := 0) (v := .ref ql) (C := "GradeRows$Classes") (T := TX0) (N := 3) hx hb htb inX0 hown hK hP 0 rfl rfl 0 (by decide) (htb _ qw_109) (fun _ h9 => h9) rfl dX0_add_21 ?_
      refine lv_aload_n hx hb dX0_add_24 rfl (lv_at hl 0 rfl) ?_
      refine va_get (D := G.1) (ci := 0) (v := .int (nI n)) (C := "GradeRows$Classes") (T := TX0) (N := 3) hx hb htb inX0 hown hK hP 0 rfl rfl 2 (by decide) (htb _ qw_111) (fun _ h9 => h9) rfl dX0_add_25 ?_
      refine lv_lload_n hx hb dX0_add_28 rfl (lv_at hl 1 rfl) ?_
      refine qk_last hx hb hK hP hD hS 1 1 rfl rfl (i := n) (by omega) (by omega) dX0_add_29 (fun H locs hP hD hS => ?_)
      have hP : va_P G.1 vwCl [(h0, .inr (0, [.ref ql, .ref qh, .int (nI n)])), (ql, .inl (G.2.2.1, 20, .inr (.inl (vp_updL lo n a)))), (qh, .inl (G.2.2.1, 20, .inr (.inl hi)))] H := hP
      have hD : va_D A [(h0, .inr (0, [.ref ql, .ref qh, .int (nI n)])), (ql, .inl (G.2.2.1, 20, .inr (.inl (vp_updL lo n a)))), (qh, .inl (G.2.2.1, 20, .inr (.inl hi)))] := hD
      refine lv_aload_n hx hb dX0_add_30 rfl (lv_at hl 0 rfl) ?_
      refine va_get (D := G.1) (ci := 0) (v := .ref qh) (C := "GradeRows$Classes") (T := TX0) (N := 3) hx hb htb inX0 hown hK hP 0 rfl rfl 1 (by decide) (htb _ qw_110) (fun _ h9 => h9) rfl dX0_add_31 ?_
      refine lv_aload_n hx hb dX0_add_34 rfl (lv_at hl 0 rfl) ?_
      refine va_get (D := G.1) (ci := 0) (v := .int (nI n)) (C := "GradeRows$Classes") (T := TX0) (N := 3) hx hb htb inX0 hown hK hP 0 rfl rfl 2 (by decide) (htb _ qw_111) (fun _ h9 => h9) rfl dX0_add_35 ?_
      refine lv_lload_n hx hb dX0_add_38 rfl (lv_at hl 2 rfl) ?_
      refine qk_last hx hb hK hP hD hS 2 1 rfl rfl (i := n) (by omega) (by omega) dX0_add_39 (fun H locs hP hD hS => ?_)
      have hP : va_P G.1 vwCl [(h0, .inr (0, [.ref ql, .ref qh, .int (nI n)])), (ql, .inl (G.2.2.1, 20, .inr (.inl (vp_updL lo n a)))), (qh, .inl (G.2.2.1, 20, .inr (.inl (vp_updL hi n b))))] H := hP
      have hD : va_D A [(h0, .inr (0, [.ref ql, .ref qh, .int (nI n)])), (ql, .inl (G.2.2.1, 20, .inr (.inl (vp_updL lo n a)))), (qh, .inl (G.2.2.1, 20, .inr (.inl (vp_updL hi n b))))] := hD
      refine lv_aload_n hx hb dX0_add_40 rfl (lv_at hl 0 rfl) ?_
      refine lv_dup hx hb dX0_add_41 rfl ?_
      refine va_get (D := G.1) (ci := 0) (v := .int (nI n)) (C := "GradeRows$Classes") (T := TX0) (N := 3) hx hb htb inX0 hown hK hP 0 rfl rfl 2 (by decide) (htb _ qw_111) (fun _ h9 => h9) rfl dX0_add_42 ?_
      refine lv_iconst (v := nI 1) hx hb dX0_add_45 (by decide) ?_
      refine lv_iadd hx hb dX0_add_46 ?_
      refine qk_topi (t := nI (n + 1)) (nI_add _ _) ?_
      refine va_put (D := G.1) (ci := 0) (v := .int (nI (n + 1))) (ty := .int) (C := "GradeRows$Classes") (T := TX0) (N := 3) hx hb htb inX0 tyX0 tyX0_ok nmX0 hown hK hP hD hS 0 rfl rfl 2 (by decide) (htb _ qw_111) (fun _ h9 => h9) rfl (by decide +kernel) rfl rfl (Nat.le_of_ble_eq_true rfl) dX0_add_47 (fun H locs hP hD hS => ?_)
      have hP : va_P G.1 vwCl [(h0, .inr (0, [.ref ql, .ref qh, .int (nI (n + 1))])), (ql, .inl (G.2.2.1, 20, .inr (.inl (vp_updL lo n a)))), (qh, .inl (G.2.2.1, 20, .inr (.inl (vp_updL hi n b))))] H := hP
      have hD : va_D A [(h0, .inr (0, [.ref ql, .ref qh, .int (nI (n + 1))])), (ql, .inl (G.2.2.1, 20, .inr (.inl (vp_updL lo n a)))), (qh, .inl (G.2.2.1, 20, .inr (.inl (vp_updL hi n b))))] := hD
      refine lv_aload_n hx hb dX0_add_50 rfl (lv_at hl 0 rfl) ?_
      refine va_get (D := G.1) (ci := 0) (v := .int (nI (n + 1))) (C := "GradeRows$Classes") (T := TX0) (N := 3) hx hb htb inX0 hown hK hP 0 rfl rfl 2 (by decide) (htb _ qw_111) (fun _ h9 => h9) rfl dX0_add_51 ?_
      refine lv_iconst (v := nI 1) hx hb dX0_add_54 (by decide) ?_
      refine lv_isub hx hb dX0_add_55 ?_
      refine qk_topi (t := nI n) (nI_pred n) ?_
      have hP9 := hP.sub (ws' := [(h0, .inr (0, [.ref ql, .ref qh, .int (nI (n + 1))])), (ql, .inl (G.2.2.1, 20, .inr (.inl (vp_updL lo n a)))), (qh, .inl (G.2.2.1, 20, .inr (.inl (vp_updL hi n b))))]) [0, 1, 2] rfl
      have hD9 := hD.sub (ws' := [(h0, .inr (0, [.ref ql, .ref qh, .int (nI (n + 1))])), (ql, .inl (G.2.2.1, 20, .inr (.inl (vp_updL lo n a)))), (qh, .inl (G.2.2.1, 20, .inr (.inl (vp_updL hi n b))))]) [0, 1, 2] (by decide) rfl
      exact W.iret (v := nI n) hx hb hr (fun t9 ht9 hW9 => ⟨⟨_, (), rfl, rfl, by rw [ht9]; exact hP9, va_K.moved hW9.alike hK, hD9⟩, hS.F ht9⟩) hS.2.2 dX0_add_56
    · have co : qm_ovl lo hi a b n 0 = true := qk_ite0.mp co
      exact absurd co hno
end
section
set_option maxHeartbeats 4000000 in
set_option maxRecDepth 100000 in
/-- Steps.count -/
theorem qc_T_count (l : Launch) (G : qG) (h0 : Nat) (qr : Nat) (qp : Nat) (qd : Nat) (qc : Nat) (qf : Nat) (qt : Nat) (sp : Nat) (sc : Nat) (n : Nat)  : Met l yX4_count wsX4_count ({ frames := 0, cells := 0, slots := 0, locals := 0 } : Room) (va_Pc [.ref h0] (qk_pre G vwCl [(h0, .inr (4, [.ref qr, .ref qp, .ref qd, .ref qc, .ref qf, .ref qt, .ref sp, .ref sc, .int (nI n)]))])) (vp_Si (fun r => r = nI n)) 0 0 (fun _ => False) := by
  refine Met.ofW (cc := cX4_count) (maxL := 1) (ret := (some .int)) (by decide) rfl ?_
  intro p e s m args below meth c s₁ B hml hv
  obtain ⟨rfl, hP, hK, hN⟩ := hv
  have hx := B.exec
  have hb := B.bytes
  have hr := B.returns
  have hlocks := B.notSynchronized
  have hts := atoms_spec (ws := wsX4_count) B.pre
  have htb := fun (w : Cond) (h : w ∈ qTb) => hts w (List.mem_cons_of_mem _ h)
  have hown : s.vm.findClass "GradeRows$Steps" = some m.cls := findClass_of_methodNamed B.named
  have hP : va_P G.1 vwCl [(h0, .inr (4, [.ref qr, .ref qp, .ref qd, .ref qc, .ref qf, .ref qt, .ref sp, .ref sc, .int (nI n)]))] s.heap := hP
  have hl := lv_entry ([.ref h0]) (n := 1) (Nat.le_of_ble_eq_true rfl)
  rw [lg_entry_eq]
  generalize (lg_sl ([.ref h0]) ++ List.replicate (1 - (lg_sl ([.ref h0])).length) Slot.unset).toArray = ls at hl ⊢
  have hl : lv_has ls 1 [(0, .ref h0)] := hl
  refine lv_aload_n hx hb dX4_count_0 rfl (lv_at hl 0 rfl) ?_
  refine va_get (D := G.1) (ci := 4) (v := .int (nI n)) (C := "GradeRows$Steps") (T := TX4) (N := 9) hx hb htb inX4 hown hK hP 0 rfl rfl 8 (by decide) (htb _ qw_83) (fun _ h9 => h9) rfl dX4_count_1 ?_
  exact W.iret (v := nI n) hx hb hr (fun t9 ht9 hW9 => ⟨_, rfl, rfl, ht9⟩) (fun q h => absurd h List.not_mem_nil) dX4_count_4

set_option maxHeartbeats 4000000 in
set_option maxRecDepth 100000 in
/-- Steps.isFull -/
theorem qc_T_full (l : Launch) (G : qG) (h0 : Nat) (qr : Nat) (qp : Nat) (qd : Nat) (qc : Nat) (qf : Nat) (qt : Nat) (sp : Nat) (sc : Nat) (n : Nat) (hn : n ≤ 200) : Met l yX4_isFull wsX4_isFull ({ frames := 0, cells := 0, slots := 0, locals := 0 } : Room) (va_Pc [.ref h0] (qk_pre G vwCl [(h0, .inr (4, [.ref qr, .ref qp, .ref qd, .ref qc, .ref qf, .ref qt, .ref sp, .ref sc, .int (nI n)]))])) (vp_Si (fun r => r = if 200 ≤ n then nI 1 else nI 0)) 0 0 (fun _ => False) := by
  refine Met.ofW (cc := cX4_isFull) (maxL := 1) (ret := (some .boolean)) (by decide) rfl ?_
  intro p e s m args below meth c s₁ B hml hv
  obtain ⟨rfl, hP, hK, hN⟩ := hv
  have hx := B.exec
  have hb := B.bytes
  have hr := B.returns
  have hlocks := B.notSynchronized
  have hts := atoms_spec (ws := wsX4_isFull) B.pre
  have htb := fun (w : Cond) (h : w ∈ qTb) => hts w (List.mem_cons_of_mem _ h)
  have hown : s.vm.findClass "GradeRows$Steps" = some m.cls := findClass_of_methodNamed B.named
  have hP : va_P G.1 vwCl [(h0, .inr (4, [.ref qr, .ref qp, .ref qd, .ref qc, .ref qf, .ref qt, .ref sp, .ref sc, .int (nI n)]))] s.heap := hP
  have hl := lv_entry ([.ref h0]) (n := 1) (Nat.le_of_ble_eq_true rfl)
  rw [lg_entry_eq]
  generalize (lg_sl ([.ref h0]) ++ List.replicate (1 - (lg_sl ([.ref h0])).length) Slot.unset).toArray = ls at hl ⊢
  have hl : lv_has ls 1 [(0, .ref h0)] := hl
  refine lv_aload_n hx hb dX4_isFull_0 rfl (lv_at hl 0 rfl) ?_
  refine va_get (D := G.1) (ci := 4) (v := .int (nI n)) (C := "GradeRows$Steps") (T := TX4) (N := 9) hx hb htb inX4 hown hK hP 0 rfl rfl 8 (by decide) (htb _ qw_83) (fun _ h9 => h9) rfl dX4_isFull_1 ?_
  refine lv_sipush (v := nI 200) hx hb dX4_isFull_4 (by decide) ?_
  refine lv_icmp_lt (tgt := 14) hx hb dX4_isFull_7 (by decide) (fun c1 => ?_) (fun c1 => ?_)
  · have c1 : n < 200 := (nI_ltI (by omega) (by omega)).mp c1
    refine lv_iconst (v := nI 0) hx hb dX4_isFull_14 (by decide) ?_
    exact W.zret (v := nI 0) (ty := .boolean) hx hb hr (by decide) (fun t9 ht9 hW9 => ⟨_, rfl, (if_neg (by omega)).symm, ht9⟩) (fun q h => absurd h List.not_mem_nil) dX4_isFull_15
  · have c1 : ¬ (n < 200) := fun q9 => c1 ((nI_ltI (by omega) (by omega)).mpr q9)
    refine lv_iconst (v := nI 1) hx hb dX4_isFull_10 (by decide) ?_
    refine lv_goto (tgt := 15) hx hb dX4_isFull_11 (by decide) ?_
    exact W.zret (v := nI 1) (ty := .boolean) hx hb hr (by decide) (fun t9 ht9 hW9 => ⟨_, rfl, (if_pos (by omega)).symm, ht9⟩) (fun q h => absurd h List.not_mem_nil) dX4_isFull_15

set_option maxHeartbeats 4000000 in
set_option maxRecDepth 100000 in
/-- Steps.has -/
theorem qc_T_has (l : Launch) (G : qG) (h0 : Nat) (qr : Nat) (qp : Nat) (qd : Nat) (qc : Nat) (qf : Nat) (qt : Nat) (sp : Nat) (sc : Nat) (n : Nat) (x : Int32)  : Met l yX4_has wsX4_has ({ frames := 0, cells := 0, slots := 0, locals := 0 } : Room) (va_Pc [.ref h0, .int x] (qk_pre G vwCl [(h0, .inr (4, [.ref qr, .ref qp, .ref qd, .ref qc, .ref qf, .ref qt, .ref sp, .ref sc, .int (nI n)]))])) (vp_Si (fun r => r = if ¬ x < 0 ∧ x < nI n then nI 1 else nI 0)) 0 0 (fun _ => False) := by
  refine Met.ofW (cc := cX4_has) (maxL := 2) (ret := (some .boolean)) (by decide) rfl ?_
  intro p e s m args below meth c s₁ B hml hv
  obtain ⟨rfl, hP, hK, hN⟩ := hv
  have hx := B.exec
  have hb := B.bytes
  have hr := B.returns
  have hlocks := B.notSynchronized
  have hts := atoms_spec (ws := wsX4_has) B.pre
  have htb := fun (w : Cond) (h : w ∈ qTb) => hts w (List.mem_cons_of_mem _ h)
  have hown : s.vm.findClass "GradeRows$Steps" = some m.cls := findClass_of_methodNamed B.named
  have hP : va_P G.1 vwCl [(h0, .inr (4, [.ref qr, .ref qp, .ref qd, .ref qc, .ref qf, .ref qt, .ref sp, .ref sc, .int (nI n)]))] s.heap := hP
  have hl := lv_entry ([.ref h0, .int x]) (n := 2) (Nat.le_of_ble_eq_true rfl)
  rw [lg_entry_eq]
  generalize (lg_sl ([.ref h0, .int x]) ++ List.replicate (2 - (lg_sl ([.ref h0, .int x])).length) Slot.unset).toArray = ls at hl ⊢
  have hl : lv_has ls 2 [(0, .ref h0), (1, .int x)] := hl
  refine lv_iload_n hx hb dX4_has_0 rfl (lv_at hl 1 rfl) ?_
  refine lv_if_lt (tgt := 16) hx hb dX4_has_1 (by decide) (fun c1 => ?_) (fun c1 => ?_)
  · refine lv_iconst (v := nI 0) hx hb dX4_has_16 (by decide) ?_
    exact W.zret (v := nI 0) (ty := .boolean) hx hb hr (by decide) (fun t9 ht9 hW9 => ⟨_, rfl, (if_neg (fun h => h.1 c1)).symm, ht9⟩) (fun q h => absurd h List.not_mem_nil) dX4_has_17
  · refine lv_iload_n hx hb dX4_has_4 rfl (lv_at hl 1 rfl) ?_
    refine lv_aload_n hx hb dX4_has_5 rfl (lv_at hl 0 rfl) ?_
    refine va_get (D := G.1) (ci := 4) (v := .int (nI n)) (C := "GradeRows$Steps") (T := TX4) (N := 9) hx hb htb inX4 hown hK hP 0 rfl rfl 8 (by decide) (htb _ qw_83) (fun _ h9 => h9) rfl dX4_has_6 ?_
    refine lv_icmp_ge (tgt := 16) hx hb dX4_has_9 (by decide) (fun c2 => ?_) (fun c2 => ?_)
    · refine lv_iconst (v := nI 0) hx hb dX4_has_16 (by decide) ?_
      exact W.zret (v := nI 0) (ty := .boolean) hx hb hr (by decide) (fun t9 ht9 hW9 => ⟨_, rfl, (if_neg (fun h => qm_lt_nle h.2 c2)).symm, ht9⟩) (fun q h => absurd h List.not_mem_nil) dX4_has_17
    · refine lv_iconst (v := nI 1) hx hb dX4_has_12 (by decide) ?_
      refine lv_goto (tgt := 17) hx hb dX4_has_13 (by decide) ?_
      exact W.zret (v := nI 1) (ty := .boolean) hx hb hr (by decide) (fun t9 ht9 hW9 => ⟨_, rfl, (if_pos ⟨c1, qm_nle c2⟩).symm, ht9⟩) (fun q h => absurd h List.not_mem_nil) dX4_has_17

set_option maxHeartbeats 4000000 in
set_option maxRecDepth 100000 in
/-- Steps.isGuess -/
theorem qc_T_isg (l : Launch) (G : qG) (h0 : Nat) (qr : Nat) (qp : Nat) (qd : Nat) (qc : Nat) (qf : Nat) (qt : Nat) (sp : Nat) (sc : Nat) (n : Nat) (fr : Nat → Int32) (k : Nat) (z : Nat) (hk : k < n) (hn : n ≤ 200) (hz : fr k = nM z) (hz1 : z ≤ 40) : Met l yX4_isGuess wsX4_isGuess ({ frames := 1, cells := 0, slots := 0, locals := 21 } : Room) (va_Pc [.ref h0, .int (nI k)] (qk_pre G vwCl [(h0, .inr (4, [.ref qr, .ref qp, .ref qd, .ref qc, .ref qf, .ref qt, .ref sp, .ref sc, .int (nI n)])), (qr, .inl (G.2.1, 200, .inl fr))])) (vp_Si (fun r => r = if z = 0 then nI 1 else nI 0)) 0 0 (fun _ => False) := by
  refine Met.ofW (cc := cX4_isGuess) (maxL := 2) (ret := (some .boolean)) (by decide) rfl ?_
  intro p e s m args below meth c s₁ B hml hv
  obtain ⟨rfl, hP, hK, hN⟩ := hv
  have hx := B.exec
  have hb := B.bytes
  have hr := B.returns
  have hlocks := B.notSynchronized
  have hts := atoms_spec (ws := wsX4_isGuess) B.pre
  have htb := fun (w : Cond) (h : w ∈ qTb) => hts w (List.mem_cons_of_mem _ h)
  have hown : s.vm.findClass "GradeRows$Steps" = some m.cls := findClass_of_methodNamed B.named
  have hP : va_P G.1 vwCl [(h0, .inr (4, [.ref qr, .ref qp, .ref qd, .ref qc, .ref qf, .ref qt, .ref sp, .ref sc, .int (nI n)])), (qr, .inl (G.2.1, 200, .inl fr))] s.heap := hP
  have hl := lv_entry ([.ref h0, .int (nI k)]) (n := 2) (Nat.le_of_ble_eq_true rfl)
  rw [lg_entry_eq]
  generalize (lg_sl ([.ref h0, .int (nI k)]) ++ List.replicate (2 - (lg_sl ([.ref h0, .int (nI k)])).length) Slot.unset).toArray = ls at hl ⊢
  have hl : lv_has ls 2 [(0, .ref h0), (1, .int (nI k))] := hl
  refine lv_aload_n hx hb dX4_isGuess_0 rfl (lv_at hl 0 rfl) ?_
  refine lv_iload_n hx hb dX4_isGuess_1 rfl (lv_at hl 1 rfl) ?_
  have hPc := hP.sub (ws' := [(h0, .inr (4, [.ref qr, .ref qp, .ref qd, .ref qc, .ref qf, .ref qt, .ref sp, .ref sc, .int (nI n)]))]) [0] rfl
  refine vp_callSi (va_runV (As := [.int (nI k)]) (rest := []) ⟨hx, hb, hml, hown, htb⟩ (qc_T_has l G h0 qr qp qd qc qf qt sp sc n (nI k)) (cwV 1 htb (qW_V qw_201 qw_202 qw_203 qw_15 qw_204) rfl rfl rfl (by decide +kernel) ⟨Nat.le_of_ble_eq_true rfl, Nat.le_of_ble_eq_true rfl⟩) (qk_pv (ci := 4) (q0 := 0) hK hPc hN rfl rfl) rfl rfl hl.1 rfl (lv_room (Nat.le_of_ble_eq_true rfl)) dX4_isGuess_2 ⟨Nat.le_of_ble_eq_true rfl, Nat.le_of_ble_eq_true rfl⟩).run (fun r_2 e_2 => ?_)
  subst e_2
  refine qk_topi (t := nI 1) (if_pos ⟨nI_pos (by omega), nI_lt (by omega) (by omega)⟩) ?_
  refine lv_if_eq (tgt := 22) hx hb dX4_isGuess_5 (by decide) (fun c_1 => ?_) (fun c_1 => ?_)
  · have c_1 : 1 = 0 := (z0eq (by omega)).mp c_1
    exfalso; omega
  · have c_1 : ¬ (1 = 0) := fun q9 => c_1 ((z0eq (by omega)).mpr q9)
    refine lv_aload_n hx hb dX4_isGuess_8 rfl (lv_at hl 0 rfl) ?_
    refine va_get (D := G.1) (ci := 4) (v := .ref qr) (C := "GradeRows$Steps") (T := TX4) (N := 9) hx hb htb inX4 hown hK hP 0 rfl rfl 0 (by decide) (htb _ qw_75) (fun _ h9 => h9) rfl dX4_isGuess_9 ?_
    refine lv_iload_n hx hb dX4_isGuess_12 rfl (lv_at hl 1 rfl) ?_
    refine qk_iald hx hb hK hP 1 0 rfl rfl (i := k) (by omega) (by omega) (v := nM z) hz dX4_isGuess_13 ?_
    refine lv_iconst (v := (-1)) hx hb dX4_isGuess_14 (by decide) ?_
    refine lv_icmp_ne (tgt := 22) hx hb dX4_isGuess_15 (by decide) (fun c1 => ?_) (fun c1 => ?_)
    · have c1 : ¬ (z = 0) := fun q9 => c1 ((nM_eq1 (by omega)).mpr q9)
      refine lv_iconst (v := nI 0) hx hb dX4_isGuess_22 (by decide) ?_
      exact W.zret (v := nI 0) (ty := .boolean) hx hb hr (by decide) (fun t9 ht9 hW9 => ⟨_, rfl, (if_neg c1).symm, ht9⟩) (fun q h => absurd h List.not_mem_nil) dX4_isGuess_23
    · have c1 : z = 0 := (nM_eq1 (by omega)).mp c1
      refine lv_iconst (v := nI 1) hx hb dX4_isGuess_18 (by decide) ?_
      refine lv_goto (tgt := 23) hx hb dX4_isGuess_19 (by decide) ?_
      exact W.zret (v := nI 1) (ty := .boolean) hx hb hr (by decide) (fun t9 ht9 hW9 => ⟨_, rfl, (if_pos c1).symm, ht9⟩) (fun q h => absurd h List.not_mem_nil) dX4_isGuess_23

set_option maxHeartbeats 4000000 in
set_option maxRecDepth 100000 in
/-- Steps.isGuess behind nothing -/
theorem qc_T_isg0 (l : Launch) (G : qG) (h0 : Nat) (qr : Nat) (qp : Nat) (qd : Nat) (qc : Nat) (qf : Nat) (qt : Nat) (sp : Nat) (sc : Nat) (n : Nat)  : Met l yX4_isGuess wsX4_isGuess ({ frames := 1, cells := 0, slots := 0, locals := 21 } : Room) (va_Pc [.ref h0, .int (-1)] (qk_pre G vwCl [(h0, .inr (4, [.ref qr, .ref qp, .ref qd, .ref qc, .ref qf, .ref qt, .ref sp, .ref sc, .int (nI n)]))])) (vp_Si (fun r => r = nI 0)) 0 0 (fun _ => False) := by
  refine Met.ofW (cc := cX4_isGuess) (maxL := 2) (ret := (some .boolean)) (by decide) rfl ?_
  intro p e s m args below meth c s₁ B hml hv
  obtain ⟨rfl, hP, hK, hN⟩ := hv
  have hx := B.exec
  have hb := B.bytes
  have hr := B.returns
  have hlocks := B.notSynchronized
  have hts := atoms_spec (ws := wsX4_isGuess) B.pre
  have htb := fun (w : Cond) (h : w ∈ qTb) => hts w (List.mem_cons_of_mem _ h)
  have hown : s.vm.findClass "GradeRows$Steps" = some m.cls := findClass_of_methodNamed B.named
  have hP : va_P G.1 vwCl [(h0, .inr (4, [.ref qr, .ref qp, .ref qd, .ref qc, .ref qf, .ref qt, .ref sp, .ref sc, .int (nI n)]))] s.heap := hP
  have hl := lv_entry ([.ref h0, .int (-1)]) (n := 2) (Nat.le_of_ble_eq_true rfl)
  rw [lg_entry_eq]
  generalize (lg_sl ([.ref h0, .int (-1)]) ++ List.replicate (2 - (lg_sl ([.ref h0, .int (-1)])).length) Slot.unset).toArray = ls at hl ⊢
  have hl : lv_has ls 2 [(0, .ref h0), (1, .int (-1))] := hl
  refine lv_aload_n hx hb dX4_isGuess_0 rfl (lv_at hl 0 rfl) ?_
  refine lv_iload_n hx hb dX4_isGuess_1 rfl (lv_at hl 1 rfl) ?_
  have hPc := hP.sub (ws' := [(h0, .inr (4, [.ref qr, .ref qp, .ref qd, .ref qc, .ref qf, .ref qt, .ref sp, .ref sc, .int (nI n)]))]) [0] rfl
  refine vp_callSi (va_runV (As := [.int (-1)]) (rest := []) ⟨hx, hb, hml, hown, htb⟩ (qc_T_has l G h0 qr qp qd qc qf qt sp sc n (-1)) (cwV 1 htb (qW_V qw_201 qw_202 qw_203 qw_15 qw_204) rfl rfl rfl (by decide +kernel) ⟨Nat.le_of_ble_eq_true rfl, Nat.le_of_ble_eq_true rfl⟩) (qk_pv (ci := 4) (q0 := 0) hK hPc hN rfl rfl) rfl rfl hl.1 rfl (lv_room (Nat.le_of_ble_eq_true rfl)) dX4_isGuess_2 ⟨Nat.le_of_ble_eq_true rfl, Nat.le_of_ble_eq_true rfl⟩).run (fun r_2 e_2 => ?_)
  subst e_2
  refine qk_topi (t := nI 0) (if_neg (fun h => h.1 (by decide))) ?_
  refine lv_if_eq (tgt := 22) hx hb dX4_isGuess_5 (by decide) (fun c_1 => ?_) (fun c_1 => ?_)
  · have c_1 : 0 = 0 := (z0eq (by omega)).mp c_1
    refine lv_iconst (v := nI 0) hx hb dX4_isGuess_22 (by decide) ?_
    exact W.zret (v := nI 0) (ty := .boolean) hx hb hr (by decide) (fun t9 ht9 hW9 => ⟨_, rfl, rfl, ht9⟩) (fun q h => absurd h List.not_mem_nil) dX4_isGuess_23
  · have c_1 : ¬ (0 = 0) := fun q9 => c_1 ((z0eq (by omega)).mpr q9)
    exfalso; omega

set_option maxHeartbeats 4000000 in
set_option maxRecDepth 100000 in
/-- Steps.ruleAt -/
theorem qc_T_rule (l : Launch) (G : qG) (h0 : Nat) (qr : Nat) (qp : Nat) (qd : Nat) (qc : Nat) (qf : Nat) (qt : Nat) (sp : Nat) (sc : Nat) (n : Nat) (f : Nat → Int32) (k : Nat) (v : Int32) (hk : k < n) (hn : n ≤ 200) (hv : f k = v) : Met l yX4_ruleAt wsX4_ruleAt ({ frames := 1, cells := 0, slots := 0, locals := 21 } : Room) (va_Pc [.ref h0, .int (nI k)] (qk_pre G vwCl [(h0, .inr (4, [.ref qr, .ref qp, .ref qd, .ref qc, .ref qf, .ref qt, .ref sp, .ref sc, .int (nI n)])), (qr, .inl (G.2.1, 200, .inl f))])) (vp_Si (fun r => r = v)) 0 0 (fun _ => False) := by
  refine Met.ofW (cc := cX4_ruleAt) (maxL := 2) (ret := (some .int)) (by decide) rfl ?_
  intro p e s m args below meth c s₁ B hml hv
  obtain ⟨rfl, hP, hK, hN⟩ := hv
  have hx := B.exec
  have hb := B.bytes
  have hr := B.returns
  have hlocks := B.notSynchronized
  have hts := atoms_spec (ws := wsX4_ruleAt) B.pre
  have htb := fun (w : Cond) (h : w ∈ qTb) => hts w (List.mem_cons_of_mem _ h)
  have hown : s.vm.findClass "GradeRows$Steps" = some m.cls := findClass_of_methodNamed B.named
  have hP : va_P G.1 vwCl [(h0, .inr (4, [.ref qr, .ref qp, .ref qd, .ref qc, .ref qf, .ref qt, .ref sp, .ref sc, .int (nI n)])), (qr, .inl (G.2.1, 200, .inl f))] s.heap := hP
  have hl := lv_entry ([.ref h0, .int (nI k)]) (n := 2) (Nat.le_of_ble_eq_true rfl)
  rw [lg_entry_eq]
  generalize (lg_sl ([.ref h0, .int (nI k)]) ++ List.replicate (2 - (lg_sl ([.ref h0, .int (nI k)])).length) Slot.unset).toArray = ls at hl ⊢
  have hl : lv_has ls 2 [(0, .ref h0), (1, .int (nI k))] := hl
  refine lv_aload_n hx hb dX4_ruleAt_0 rfl (lv_at hl 0 rfl) ?_
  refine lv_iload_n hx hb dX4_ruleAt_1 rfl (lv_at hl 1 rfl) ?_
  have hPc := hP.sub (ws' := [(h0, .inr (4, [.ref qr, .ref qp, .ref qd, .ref qc, .ref qf, .ref qt, .ref sp, .ref sc, .int (nI n)]))]) [0] rfl
  refine vp_callSi (va_runV (As := [.int (nI k)]) (rest := []) ⟨hx, hb, hml, hown, htb⟩ (qc_T_has l G h0 qr qp qd qc qf qt sp sc n (nI k)) (cwV 1 htb (qW_V qw_201 qw_202 qw_203 qw_15 qw_204) rfl rfl rfl (by decide +kernel) ⟨Nat.le_of_ble_eq_true rfl, Nat.le_of_ble_eq_true rfl⟩) (qk_pv (ci := 4) (q0 := 0) hK hPc hN rfl rfl) rfl rfl hl.1 rfl (lv_room (Nat.le_of_ble_eq_true rfl)) dX4_ruleAt_2 ⟨Nat.le_of_ble_eq_true rfl, Nat.le_of_ble_eq_true rfl⟩).run (fun r_2 e_2 => ?_)
  subst e_2
  refine qk_topi (t := nI 1) (if_pos ⟨nI_pos (by omega), nI_lt (by omega) (by omega)⟩) ?_
  refine lv_if_eq (tgt := 17) hx hb dX4_ruleAt_5 (by decide) (fun c_1 => ?_) (fun c_1 => ?_)
  · have c_1 : 1 = 0 := (z0eq (by omega)).mp c_1
    exfalso; omega
  · have c_1 : ¬ (1 = 0) := fun q9 => c_1 ((z0eq (by omega)).mpr q9)
    refine lv_aload_n hx hb dX4_ruleAt_8 rfl (lv_at hl 0 rfl) ?_
    refine va_get (D := G.1) (ci := 4) (v := .ref qr) (C := "GradeRows$Steps") (T := TX4) (N := 9) hx hb htb inX4 hown hK hP 0 rfl rfl 0 (by decide) (htb _ qw_75) (fun _ h9 => h9) rfl dX4_ruleAt_9 ?_
    refine lv_iload_n hx hb dX4_ruleAt_12 rfl (lv_at hl 1 rfl) ?_
    refine qk_iald hx hb hK hP 1 0 rfl rfl (i := k) (by omega) (by omega) (v := v) hv dX4_ruleAt_13 ?_
    refine lv_goto (tgt := 18) hx hb dX4_ruleAt_14 (by decide) ?_
    exact W.iret (v := v) hx hb hr (fun t9 ht9 hW9 => ⟨_, rfl, rfl, ht9⟩) (fun q h => absurd h List.not_mem_nil) dX4_ruleAt_18

set_option maxHeartbeats 4000000 in
set_option maxRecDepth 100000 in
/-- Steps.placeAt -/
theorem qc_T_place (l : Launch) (G : qG) (h0 : Nat) (qr : Nat) (qp : Nat) (qd : Nat) (qc : Nat) (qf : Nat) (qt : Nat) (sp : Nat) (sc : Nat) (n : Nat) (f : Nat → Int32) (k : Nat) (v : Int32) (hk : k < n) (hn : n ≤ 200) (hv : f k = v) : Met l yX4_placeAt wsX4_placeAt ({ frames := 1, cells := 0, slots := 0, locals := 21 } : Room) (va_Pc [.ref h0, .int (nI k)] (qk_pre G vwCl [(h0, .inr (4, [.ref qr, .ref qp, .ref qd, .ref qc, .ref qf, .ref qt, .ref sp, .ref sc, .int (nI n)])), (qp, .inl (G.2.1, 200, .inl f))])) (vp_Si (fun r => r = v)) 0 0 (fun _ => False) := by
  refine Met.ofW (cc := cX4_placeAt) (maxL := 2) (ret := (some .int)) (by decide) rfl ?_
  intro p e s m args below meth c s₁ B hml hv
  obtain ⟨rfl, hP, hK, hN⟩ := hv
  have hx := B.exec
  have hb := B.bytes
  have hr := B.returns
  have hlocks := B.notSynchronized
  have hts := atoms_spec (ws := wsX4_placeAt) B.pre
  have htb := fun (w : Cond) (h : w ∈ qTb) => hts w (List.mem_cons_of_mem _ h)
  have hown : s.vm.findClass "GradeRows$Steps" = some m.cls := findClass_of_methodNamed B.named
  have hP : va_P G.1 vwCl [(h0, .inr (4, [.ref qr, .ref qp, .ref qd, .ref qc, .ref qf, .ref qt, .ref sp, .ref sc, .int (nI n)])), (qp, .inl (G.2.1, 200, .inl f))] s.heap := hP
  have hl := lv_entry ([.ref h0, .int (nI k)]) (n := 2) (Nat.le_of_ble_eq_true rfl)
  rw [lg_entry_eq]
  generalize (lg_sl ([.ref h0, .int (nI k)]) ++ List.replicate (2 - (lg_sl ([.ref h0, .int (nI k)])).length) Slot.unset).toArray = ls at hl ⊢
  have hl : lv_has ls 2 [(0, .ref h0), (1, .int (nI k))] := hl
  refine lv_aload_n hx hb dX4_placeAt_0 rfl (lv_at hl 0 rfl) ?_
  refine lv_iload_n hx hb dX4_placeAt_1 rfl (lv_at hl 1 rfl) ?_
  have hPc := hP.sub (ws' := [(h0, .inr (4, [.ref qr, .ref qp, .ref qd, .ref qc, .ref qf, .ref qt, .ref sp, .ref sc, .int (nI n)]))]) [0] rfl
  refine vp_callSi (va_runV (As := [.int (nI k)]) (rest := []) ⟨hx, hb, hml, hown, htb⟩ (qc_T_has l G h0 qr qp qd qc qf qt sp sc n (nI k)) (cwV 1 htb (qW_V qw_201 qw_202 qw_203 qw_15 qw_204) rfl rfl rfl (by decide +kernel) ⟨Nat.le_of_ble_eq_true rfl, Nat.le_of_ble_eq_true rfl⟩) (qk_pv (ci := 4) (q0 := 0) hK hPc hN rfl rfl) rfl rfl hl.1 rfl (lv_room (Nat.le_of_ble_eq_true rfl)) dX4_placeAt_2 ⟨Nat.le_of_ble_eq_true rfl, Nat.le_of_ble_eq_true rfl⟩).run (fun r_2 e_2 => ?_)
  subst e_2
  refine qk_topi (t := nI 1) (if_pos ⟨nI_pos (by omega), nI_lt (by omega) (by omega)⟩) ?_
  refine lv_if_eq (tgt := 17) hx hb dX4_placeAt_5 (by decide) (fun c_1 => ?_) (fun c_1 => ?_)
  · have c_1 : 1 = 0 := (z0eq (by omega)).mp c_1
    exfalso; omega
  · have c_1 : ¬ (1 = 0) := fun q9 => c_1 ((z0eq (by omega)).mpr q9)
    refine lv_aload_n hx hb dX4_placeAt_8 rfl (lv_at hl 0 rfl) ?_
    refine va_get (D := G.1) (ci := 4) (v := .ref qp) (C := "GradeRows$Steps") (T := TX4) (N := 9) hx hb htb inX4 hown hK hP 0 rfl rfl 1 (by decide) (htb _ qw_76) (fun _ h9 => h9) rfl dX4_placeAt_9 ?_
    refine lv_iload_n hx hb dX4_placeAt_12 rfl (lv_at hl 1 rfl) ?_
    refine qk_iald hx hb hK hP 1 0 rfl rfl (i := k) (by omega) (by omega) (v := v) hv dX4_placeAt_13 ?_
    refine lv_goto (tgt := 18) hx hb dX4_placeAt_14 (by decide) ?_
    exact W.iret (v := v) hx hb hr (fun t9 ht9 hW9 => ⟨_, rfl, rfl, ht9⟩) (fun q h => absurd h List.not_mem_nil) dX4_placeAt_18

set_option maxHeartbeats 4000000 in
set_option maxRecDepth 100000 in
/-- Steps.widthAt -/
theorem qc_T_width (l : Launch) (G : qG) (h0 : Nat) (qr : Nat) (qp : Nat) (qd : Nat) (qc : Nat) (qf : Nat) (qt : Nat) (sp : Nat) (sc : Nat) (n : Nat) (f : Nat → Int32) (k : Nat) (v : Int32) (hk : k < n) (hn : n ≤ 200) (hv : f k = v) : Met l yX4_widthAt wsX4_widthAt ({ frames := 1, cells := 0, slots := 0, locals := 21 } : Room) (va_Pc [.ref h0, .int (nI k)] (qk_pre G vwCl [(h0, .inr (4, [.ref qr, .ref qp, .ref qd, .ref qc, .ref qf, .ref qt, .ref sp, .ref sc, .int (nI n)])), (qd, .inl (G.2.1, 200, .inl f))])) (vp_Si (fun r => r = v)) 0 0 (fun _ => False) := by
  refine Met.ofW (cc := cX4_widthAt) (maxL := 2) (ret := (some .int)) (by decide) rfl ?_
  intro p e s m args below meth c s₁ B hml hv
  obtain ⟨rfl, hP, hK, hN⟩ := hv
  have hx := B.exec
  have hb := B.bytes
  have hr := B.returns
  have hlocks := B.notSynchronized
  have hts := atoms_spec (ws := wsX4_widthAt) B.pre
  have htb := fun (w : Cond) (h : w ∈ qTb) => hts w (List.mem_cons_of_mem _ h)
  have hown : s.vm.findClass "GradeRows$Steps" = some m.cls := findClass_of_methodNamed B.named
  have hP : va_P G.1 vwCl [(h0, .inr (4, [.ref qr, .ref qp, .ref qd, .ref qc, .ref qf, .ref qt, .ref sp, .ref sc, .int (nI n)])), (qd, .inl (G.2.1, 200, .inl f))] s.heap := hP
  have hl := lv_entry ([.ref h0, .int (nI k)]) (n := 2) (Nat.le_of_ble_eq_true rfl)
  rw [lg_entry_eq]
  generalize (lg_sl ([.ref h0, .int (nI k)]) ++ List.replicate (2 - (lg_sl ([.ref h0, .int (nI k)])).length) Slot.unset).toArray = ls at hl ⊢
  have hl : lv_has ls 2 [(0, .ref h0), (1, .int (nI k))] := hl
  refine lv_aload_n hx hb dX4_widthAt_0 rfl (lv_at hl 0 rfl) ?_
  refine lv_iload_n hx hb dX4_widthAt_1 rfl (lv_at hl 1 rfl) ?_
  have hPc := hP.sub (ws' := [(h0, .inr (4, [.ref qr, .ref qp, .ref qd, .ref qc, .ref qf, .ref qt, .ref sp, .ref sc, .int (nI n)]))]) [0] rfl
  refine vp_callSi (va_runV (As := [.int (nI k)]) (rest := []) ⟨hx, hb, hml, hown, htb⟩ (qc_T_has l G h0 qr qp qd qc qf qt sp sc n (nI k)) (cwV 1 htb (qW_V qw_201 qw_202 qw_203 qw_15 qw_204) rfl rfl rfl (by decide +kernel) ⟨Nat.le_of_ble_eq_true rfl, Nat.le_of_ble_eq_true rfl⟩) (qk_pv (ci := 4) (q0 := 0) hK hPc hN rfl rfl) rfl rfl hl.1 rfl (lv_room (Nat.le_of_ble_eq_true rfl)) dX4_widthAt_2 ⟨Nat.le_of_ble_eq_true rfl, Nat.le_of_ble_eq_true rfl⟩).run (fun r_2 e_2 => ?_)
  subst e_2
  refine qk_topi (t := nI 1) (if_pos ⟨nI_pos (by omega), nI_lt (by omega) (by omega)⟩) ?_
  refine lv_if_eq (tgt := 17) hx hb dX4_widthAt_5 (by decide) (fun c_1 => ?_) (fun c_1 => ?_)
  · have c_1 : 1 = 0 := (z0eq (by omega)).mp c_1
    exfalso; omega
  · have c_1 : ¬ (1 = 0) := fun q9 => c_1 ((z0eq (by omega)).mpr q9)
    refine lv_aload_n hx hb dX4_widthAt_8 rfl (lv_at hl 0 rfl) ?_
    refine va_get (D := G.1) (ci := 4) (v := .ref qd) (C := "GradeRows$Steps") (T := TX4) (N := 9) hx hb htb inX4 hown hK hP 0 rfl rfl 2 (by decide) (htb _ qw_77) (fun _ h9 => h9) rfl dX4_widthAt_9 ?_
    refine lv_iload_n hx hb dX4_widthAt_12 rfl (lv_at hl 1 rfl) ?_
    refine qk_iald hx hb hK hP 1 0 rfl rfl (i := k) (by omega) (by omega) (v := v) hv dX4_widthAt_13 ?_
    refine lv_goto (tgt := 18) hx hb dX4_widthAt_14 (by decide) ?_
    exact W.iret (v := v) hx hb hr (fun t9 ht9 hW9 => ⟨_, rfl, rfl, ht9⟩) (fun q h => absurd h List.not_mem_nil) dX4_widthAt_18

set_option maxHeartbeats 4000000 in
set_option maxRecDepth 100000 in
/-- Steps.priceAt -/
theorem qc_T_price (l : Launch) (G : qG) (h0 : Nat) (qr : Nat) (qp : Nat) (qd : Nat) (qc : Nat) (qf : Nat) (qt : Nat) (sp : Nat) (sc : Nat) (n : Nat) (f : Nat → Int32) (k : Nat) (v : Int32) (hk : k < n) (hn : n ≤ 200) (hv : f k = v) : Met l yX4_priceAt wsX4_priceAt ({ frames := 1, cells := 0, slots := 0, locals := 21 } : Room) (va_Pc [.ref h0, .int (nI k)] (qk_pre G vwCl [(h0, .inr (4, [.ref qr, .ref qp, .ref qd, .ref qc, .ref qf, .ref qt, .ref sp, .ref sc, .int (nI n)])), (qc, .inl (G.2.1, 200, .inl f))])) (vp_Si (fun r => r = v)) 0 0 (fun _ => False) := by
  refine Met.ofW (cc := cX4_priceAt) (maxL := 2) (ret := (some .int)) (by decide) rfl ?_
  intro p e s m args below meth c s₁ B hml hv
  obtain ⟨rfl, hP, hK, hN⟩ := hv
  have hx := B.exec
  have hb := B.bytes
  have hr := B.returns
  have hlocks := B.notSynchronized
  have hts := atoms_spec (ws := wsX4_priceAt) B.pre
  have htb := fun (w : Cond) (h : w ∈ qTb) => hts w (List.mem_cons_of_mem _ h)
  have hown : s.vm.findClass "GradeRows$Steps" = some m.cls := findClass_of_methodNamed B.named
  have hP : va_P G.1 vwCl [(h0, .inr (4, [.ref qr, .ref qp, .ref qd, .ref qc, .ref qf, .ref qt, .ref sp, .ref sc, .int (nI n)])), (qc, .inl (G.2.1, 200, .inl f))] s.heap := hP
  have hl := lv_entry ([.ref h0, .int (nI k)]) (n := 2) (Nat.le_of_ble_eq_true rfl)
  rw [lg_entry_eq]
  generalize (lg_sl ([.ref h0, .int (nI k)]) ++ List.replicate (2 - (lg_sl ([.ref h0, .int (nI k)])).length) Slot.unset).toArray = ls at hl ⊢
  have hl : lv_has ls 2 [(0, .ref h0), (1, .int (nI k))] := hl
  refine lv_aload_n hx hb dX4_priceAt_0 rfl (lv_at hl 0 rfl) ?_
  refine lv_iload_n hx hb dX4_priceAt_1 rfl (lv_at hl 1 rfl) ?_
  have hPc := hP.sub (ws' := [(h0, .inr (4, [.ref qr, .ref qp, .ref qd, .ref qc, .ref qf, .ref qt, .ref sp, .ref sc, .int (nI n)]))]) [0] rfl
  refine vp_callSi (va_runV (As := [.int (nI k)]) (rest := []) ⟨hx, hb, hml, hown, htb⟩ (qc_T_has l G h0 qr qp qd qc qf qt sp sc n (nI k)) (cwV 1 htb (qW_V qw_201 qw_202 qw_203 qw_15 qw_204) rfl rfl rfl (by decide +kernel) ⟨Nat.le_of_ble_eq_true rfl, Nat.le_of_ble_eq_true rfl⟩) (qk_pv (ci := 4) (q0 := 0) hK hPc hN rfl rfl) rfl rfl hl.1 rfl (lv_room (Nat.le_of_ble_eq_true rfl)) dX4_priceAt_2 ⟨Nat.le_of_ble_eq_true rfl, Nat.le_of_ble_eq_true rfl⟩).run (fun r_2 e_2 => ?_)
  subst e_2
  refine qk_topi (t := nI 1) (if_pos ⟨nI_pos (by omega), nI_lt (by omega) (by omega)⟩) ?_
  refine lv_if_eq (tgt := 17) hx hb dX4_priceAt_5 (by decide) (fun c_1 => ?_) (fun c_1 => ?_)
  · have c_1 : 1 = 0 := (z0eq (by omega)).mp c_1
    exfalso; omega
  · have c_1 : ¬ (1 = 0) := fun q9 => c_1 ((z0eq (by omega)).mpr q9)
    refine lv_aload_n hx hb dX4_priceAt_8 rfl (lv_at hl 0 rfl) ?_
    refine va_get (D := G.1) (ci := 4) (v := .ref qc) (C := "GradeRows$Steps") (T := TX4) (N := 9) hx hb htb inX4 hown hK hP 0 rfl rfl 3 (by decide) (htb _ qw_78) (fun _ h9 => h9) rfl dX4_priceAt_9 ?_
    refine lv_iload_n hx hb dX4_priceAt_12 rfl (lv_at hl 1 rfl) ?_
    refine qk_iald hx hb hK hP 1 0 rfl rfl (i := k) (by omega) (by omega) (v := v) hv dX4_priceAt_13 ?_
    refine lv_goto (tgt := 18) hx hb dX4_priceAt_14 (by decide) ?_
    exact W.iret (v := v) hx hb hr (fun t9 ht9 hW9 => ⟨_, rfl, rfl, ht9⟩) (fun q h => absurd h List.not_mem_nil) dX4_priceAt_18

set_option maxHeartbeats 4000000 in
set_option maxRecDepth 100000 in
/-- Steps.total -/
theorem qc_T_total (l : Launch) (G : qG) (h0 : Nat) (qr : Nat) (qp : Nat) (qd : Nat) (qc : Nat) (qf : Nat) (qt : Nat) (sp : Nat) (sc : Nat) (n : Nat) (ft : Nat → Int64) (v : Int64) (hn : n ≤ 200) (hv : ft n = v) : Met l yX4_total wsX4_total ({ frames := 0, cells := 0, slots := 0, locals := 0 } : Room) (va_Pc [.ref h0] (qk_pre G vwCl [(h0, .inr (4, [.ref qr, .ref qp, .ref qd, .ref qc, .ref qf, .ref qt, .ref sp, .ref sc, .int (nI n)])), (qt, .inl (G.2.2.1, 201, .inr (.inl ft)))])) (vp_Sl (fun r => r = v)) 0 0 (fun _ => False) := by
  refine Met.ofW (cc := cX4_total) (maxL := 1) (ret := (some .long)) (by decide) rfl ?_
  intro p e s m args below meth c s₁ B hml hv
  obtain ⟨rfl, hP, hK, hN⟩ := hv
  have hx := B.exec
  have hb := B.bytes
  have hr := B.returns
  have hlocks := B.notSynchronized
  have hts := atoms_spec (ws := wsX4_total) B.pre
  have htb := fun (w : Cond) (h : w ∈ qTb) => hts w (List.mem_cons_of_mem _ h)
  have hown : s.vm.findClass "GradeRows$Steps" = some m.cls := findClass_of_methodNamed B.named
  have hP : va_P G.1 vwCl [(h0, .inr (4, [.ref qr, .ref qp, .ref qd, .ref qc, .ref qf, .ref qt, .ref sp, .ref sc, .int (nI n)])), (qt, .inl (G.2.2.1, 201, .inr (.inl ft)))] s.heap := hP
  have hl := lv_entry ([.ref h0]) (n := 1) (Nat.le_of_ble_eq_true rfl)
  rw [lg_entry_eq]
  generalize (lg_sl ([.ref h0]) ++ List.replicate (1 - (lg_sl ([.ref h0])).length) Slot.unset).toArray = ls at hl ⊢
  have hl : lv_has ls 1 [(0, .ref h0)] := hl
  refine lv_aload_n hx hb dX4_total_0 rfl (lv_at hl 0 rfl) ?_
  refine va_get (D := G.1) (ci := 4) (v := .ref qt) (C := "GradeRows$Steps") (T := TX4) (N := 9) hx hb htb inX4 hown hK hP 0 rfl rfl 5 (by decide) (htb _ qw_80) (fun _ h9 => h9) rfl dX4_total_1 ?_
  refine lv_aload_n hx hb dX4_total_4 rfl (lv_at hl 0 rfl) ?_
  refine va_get (D := G.1) (ci := 4) (v := .int (nI n)) (C := "GradeRows$Steps") (T := TX4) (N := 9) hx hb htb inX4 hown hK hP 0 rfl rfl 8 (by decide) (htb _ qw_83) (fun _ h9 => h9) rfl dX4_total_5 ?_
  refine qk_lald hx hb hK hP 1 1 rfl rfl (i := n) (by omega) (by omega) (v := v) hv dX4_total_8 ?_
  exact W.lret (v := v) hx hb hr (fun t9 ht9 hW9 => ⟨_, rfl, rfl, ht9⟩) (fun q h => absurd h List.not_mem_nil) dX4_total_9

set_option maxHeartbeats 4000000 in
set_option maxRecDepth 100000 in
/-- Steps.totalOfFirst -/
theorem qc_T_first (l : Launch) (G : qG) (h0 : Nat) (qr : Nat) (qp : Nat) (qd : Nat) (qc : Nat) (qf : Nat) (qt : Nat) (sp : Nat) (sc : Nat) (n : Nat) (ft : Nat → Int64) (k : Nat) (v : Int64) (hn : n ≤ 200) (hk : k < 2 ^ 31) (hv : ft (if k < n then k else n) = v) : Met l yX4_totalOfFirst wsX4_totalOfFirst ({ frames := 1, cells := 0, slots := 0, locals := 20 } : Room) (va_Pc [.ref h0, .int (nI k)] (qk_pre G vwCl [(h0, .inr (4, [.ref qr, .ref qp, .ref qd, .ref qc, .ref qf, .ref qt, .ref sp, .ref sc, .int (nI n)])), (qt, .inl (G.2.2.1, 201, .inr (.inl ft)))])) (vp_Sl (fun r => r = v)) 0 0 (fun _ => False) := by
  refine Met.ofW (cc := cX4_totalOfFirst) (maxL := 2) (ret := (some .long)) (by decide) rfl ?_
  intro p e s m args below meth c s₁ B hml hv
  obtain ⟨rfl, hP, hK, hN⟩ := hv
  have hx := B.exec
  have hb := B.bytes
  have hr := B.returns
  have hlocks := B.notSynchronized
  have hts := atoms_spec (ws := wsX4_totalOfFirst) B.pre
  have htb := fun (w : Cond) (h : w ∈ qTb) => hts w (List.mem_cons_of_mem _ h)
  have hown : s.vm.findClass "GradeRows$Steps" = some m.cls := findClass_of_methodNamed B.named
  have hP : va_P G.1 vwCl [(h0, .inr (4, [.ref qr, .ref qp, .ref qd, .ref qc, .ref qf, .ref qt, .ref sp, .ref sc, .int (nI n)])), (qt, .inl (G.2.2.1, 201, .inr (.inl ft)))] s.heap := hP
  have hl := lv_entry ([.ref h0, .int (nI k)]) (n := 2) (Nat.le_of_ble_eq_true rfl)
  rw [lg_entry_eq]
  generalize (lg_sl ([.ref h0, .int (nI k)]) ++ List.replicate (2 - (lg_sl ([.ref h0, .int (nI k)])).length) Slot.unset).toArray = ls at hl ⊢
  have hl : lv_has ls 2 [(0, .ref h0), (1, .int (nI k))] := hl
  refine lv_iload_n hx hb dX4_totalOfFirst_0 rfl (lv_at hl 1 rfl) ?_
  refine lv_if_lt (tgt := 21) hx hb dX4_totalOfFirst_1 (by decide) (fun c_1 => ?_) (fun c_1 => ?_)
  · have c_1 : k < 0 := (z0lt (by omega)).mp c_1
    exfalso; omega
  · have c_1 : ¬ (k < 0) := fun q9 => c_1 ((z0lt (by omega)).mpr q9)
    refine lv_iload_n hx hb dX4_totalOfFirst_4 rfl (lv_at hl 1 rfl) ?_
    refine lv_aload_n hx hb dX4_totalOfFirst_5 rfl (lv_at hl 0 rfl) ?_
    refine va_get (D := G.1) (ci := 4) (v := .int (nI n)) (C := "GradeRows$Steps") (T := TX4) (N := 9) hx hb htb inX4 hown hK hP 0 rfl rfl 8 (by decide) (htb _ qw_83) (fun _ h9 => h9) rfl dX4_totalOfFirst_6 ?_
    refine lv_icmp_ge (tgt := 21) hx hb dX4_totalOfFirst_9 (by decide) (fun c1 => ?_) (fun c1 => ?_)
    · have c1 : n ≤ k := (nI_leI (by omega) (by omega)).mp c1
      refine lv_aload_n hx hb dX4_totalOfFirst_21 rfl (lv_at hl 0 rfl) ?_
      have hPc := hP.sub (ws' := [(h0, .inr (4, [.ref qr, .ref qp, .ref qd, .ref qc, .ref qf, .ref qt, .ref sp, .ref sc, .int (nI n)])), (qt, .inl (G.2.2.1, 201, .inr (.inl ft)))]) [0, 1] rfl
      refine vp_callSl (va_runV (As := []) (rest := []) ⟨hx, hb, hml, hown, htb⟩ (qc_T_total l G h0 qr qp qd qc qf qt sp sc n ft v hn (by rw [if_neg (show ¬ k < n by omega)] at hv; exact hv)) (cwV 0 htb (qW_V qw_251 qw_252 qw_253 qw_15 qw_254) rfl rfl rfl (by decide +kernel) ⟨Nat.le_of_ble_eq_true rfl, Nat.le_of_ble_eq_true rfl⟩) (qk_pv (ci := 4) (q0 := 0) hK hPc hN rfl rfl) rfl rfl hl.1 rfl (lv_room (Nat.le_of_ble_eq_true rfl)) dX4_totalOfFirst_22 ⟨Nat.le_of_ble_eq_true rfl, Nat.le_of_ble_eq_true rfl⟩).run (fun r_22 e_22 => ?_)
      subst e_22
      exact W.lret (v := v) hx hb hr (fun t9 ht9 hW9 => ⟨_, rfl, rfl, ht9⟩) (fun q h => absurd h List.not_mem_nil) dX4_totalOfFirst_25
    · have c1 : ¬ (n ≤ k) := fun q9 => c1 ((nI_leI (by omega) (by omega)).mpr q9)
      refine lv_aload_n hx hb dX4_totalOfFirst_12 rfl (lv_at hl 0 rfl) ?_
      refine va_get (D := G.1) (ci := 4) (v := .ref qt) (C := "GradeRows$Steps") (T := TX4) (N := 9) hx hb htb inX4 hown hK hP 0 rfl rfl 5 (by decide) (htb _ qw_80) (fun _ h9 => h9) rfl dX4_totalOfFirst_13 ?_
      refine lv_iload_n hx hb dX4_totalOfFirst_16 rfl (lv_at hl 1 rfl) ?_
      refine qk_lald hx hb hK hP 1 1 rfl rfl (i := k) (by omega) (by omega) (v := v) (by rw [if_pos (show k < n by omega)] at hv; exact hv) dX4_totalOfFirst_17 ?_
      refine lv_goto (tgt := 25) hx hb dX4_totalOfFirst_18 (by decide) ?_
      exact W.lret (v := v) hx hb hr (fun t9 ht9 hW9 => ⟨_, rfl, rfl, ht9⟩) (fun q h => absurd h List.not_mem_nil) dX4_totalOfFirst_25

set_option maxHeartbeats 4000000 in
set_option maxRecDepth 100000 in
/-- Steps.codeOf -/
theorem qc_T_code (l : Launch) (G : qG) (x : Int32) (y : Int32) (z : Int32)  : Met l yX4_codeOf wsX4_codeOf ({ frames := 0, cells := 0, slots := 0, locals := 0 } : Room) (va_Pc [.int x, .int y, .int z] (qk_pre G vwCl [])) (vp_Si (fun r => r = qm_code x y z)) 0 0 (fun _ => False) := by
  refine Met.ofW (cc := cX4_codeOf) (maxL := 3) (ret := (some .int)) (by decide) rfl ?_
  intro p e s m args below meth c s₁ B hml hv
  obtain ⟨rfl, hP, hK, hN⟩ := hv
  have hx := B.exec
  have hb := B.bytes
  have hr := B.returns
  have hlocks := B.notSynchronized
  have hts := atoms_spec (ws := wsX4_codeOf) B.pre
  have htb := fun (w : Cond) (h : w ∈ qTb) => hts w (List.mem_cons_of_mem _ h)
  have hown : s.vm.findClass "GradeRows$Steps" = some m.cls := findClass_of_methodNamed B.named
  have hP : va_P G.1 vwCl [] s.heap := hP
  have hl := lv_entry ([.int x, .int y, .int z]) (n := 3) (Nat.le_of_ble_eq_true rfl)
  rw [lg_entry_eq]
  generalize (lg_sl ([.int x, .int y, .int z]) ++ List.replicate (3 - (lg_sl ([.int x, .int y, .int z])).length) Slot.unset).toArray = ls at hl ⊢
  have hl : lv_has ls 3 [(0, .int x), (1, .int y), (2, .int z)] := hl
  refine lv_iload_n hx hb dX4_codeOf_0 rfl (lv_at hl 0 rfl) ?_
  refine lv_sipush (v := nI 256) hx hb dX4_codeOf_1 (by decide) ?_
  refine lv_imul hx hb dX4_codeOf_4 ?_
  refine lv_iload_n hx hb dX4_codeOf_5 rfl (lv_at hl 1 rfl) ?_
  refine lv_iadd hx hb dX4_codeOf_6 ?_
  refine lv_bipush (v := nI 32) hx hb dX4_codeOf_7 (by decide) ?_
  refine lv_imul hx hb dX4_codeOf_9 ?_
  refine lv_iload_n hx hb dX4_codeOf_10 rfl (lv_at hl 2 rfl) ?_
  refine lv_iadd hx hb dX4_codeOf_11 ?_
  exact W.iret (v := (((x * (nI 256)) + y) * (nI 32)) + z) hx hb hr (fun t9 ht9 hW9 => ⟨_, rfl, rfl, ht9⟩) (fun q h => absurd h List.not_mem_nil) dX4_codeOf_12

set_option maxHeartbeats 4000000 in
set_option maxRecDepth 100000 in
/-- Steps.wasNarrowAt -/
theorem qc_T_was (l : Launch) (G : qG) (h0 : Nat) (qr : Nat) (qp : Nat) (qd : Nat) (qc : Nat) (qf : Nat) (qt : Nat) (sp : Nat) (sc : Nat) (n : Nat) (fp : Nat → Int32) (ff : Nat → Int32) (s : Nat → qS) (p0 : Nat) (hn : n ≤ 200) (hf : ∀ i, i < n → ff i = if qm_fn s i = true then nI 1 else nI 0) (hp : ∀ i, i < n → fp i = nI (qm_pl (s i))) (hbp : ∀ i, i < n → qm_pl (s i) ≤ 255) (hp0 : p0 ≤ 255) : Met l yX4_wasNarrowAt wsX4_wasNarrowAt ({ frames := 0, cells := 0, slots := 0, locals := 0 } : Room) (va_Pc [.ref h0, .int (nI p0)] (qk_pre G vwCl [(h0, .inr (4, [.ref qr, .ref qp, .ref qd, .ref qc, .ref qf, .ref qt, .ref sp, .ref sc, .int (nI n)])), (qp, .inl (G.2.1, 200, .inl fp)), (qf, .inl (G.2.2.2.1, 200, .inl ff))])) (vp_Si (fun r => r = if qm_wasF s p0 n = true then nI 1 else nI 0)) 0 0 (fun _ => False) := by
  refine Met.ofW (cc := cX4_wasNarrowAt) (maxL := 3) (ret := (some .boolean)) (by decide) rfl ?_
  intro p e s m args below meth c s₁ B hml hv
  obtain ⟨rfl, hP, hK, hN⟩ := hv
  have hx := B.exec
  have hb := B.bytes
  have hr := B.returns
  have hlocks := B.notSynchronized
  have hts := atoms_spec (ws := wsX4_wasNarrowAt) B.pre
  have htb := fun (w : Cond) (h : w ∈ qTb) => hts w (List.mem_cons_of_mem _ h)
  have hown : s.vm.findClass "GradeRows$Steps" = some m.cls := findClass_of_methodNamed B.named
  have hP : va_P G.1 vwCl [(h0, .inr (4, [.ref qr, .ref qp, .ref qd, .ref qc, .ref qf, .ref qt, .ref sp, .ref sc, .int (nI n)])), (qp, .inl (G.2.1, 200, .inl fp)), (qf, .inl (G.2.2.2.1, 200, .inl ff))] s.heap := hP
  have hl := lv_entry ([.ref h0, .int (nI p0)]) (n := 3) (Nat.le_of_ble_eq_true rfl)
  rw [lg_entry_eq]
  generalize (lg_sl ([.ref h0, .int (nI p0)]) ++ List.replicate (3 - (lg_sl ([.ref h0, .int (nI p0)])).length) Slot.unset).toArray = ls at hl ⊢
  have hl : lv_has ls 3 [(0, .ref h0), (1, .int (nI p0))] := hl
  refine lv_iconst (v := nI 0) hx hb dX4_wasNarrowAt_0 (by decide) ?_
  refine lv_istore_n (lv' := [(2, .int (nI 0)), (0, .ref h0), (1, .int (nI p0))]) hx hb dX4_wasNarrowAt_1 rfl hl (by decide) rfl (fun ls hl => ?_)
  have loop_2 : ∀ (N : Nat) (i : Nat) (ls : Array Slot), n - i < N → (i ≤ n) → (qm_wasF s p0 i = false) → lv_has ls 3 [(2, .int (nI i)), (0, .ref h0), (1, .int (nI p0))] → W p l e (headSpec wsX4_wasNarrowAt ({ frames := 0, cells := 0, slots := 0, locals := 0 } : Room)).room s m ([.ref h0, .int (nI p0)] : List Value).toArray below meth c s.heap [] 0 0 (MQ below (vp_Si (fun r => r = if qm_wasF s p0 n = true then nI 1 else nI 0)) ([.ref h0, .int (nI p0)] : List Value).toArray s 0 0 (fun _ => False)) (F0 m 2 ls []) := by
    intro N
    induction N with
    | zero => intro i ls hm; exact absurd hm (Nat.not_lt_zero _)
    | succ N ih =>
      intro i ls hm hi hq hl
      refine lv_iload_n hx hb dX4_wasNarrowAt_2 rfl (lv_at hl 0 rfl) ?_
      refine lv_aload_n hx hb dX4_wasNarrowAt_3 rfl (lv_at hl 1 rfl) ?_
      refine va_get (D := G.1) (ci := 4) (v := .int (nI n)) (C := "GradeRows$Steps") (T := TX4) (N := 9) hx hb htb inX4 hown hK hP 0 rfl rfl 8 (by decide) (htb _ qw_83) (fun _ h9 => h9) rfl dX4_wasNarrowAt_4 ?_
      refine lv_icmp_ge (tgt := 37) hx hb dX4_wasNarrowAt_7 (by decide) (fun c_1 => ?_) (fun c_1 => ?_)
      · have c_1 : n ≤ i := (nI_leI (by omega) (by omega)).mp c_1
        refine lv_iconst (v := nI 0) hx hb dX4_wasNarrowAt_37 (by decide) ?_
        exact W.zret (v := nI 0) (ty := .boolean) hx hb hr (by decide) (fun t9 ht9 hW9 => ⟨_, rfl, (if_neg (by rw [← show i = n by omega, hq]; exact Bool.false_ne_true)).symm, ht9⟩) (fun q h => absurd h List.not_mem_nil) dX4_wasNarrowAt_38
      · have c_1 : ¬ (n ≤ i) := fun q9 => c_1 ((nI_leI (by omega) (by omega)).mpr q9)
        refine lv_aload_n hx hb dX4_wasNarrowAt_10 rfl (lv_at hl 1 rfl) ?_
        refine va_get (D := G.1) (ci := 4) (v := .ref qf) (C := "GradeRows$Steps") (T := TX4) (N := 9) hx hb htb inX4 hown hK hP 0 rfl rfl 4 (by decide) (htb _ qw_79) (fun _ h9 => h9) rfl dX4_wasNarrowAt_11 ?_
        refine lv_iload_n hx hb dX4_wasNarrowAt_14 rfl (lv_at hl 0 rfl) ?_
        refine qk_zald hx hb hK hP 2 2 rfl rfl (i := i) (by omega) (by omega) (v := if qm_fn s i = true then nI 1 else nI 0) (hf i (by omega)) dX4_wasNarrowAt_15 ?_
        refine lv_if_eq (tgt := 31) hx hb dX4_wasNarrowAt_16 (by decide) (fun c1 => ?_) (fun c1 => ?_)
        · have c1 : ¬ (qm_fn s i = true) := fun q9 => qk_ite0.mpr q9 c1
          refine lv_iinc (v := nI (i + 1)) (lv' := [(2, .int (nI (i + 1))), (0, .ref h0), (1, .int (nI p0))]) hx hb dX4_wasNarrowAt_31 hl (k := 0) rfl (nI_1 i) (by decide) rfl (fun ls hl => ?_)
          refine lv_goto (tgt := 2) hx hb dX4_wasNarrowAt_34 (by decide) ?_
          exact ih (i + 1) ls (by omega) (by omega) (qm_wasF_no hq (by first | (intro h; exact c1 h.1) | (intro h; exact c2 (h.2 c1)))) (lv_sub hl [0, 1, 2] rfl)
        · have c1 : qm_fn s i = true := qk_ite0.mp c1
          refine lv_aload_n hx hb dX4_wasNarrowAt_19 rfl (lv_at hl 1 rfl) ?_
          refine va_get (D := G.1) (ci := 4) (v := .ref qp) (C := "GradeRows$Steps") (T := TX4) (N := 9) hx hb htb inX4 hown hK hP 0 rfl rfl 1 (by decide) (htb _ qw_76) (fun _ h9 => h9) rfl dX4_wasNarrowAt_20 ?_
          refine lv_iload_n hx hb dX4_wasNarrowAt_23 rfl (lv_at hl 0 rfl) ?_
          have hb1 := hbp i (by omega)
          refine qk_iald hx hb hK hP 1 0 rfl rfl (i := i) (by omega) (by omega) (v := nI (qm_pl (s i))) (hp i (by omega)) dX4_wasNarrowAt_24 ?_
          refine lv_iload_n hx hb dX4_wasNarrowAt_25 rfl (lv_at hl 2 rfl) ?_
          refine lv_icmp_ne (tgt := 31) hx hb dX4_wasNarrowAt_26 (by decide) (fun c2 => ?_) (fun c2 => ?_)
          · have c2 : ¬ ((qm_pl (s i)) = p0) := fun q9 => c2 ((nI_eq (by omega) (by omega)).mpr q9)
            refine lv_iinc (v := nI (i + 1)) (lv' := [(2, .int (nI (i + 1))), (0, .ref h0), (1, .int (nI p0))]) hx hb dX4_wasNarrowAt_31 hl (k := 0) rfl (nI_1 i) (by decide) rfl (fun ls hl => ?_)
            refine lv_goto (tgt := 2) hx hb dX4_wasNarrowAt_34 (by decide) ?_
            exact ih (i + 1) ls (by omega) (by omega) (qm_wasF_no hq (by first | (intro h; exact c1 h.1) | (intro h; exact c2 (h.2 c1)))) (lv_sub hl [0, 1, 2] rfl)
          · have c2 : (qm_pl (s i)) = p0 := (nI_eq (by omega) (by omega)).mp c2
            refine lv_iconst (v := nI 1) hx hb dX4_wasNarrowAt_29 (by decide) ?_
            exact W.zret (v := nI 1) (ty := .boolean) hx hb hr (by decide) (fun t9 ht9 hW9 => ⟨_, rfl, (if_pos (qm_wasF_yes (by omega) c1 c2)).symm, ht9⟩) (fun q h => absurd h List.not_mem_nil) dX4_wasNarrowAt_30
  exact loop_2 (n - 0 + 1) 0 ls (by omega) (Nat.zero_le n) rfl (lv_sub hl [0, 1, 2] rfl)

set_option maxHeartbeats 4000000 in
set_option maxRecDepth 100000 in
/-- Steps.narrowPlace -/
theorem qc_T_nar (l : Launch) (G : qG) (h0 : Nat) (qr : Nat) (qp : Nat) (qd : Nat) (qc : Nat) (qf : Nat) (qt : Nat) (sp : Nat) (sc : Nat) (n : Nat) (fp : Nat → Int32) (ff : Nat → Int32) (s : Nat → qS) (k : Int32) (hn : n ≤ 200) (hf : ∀ i, i < n → ff i = if qm_fn s i = true then nI 1 else nI 0) (hp : ∀ i, i < n → fp i = nI (qm_pl (s i))) : Met l yX4_narrowPlace wsX4_narrowPlace ({ frames := 0, cells := 0, slots := 0, locals := 0 } : Room) (va_Pc [.ref h0, .int k] (qk_pre G vwCl [(h0, .inr (4, [.ref qr, .ref qp, .ref qd, .ref qc, .ref qf, .ref qt, .ref sp, .ref sc, .int (nI n)])), (qp, .inl (G.2.1, 200, .inl fp)), (qf, .inl (G.2.2.2.1, 200, .inl ff))])) (vp_Si (fun r => r = qm_stk s k n 0 0)) 0 0 (fun _ => False) := by
  refine Met.ofW (cc := cX4_narrowPlace) (maxL := 4) (ret := (some .int)) (by decide) rfl ?_
  intro p e s m args below meth c s₁ B hml hv
  obtain ⟨rfl, hP, hK, hN⟩ := hv
  have hx := B.exec
  have hb := B.bytes
  have hr := B.returns
  have hlocks := B.notSynchronized
  have hts := atoms_spec (ws := wsX4_narrowPlace) B.pre
  have htb := fun (w : Cond) (h : w ∈ qTb) => hts w (List.mem_cons_of_mem _ h)
  have hown : s.vm.findClass "GradeRows$Steps" = some m.cls := findClass_of_methodNamed B.named
  have hP : va_P G.1 vwCl [(h0, .inr (4, [.ref qr, .ref qp, .ref qd, .ref qc, .ref qf, .ref qt, .ref sp, .ref sc, .int (nI n)])), (qp, .inl (G.2.1, 200, .inl fp)), (qf, .inl (G.2.2.2.1, 200, .inl ff))] s.heap := hP
  have hl := lv_entry ([.ref h0, .int k]) (n := 4) (Nat.le_of_ble_eq_true rfl)
  rw [lg_entry_eq]
  generalize (lg_sl ([.ref h0, .int k]) ++ List.replicate (4 - (lg_sl ([.ref h0, .int k])).length) Slot.unset).toArray = ls at hl ⊢
  have hl : lv_has ls 4 [(0, .ref h0), (1, .int k)] := hl
  refine lv_iconst (v := nI 0) hx hb dX4_narrowPlace_0 (by decide) ?_
  refine lv_istore_n (lv' := [(2, .int (nI 0)), (0, .ref h0), (1, .int k)]) hx hb dX4_narrowPlace_1 rfl hl (by decide) rfl (fun ls hl => ?_)
  refine lv_iconst (v := nI 0) hx hb dX4_narrowPlace_2 (by decide) ?_
  refine lv_istore_n (lv' := [(3, .int (nI 0)), (2, .int (nI 0)), (0, .ref h0), (1, .int k)]) hx hb dX4_narrowPlace_3 rfl hl (by decide) rfl (fun ls hl => ?_)
  have loop_4 : ∀ (N : Nat) (i : Nat) (a : Nat) (ls : Array Slot), n - i < N → (i ≤ n) → (a ≤ i) → (qm_stk s k n 0 0 = qm_stk s k (n - i) i a) → lv_has ls 4 [(3, .int (nI i)), (2, .int (nI a)), (0, .ref h0), (1, .int k)] → W p l e (headSpec wsX4_narrowPlace ({ frames := 0, cells := 0, slots := 0, locals := 0 } : Room)).room s m ([.ref h0, .int k] : List Value).toArray below meth c s.heap [] 0 0 (MQ below (vp_Si (fun r => r = qm_stk s k n 0 0)) ([.ref h0, .int k] : List Value).toArray s 0 0 (fun _ => False)) (F0 m 4 ls []) := by
    intro N
    induction N with
    | zero => intro i a ls hm; exact absurd hm (Nat.not_lt_zero _)
    | succ N ih =>
      intro i a ls hm hi ha hq hl
      refine lv_iload_n hx hb dX4_narrowPlace_4 rfl (lv_at hl 0 rfl) ?_
      refine lv_aload_n hx hb dX4_narrowPlace_5 rfl (lv_at hl 2 rfl) ?_
      refine va_get (D := G.1) (ci := 4) (v := .int (nI n)) (C := "GradeRows$Steps") (T := TX4) (N := 9) hx hb htb inX4 hown hK hP 0 rfl rfl 8 (by decide) (htb _ qw_83) (fun _ h9 => h9) rfl dX4_narrowPlace_6 ?_
      refine lv_icmp_ge (tgt := 42) hx hb dX4_narrowPlace_9 (by decide) (fun c_1 => ?_) (fun c_1 => ?_)
      · have c_1 : n ≤ i := (nI_leI (by omega) (by omega)).mp c_1
        refine lv_iconst (v := (-1)) hx hb dX4_narrowPlace_42 (by decide) ?_
        exact W.iret (v := (-1)) hx hb hr (fun t9 ht9 hW9 => ⟨_, rfl, (hq.trans (by rw [show n - i = 0 by omega]; rfl)).symm, ht9⟩) (fun q h => absurd h List.not_mem_nil) dX4_narrowPlace_43
      · have c_1 : ¬ (n ≤ i) := fun q9 => c_1 ((nI_leI (by omega) (by omega)).mpr q9)
        refine lv_aload_n hx hb dX4_narrowPlace_12 rfl (lv_at hl 2 rfl) ?_
        refine va_get (D := G.1) (ci := 4) (v := .ref qf) (C := "GradeRows$Steps") (T := TX4) (N := 9) hx hb htb inX4 hown hK hP 0 rfl rfl 4 (by decide) (htb _ qw_79) (fun _ h9 => h9) rfl dX4_narrowPlace_13 ?_
        refine lv_iload_n hx hb dX4_narrowPlace_16 rfl (lv_at hl 0 rfl) ?_
        refine qk_zald hx hb hK hP 2 2 rfl rfl (i := i) (by omega) (by omega) (v := if qm_fn s i = true then nI 1 else nI 0) (hf i (by omega)) dX4_narrowPlace_17 ?_
        refine lv_if_eq (tgt := 36) hx hb dX4_narrowPlace_18 (by decide) (fun c1 => ?_) (fun c1 => ?_)
        · have c1 : ¬ (qm_fn s i = true) := fun q9 => qk_ite0.mpr q9 c1
          refine lv_iinc (v := nI (i + 1)) (lv' := [(3, .int (nI (i + 1))), (2, .int (nI a)), (0, .ref h0), (1, .int k)]) hx hb dX4_narrowPlace_36 hl (k := 0) rfl (nI_1 i) (by decide) rfl (fun ls hl => ?_)
          refine lv_goto (tgt := 4) hx hb dX4_narrowPlace_39 (by decide) ?_
          exact ih (i + 1) a ls (by omega) (by omega) (by omega) (hq.trans (qm_stk_no (by omega) c1)) (lv_sub hl [0, 1, 2, 3] rfl)
        · have c1 : qm_fn s i = true := qk_ite0.mp c1
          refine lv_iload_n hx hb dX4_narrowPlace_21 rfl (lv_at hl 1 rfl) ?_
          refine lv_iload_n hx hb dX4_narrowPlace_22 rfl (lv_at hl 3 rfl) ?_
          refine lv_icmp_ne (tgt := 33) hx hb dX4_narrowPlace_23 (by decide) (fun c2 => ?_) (fun c2 => ?_)
          · refine lv_iinc (v := nI (a + 1)) (lv' := [(2, .int (nI (a + 1))), (3, .int (nI i)), (0, .ref h0), (1, .int k)]) hx hb dX4_narrowPlace_33 hl (k := 1) rfl (nI_1 a) (by decide) rfl (fun ls hl => ?_)
            refine lv_iinc (v := nI (i + 1)) (lv' := [(3, .int (nI (i + 1))), (2, .int (nI (a + 1))), (0, .ref h0), (1, .int k)]) hx hb dX4_narrowPlace_36 hl (k := 1) rfl (nI_1 i) (by decide) rfl (fun ls hl => ?_)
            refine lv_goto (tgt := 4) hx hb dX4_narrowPlace_39 (by decide) ?_
            exact ih (i + 1) (a + 1) ls (by omega) (by omega) (by omega) (hq.trans (qm_stk_pass (by omega) c1 c2)) (lv_sub hl [0, 1, 2, 3] rfl)
          · refine lv_aload_n hx hb dX4_narrowPlace_26 rfl (lv_at hl 2 rfl) ?_
            refine va_get (D := G.1) (ci := 4) (v := .ref qp) (C := "GradeRows$Steps") (T := TX4) (N := 9) hx hb htb inX4 hown hK hP 0 rfl rfl 1 (by decide) (htb _ qw_76) (fun _ h9 => h9) rfl dX4_narrowPlace_27 ?_
            refine lv_iload_n hx hb dX4_narrowPlace_30 rfl (lv_at hl 0 rfl) ?_
            refine qk_iald hx hb hK hP 1 0 rfl rfl (i := i) (by omega) (by omega) (v := nI (qm_pl (s i))) (hp i (by omega)) dX4_narrowPlace_31 ?_
            exact W.iret (v := nI (qm_pl (s i))) hx hb hr (fun t9 ht9 hW9 => ⟨_, rfl, (hq.trans (qm_stk_hit (by omega) c1 c2)).symm, ht9⟩) (fun q h => absurd h List.not_mem_nil) dX4_narrowPlace_32
  exact loop_4 (n - 0 + 1) 0 0 ls (by omega) (Nat.zero_le n) (Nat.le_refl 0) rfl (lv_sub hl [0, 1, 2, 3] rfl)

set_option maxHeartbeats 4000000 in
set_option maxRecDepth 100000 in
/-- Steps.longestClimb -/
theorem qc_T_climb (l : Launch) (G : qG) (h0 : Nat) (qr : Nat) (qp : Nat) (qd : Nat) (qc : Nat) (qf : Nat) (qt : Nat) (sp : Nat) (sc : Nat) (n : Nat) (fc : Nat → Int32) (c : Nat → Nat) (hn : n ≤ 200) (hc : ∀ i, i < n → fc i = nI (c i)) (hcb : ∀ i, i < n → c i ≤ 130000) : Met l yX4_longestClimb wsX4_longestClimb ({ frames := 1, cells := 0, slots := 0, locals := 21 } : Room) (va_Pc [.ref h0] (qk_pre G vwCl [(h0, .inr (4, [.ref qr, .ref qp, .ref qd, .ref qc, .ref qf, .ref qt, .ref sp, .ref sc, .int (nI n)])), (qc, .inl (G.2.1, 200, .inl fc))])) (vp_Si (fun r => r = nI (qm_run c n).2)) 0 0 (fun _ => False) := by
  refine Met.ofW (cc := cX4_longestClimb) (maxL := 4) (ret := (some .int)) (by decide) rfl ?_
  intro p e s m args below meth c s₁ B hml hv
  obtain ⟨rfl, hP, hK, hN⟩ := hv
  have hx := B.exec
  have hb := B.bytes
  have hr := B.returns
  have hlocks := B.notSynchronized
  have hts := atoms_spec (ws := wsX4_longestClimb) B.pre
  have htb := fun (w : Cond) (h : w ∈ qTb) => hts w (List.mem_cons_of_mem _ h)
  have hown : s.vm.findClass "GradeRows$Steps" = some m.cls := findClass_of_methodNamed B.named
  have hP : va_P G.1 vwCl [(h0, .inr (4, [.ref qr, .ref qp, .ref qd, .ref qc, .ref qf, .ref qt, .ref sp, .ref sc, .int (nI n)])), (qc, .inl (G.2.1, 200, .inl fc))] s.heap := hP
  have hl := lv_entry ([.ref h0]) (n := 4) (Nat.le_of_ble_eq_true rfl)
  rw [lg_entry_eq]
  generalize (lg_sl ([.ref h0]) ++ List.replicate (4 - (lg_sl ([.ref h0])).length) Slot.unset).toArray = ls at hl ⊢
  have hl : lv_has ls 4 [(0, .ref h0)] := hl
  refine lv_iconst (v := nI 0) hx hb dX4_longestClimb_0 (by decide) ?_
  refine lv_istore_n (lv' := [(1, .int (nI 0)), (0, .ref h0)]) hx hb dX4_longestClimb_1 rfl hl (by decide) rfl (fun ls hl => ?_)
  refine lv_iconst (v := nI 0) hx hb dX4_longestClimb_2 (by decide) ?_
  refine lv_istore_n (lv' := [(2, .int (nI 0)), (1, .int (nI 0)), (0, .ref h0)]) hx hb dX4_longestClimb_3 rfl hl (by decide) rfl (fun ls hl => ?_)
  refine lv_iconst (v := nI 0) hx hb dX4_longestClimb_4 (by decide) ?_
  refine lv_istore_n (lv' := [(3, .int (nI 0)), (2, .int (nI 0)), (1, .int (nI 0)), (0, .ref h0)]) hx hb dX4_longestClimb_5 rfl hl (by decide) rfl (fun ls hl => ?_)
  have loop_6 : ∀ (N : Nat) (i : Nat) (le : Nat) (lo : Nat) (ls : Array Slot), n - i < N → (i ≤ n) → (qm_run c i = (le, lo)) → (le ≤ i ∧ lo ≤ i) → lv_has ls 4 [(3, .int (nI i)), (2, .int (nI le)), (1, .int (nI lo)), (0, .ref h0)] → W p l e (headSpec wsX4_longestClimb ({ frames := 1, cells := 0, slots := 0, locals := 21 } : Room)).room s m ([.ref h0] : List Value).toArray below meth c s.heap [] 0 0 (MQ below (vp_Si (fun r => r = nI (qm_run c n).2)) ([.ref h0] : List Value).toArray s 0 0 (fun _ => False)) (F0 m 6 ls []) := by
    intro N
    induction N with
    | zero => intro i le lo ls hm; exact absurd hm (Nat.not_lt_zero _)
    | succ N ih =>
      intro i le lo ls hm hi hq hle hl
      refine lv_iload_n hx hb dX4_longestClimb_6 rfl (lv_at hl 0 rfl) ?_
      refine lv_aload_n hx hb dX4_longestClimb_7 rfl (lv_at hl 3 rfl) ?_
      refine va_get (D := G.1) (ci := 4) (v := .int (nI n)) (C := "GradeRows$Steps") (T := TX4) (N := 9) hx hb htb inX4 hown hK hP 0 rfl rfl 8 (by decide) (htb _ qw_83) (fun _ h9 => h9) rfl dX4_longestClimb_8 ?_
      refine lv_icmp_ge (tgt := 55) hx hb dX4_longestClimb_11 (by decide) (fun c_1 => ?_) (fun c_1 => ?_)
      · have c_1 : n ≤ i := (nI_leI (by omega) (by omega)).mp c_1
        refine lv_iload_n hx hb dX4_longestClimb_55 rfl (lv_at hl 2 rfl) ?_
        exact W.iret (v := nI lo) hx hb hr (fun t9 ht9 hW9 => ⟨_, rfl, by rw [← show i = n by omega, hq], ht9⟩) (fun q h => absurd h List.not_mem_nil) dX4_longestClimb_56
      · have c_1 : ¬ (n ≤ i) := fun q9 => c_1 ((nI_leI (by omega) (by omega)).mpr q9)
        refine lv_iload_n hx hb dX4_longestClimb_14 rfl (lv_at hl 0 rfl) ?_
        refine lv_if_le (tgt := 41) hx hb dX4_longestClimb_15 (by decide) (fun c_2 => ?_) (fun c_2 => ?_)
        · have c_2 : i ≤ 0 := (z0le (by omega)).mp c_2
          refine lv_iconst (v := nI 1) hx hb dX4_longestClimb_41 (by decide) ?_
          refine lv_istore_n (lv' := [(2, .int (nI 1)), (3, .int (nI i)), (1, .int (nI lo)), (0, .ref h0)]) hx hb dX4_longestClimb_42 rfl hl (by decide) rfl (fun ls hl => ?_)
          refine lv_iload_n hx hb dX4_longestClimb_43 rfl (lv_at hl 2 rfl) ?_
          refine lv_iload_n hx hb dX4_longestClimb_44 rfl (lv_at hl 0 rfl) ?_
          refine va_mmax hx hb (hml.trans hl.1.symm) hown (htb _ qw_310) (htb _ qw_311) (htb _ qw_19) (htb _ qw_312) (Nat.le_of_ble_eq_true rfl) (Nat.le_of_ble_eq_true rfl) (Nat.le_of_ble_eq_true rfl) (Nat.le_of_ble_eq_true rfl) dX4_longestClimb_45 ?_
          refine qk_topi (t := nI (if lo < 1 then 1 else lo)) (nI_max (by omega) (by omega)) ?_
          refine lv_istore_n (lv' := [(1, .int (nI (if lo < 1 then 1 else lo))), (2, .int (nI 1)), (3, .int (nI i)), (0, .ref h0)]) hx hb dX4_longestClimb_48 rfl hl (by decide) rfl (fun ls hl => ?_)
          refine lv_iinc (v := nI (i + 1)) (lv' := [(3, .int (nI (i + 1))), (1, .int (nI (if lo < 1 then 1 else lo))), (2, .int (nI 1)), (0, .ref h0)]) hx hb dX4_longestClimb_49 hl (k := 2) rfl (nI_1 i) (by decide) rfl (fun ls hl => ?_)
          refine lv_goto (tgt := 6) hx hb dX4_longestClimb_52 (by decide) ?_
          exact ih (i + 1) 1 (if lo < 1 then 1 else lo) ls (by omega) (by omega) (qm_run_new hq (by intro h; omega)) (⟨by omega, by split <;> omega⟩) (lv_sub hl [0, 2, 1, 3] rfl)
        · have c_2 : ¬ (i ≤ 0) := fun q9 => c_2 ((z0le (by omega)).mpr q9)
          refine lv_aload_n hx hb dX4_longestClimb_18 rfl (lv_at hl 3 rfl) ?_
          refine va_get (D := G.1) (ci := 4) (v := .ref qc) (C := "GradeRows$Steps") (T := TX4) (N := 9) hx hb htb inX4 hown hK hP 0 rfl rfl 3 (by decide) (htb _ qw_78) (fun _ h9 => h9) rfl dX4_longestClimb_19 ?_
          refine lv_iload_n hx hb dX4_longestClimb_22 rfl (lv_at hl 0 rfl) ?_
          have hb1 := hcb i (by omega)
          have hb2 := hcb (i - 1) (by omega)
          refine qk_iald hx hb hK hP 1 0 rfl rfl (i := i) (by omega) (by omega) (v := nI (c i)) (hc i (by omega)) dX4_longestClimb_23 ?_
          refine lv_aload_n hx hb dX4_longestClimb_24 rfl (lv_at hl 3 rfl) ?_
          refine va_get (D := G.1) (ci := 4) (v := .ref qc) (C := "GradeRows$Steps") (T := TX4) (N := 9) hx hb htb inX4 hown hK hP 0 rfl rfl 3 (by decide) (htb _ qw_78) (fun _ h9 => h9) rfl dX4_longestClimb_25 ?_
          refine lv_iload_n hx hb dX4_longestClimb_28 rfl (lv_at hl 0 rfl) ?_
          refine lv_iconst (v := nI 1) hx hb dX4_longestClimb_29 (by decide) ?_
          refine lv_isub hx hb dX4_longestClimb_30 ?_
          refine qk_topi (t := nI (i - 1)) (pk_sub (by omega)) ?_
          refine qk_iald hx hb hK hP 1 0 rfl rfl (i := (i - 1)) (by omega) (by omega) (v := nI (c (i - 1))) (hc (i - 1) (by omega)) dX4_longestClimb_31 ?_
          refine lv_icmp_lt (tgt := 41) hx hb dX4_longestClimb_32 (by decide) (fun c_3 => ?_) (fun c_3 => ?_)
          · have c_3 : (c i) < (c (i - 1)) := (nI_ltI (by omega) (by omega)).mp c_3
            refine lv_iconst (v := nI 1) hx hb dX4_longestClimb_41 (by decide) ?_
            refine lv_istore_n (lv' := [(2, .int (nI 1)), (3, .int (nI i)), (1, .int (nI lo)), (0, .ref h0)]) hx hb dX4_longestClimb_42 rfl hl (by decide) rfl (fun ls hl => ?_)
            refine lv_iload_n hx hb dX4_longestClimb_43 rfl (lv_at hl 2 rfl) ?_
            refine lv_iload_n hx hb dX4_longestClimb_44 rfl (lv_at hl 0 rfl) ?_
            refine va_mmax hx hb (hml.trans hl.1.symm) hown (htb _ qw_310) (htb _ qw_311) (htb _ qw_19) (htb _ qw_312) (Nat.le_of_ble_eq_true rfl) (Nat.le_of_ble_eq_true rfl) (Nat.le_of_ble_eq_true rfl) (Nat.le_of_ble_eq_true rfl) dX4_longestClimb_45 ?_
            refine qk_topi (t := nI (if lo < 1 then 1 else lo)) (nI_max (by omega) (by omega)) ?_
            refine lv_istore_n (lv' := [(1, .int (nI (if lo < 1 then 1 else lo))), (2, .int (nI 1)), (3, .int (nI i)), (0, .ref h0)]) hx hb dX4_longestClimb_48 rfl hl (by decide) rfl (fun ls hl => ?_)
            refine lv_iinc (v := nI (i + 1)) (lv' := [(3, .int (nI (i + 1))), (1, .int (nI (if lo < 1 then 1 else lo))), (2, .int (nI 1)), (0, .ref h0)]) hx hb dX4_longestClimb_49 hl (k := 2) rfl (nI_1 i) (by decide) rfl (fun ls hl => ?_)
            refine lv_goto (tgt := 6) hx hb dX4_longestClimb_52 (by decide) ?_
            exact ih (i + 1) 1 (if lo < 1 then 1 else lo) ls (by omega) (by omega) (qm_run_new hq (by intro h; omega)) (⟨by omega, by split <;> omega⟩) (lv_sub hl [0, 2, 1, 3] rfl)
          · have c_3 : ¬ ((c i) < (c (i - 1))) := fun q9 => c_3 ((nI_ltI (by omega) (by omega)).mpr q9)
            refine lv_iload_n hx hb dX4_longestClimb_35 rfl (lv_at hl 1 rfl) ?_
            refine lv_iconst (v := nI 1) hx hb dX4_longestClimb_36 (by decide) ?_
            refine lv_iadd hx hb dX4_longestClimb_37 ?_
            refine qk_topi (t := nI (le + 1)) (nI_add _ _) ?_
            refine lv_goto (tgt := 42) hx hb dX4_longestClimb_38 (by decide) ?_
            refine lv_istore_n (lv' := [(2, .int (nI (le + 1))), (3, .int (nI i)), (1, .int (nI lo)), (0, .ref h0)]) hx hb dX4_longestClimb_42 rfl hl (by decide) rfl (fun ls hl => ?_)
            refine lv_iload_n hx hb dX4_longestClimb_43 rfl (lv_at hl 2 rfl) ?_
            refine lv_iload_n hx hb dX4_longestClimb_44 rfl (lv_at hl 0 rfl) ?_
            refine va_mmax hx hb (hml.trans hl.1.symm) hown (htb _ qw_310) (htb _ qw_311) (htb _ qw_19) (htb _ qw_312) (Nat.le_of_ble_eq_true rfl) (Nat.le_of_ble_eq_true rfl) (Nat.le_of_ble_eq_true rfl) (Nat.le_of_ble_eq_true rfl) dX4_longestClimb_45 ?_
            refine qk_topi (t := nI (if lo < le + 1 then le + 1 else lo)) (nI_max (by omega) (by omega)) ?_
            refine lv_istore_n (lv' := [(1, .int (nI (if lo < le + 1 then le + 1 else lo))), (2, .int (nI (le + 1))), (3, .int (nI i)), (0, .ref h0)]) hx hb dX4_longestClimb_48 rfl hl (by decide) rfl (fun ls hl => ?_)
            refine lv_iinc (v := nI (i + 1)) (lv' := [(3, .int (nI (i + 1))), (1, .int (nI (if lo < le + 1 then le + 1 else lo))), (2, .int (nI (le + 1))), (0, .ref h0)]) hx hb dX4_longestClimb_49 hl (k := 2) rfl (nI_1 i) (by decide) rfl (fun ls hl => ?_)
            refine lv_goto (tgt := 6) hx hb dX4_longestClimb_52 (by decide) ?_
            exact ih (i + 1) (le + 1) (if lo < le + 1 then le + 1 else lo) ls (by omega) (by omega) (qm_run_up hq ⟨by omega, by omega⟩) (⟨by omega, by split <;> omega⟩) (lv_sub hl [0, 2, 1, 3] rfl)
  exact loop_6 (n - 0 + 1) 0 0 0 ls (by omega) (Nat.zero_le n) rfl (⟨Nat.le_refl 0, Nat.le_refl 0⟩) (lv_sub hl [0, 1, 2, 3] rfl)

set_option maxHeartbeats 4000000 in
set_option maxRecDepth 100000 in
/-- Steps.add, full -/
theorem qc_T_add0 (l : Launch) (G : qG) (h0 : Nat) (qr : Nat) (qp : Nat) (qd : Nat) (qc : Nat) (qf : Nat) (qt : Nat) (sp : Nat) (sc : Nat) (n : Nat) (a : Int32) (b : Int32) (x : Int32) (y : Int32) (hn : ¬ n < 200) (hn2 : n ≤ 200) : Met l yX4_add wsX4_add ({ frames := 1, cells := 0, slots := 0, locals := 20 } : Room) (va_Pc [.ref h0, .int a, .int b, .int x, .int y] (qk_pre G vwCl [(h0, .inr (4, [.ref qr, .ref qp, .ref qd, .ref qc, .ref qf, .ref qt, .ref sp, .ref sc, .int (nI n)]))])) (vp_Si (fun r => r = (-1))) 0 0 (fun _ => False) := by
  refine Met.ofW (cc := cX4_add) (maxL := 5) (ret := (some .int)) (by decide) rfl ?_
  intro p e s m args below meth c s₁ B hml hv
  obtain ⟨rfl, hP, hK, hN⟩ := hv
  have hx := B.exec
  have hb := B.bytes
  have hr := B.returns
  have hlocks := B.notSynchronized
  have hts := atoms_spec (ws := wsX4_add) B.pre
  have htb := fun (w : Cond) (h : w ∈ qTb) => hts w (List.mem_cons_of_mem _ h)
  have hown : s.vm.findClass "GradeRows$Steps" = some m.cls := findClass_of_methodNamed B.named
  have hP : va_P G.1 vwCl [(h0, .inr (4, [.ref qr, .ref qp, .ref qd, .ref qc, .ref qf, .ref qt, .ref sp, .ref sc, .int (nI n)]))] s.heap := hP
  have hl := lv_entry ([.ref h0, .int a, .int b, .int x, .int y]) (n := 5) (Nat.le_of_ble_eq_true rfl)
  rw [lg_entry_eq]
  generalize (lg_sl ([.ref h0, .int a, .int b, .int x, .int y]) ++ List.replicate (5 - (lg_sl ([.ref h0, .int a, .int b, .int x, .int y])).length) Slot.unset).toArray = ls at hl ⊢
  have hl : lv_has ls 5 [(0, .ref h0), (1, .int a), (2, .int b), (3, .int x), (4, .int y)] := hl
  refine lv_aload_n hx hb dX4_add_0 rfl (lv_at hl 0 rfl) ?_
  have hPc := hP.sub (ws' := [(h0, .inr (4, [.ref qr, .ref qp, .ref qd, .ref qc, .ref qf, .ref qt, .ref sp, .ref sc, .int (nI n)]))]) [0] rfl
  refine vp_callSi (va_runV (As := []) (rest := []) ⟨hx, hb, hml, hown, htb⟩ (qc_T_full l G h0 qr qp qd qc qf qt sp sc n hn2) (cwV 0 htb (qW_V qw_177 qw_161 qw_162 qw_15 qw_163) rfl rfl rfl (by decide +kernel) ⟨Nat.le_of_ble_eq_true rfl, Nat.le_of_ble_eq_true rfl⟩) (qk_pv (ci := 4) (q0 := 0) hK hPc hN rfl rfl) rfl rfl hl.1 rfl (lv_room (Nat.le_of_ble_eq_true rfl)) dX4_add_1 ⟨Nat.le_of_ble_eq_true rfl, Nat.le_of_ble_eq_true rfl⟩).run (fun r_1 e_1 => ?_)
  subst e_1
  refine qk_topi (t := nI 1) (if_pos (by omega)) ?_
  refine lv_if_eq (tgt := 9) hx hb dX4_add_4 (by decide) (fun c_1 => ?_) (fun c_1 => ?_)
  · have c_1 : 1 = 0 := (z0eq (by omega)).mp c_1
    exfalso; omega
  · have c_1 : ¬ (1 = 0) := fun q9 => c_1 ((z0eq (by omega)).mpr q9)
    refine lv_iconst (v := (-1)) hx hb dX4_add_7 (by decide) ?_
    exact W.iret (v := (-1)) hx hb hr (fun t9 ht9 hW9 => ⟨_, rfl, rfl, ht9⟩) (fun q h => absurd h List.not_mem_nil) dX4_add_8

set_option maxHeartbeats 4000000 in
set_option maxRecDepth 100000 in
/-- Steps.add -/
theorem qc_T_add (l : Launch) (G : qG) (h0 : Nat) (qr : Nat) (qp : Nat) (qd : Nat) (qc : Nat) (qf : Nat) (qt : Nat) (sp : Nat) (sc : Nat) (n : Nat) (fr : Nat → Int32) (fp : Nat → Int32) (fd : Nat → Int32) (fc : Nat → Int32) (ff : Nat → Int32) (ft : Nat → Int64) (q1 : Nat) (f1 : Nat → Int32) (q2 : Nat) (f2 : Nat → Int32) (s : Nat → qS) (z1 : Nat) (pl : Nat) (wd : Nat) (pr : Nat) (tt : Nat) (sz : Nat) (hn : n < 200) (hf : ∀ i, i < n → ff i = if qm_fn s i = true then nI 1 else nI 0) (hp : ∀ i, i < n → fp i = nI (qm_pl (s i))) (hbp : ∀ i, i < n → qm_pl (s i) ≤ 255) (hpl : pl ≤ 255) (hz1 : z1 ≤ 40) (hwd : wd ≤ 20) (hpr : pr < 2 ^ 31) (htt : ft n = lN tt) : Met l yX4_add wsX4_add ({ frames := 1, cells := 0, slots := 0, locals := 22 } : Room) (va_Pc [.ref h0, .int (nM z1), .int (nI pl), .int (nI wd), .int (nI pr)] (qk_prw G vwCl [(h0, .inr (4, [.ref qr, .ref qp, .ref qd, .ref qc, .ref qf, .ref qt, .ref sp, .ref sc, .int (nI n)])), (qr, .inl (G.2.1, 200, .inl fr)), (qp, .inl (G.2.1, 200, .inl fp)), (qd, .inl (G.2.1, 200, .inl fd)), (qc, .inl (G.2.1, 200, .inl fc)), (qf, .inl (G.2.2.2.1, 200, .inl ff)), (qt, .inl (G.2.2.1, 201, .inr (.inl ft))), (sp, .inr (3, [.ref q1, .int (nI n)])), (q1, .inl (G.2.1, 200, .inl f1)), (sc, .inr (3, [.ref q2, .int (nI n)])), (q2, .inl (G.2.1, 200, .inl f2))] sz)) (va_Qi (fun (r : Int32) (u : Int32 × (Nat → Int32) × (Nat → Int32)) => r = nI n ∧ u.1 = (if ¬ z1 = 0 ∧ wd = 1 ∧ ¬ qm_wasF s pl n = true then nI 1 else nI 0) ∧ qm_ins f1 n (nI pr) u.2.1 ∧ qm_ins f2 n (qm_code (nM z1) (nI pl) (nI wd)) u.2.2) (qk_B G vwCl (va_A [(h0, .inr (4, [.ref qr, .ref qp, .ref qd, .ref qc, .ref qf, .ref qt, .ref sp, .ref sc, .int (nI n)])), (qr, .inl (G.2.1, 200, .inl fr)), (qp, .inl (G.2.1, 200, .inl fp)), (qd, .inl (G.2.1, 200, .inl fd)), (qc, .inl (G.2.1, 200, .inl fc)), (qf, .inl (G.2.2.2.1, 200, .inl ff)), (qt, .inl (G.2.2.1, 201, .inr (.inl ft))), (sp, .inr (3, [.ref q1, .int (nI n)])), (q1, .inl (G.2.1, 200, .inl f1)), (sc, .inr (3, [.ref q2, .int (nI n)])), (q2, .inl (G.2.1, 200, .inl f2))] sz) (fun (u : Int32 × (Nat → Int32) × (Nat → Int32)) => [(h0, .inr (4, [.ref qr, .ref qp, .ref qd, .ref qc, .ref qf, .ref qt, .ref sp, .ref sc, .int (nI (n + 1))])), (qr, .inl (G.2.1, 200, .inl (upd fr n (nM z1)))), (qp, .inl (G.2.1, 200, .inl (upd fp n (nI pl)))), (qd, .inl (G.2.1, 200, .inl (upd fd n (nI wd)))), (qc, .inl (G.2.1, 200, .inl (upd fc n (nI pr)))), (qf, .inl (G.2.2.2.1, 200, .inl (upd ff n u.1))), (qt, .inl (G.2.2.1, 201, .inr (.inl (vp_updL ft (n + 1) (lN (tt + pr)))))), (sp, .inr (3, [.ref q1, .int (nI (n + 1))])), (q1, .inl (G.2.1, 200, .inl u.2.1)), (sc, .inr (3, [.ref q2, .int (nI (n + 1))])), (q2, .inl (G.2.1, 200, .inl u.2.2))])) (va_A [(h0, .inr (4, [.ref qr, .ref qp, .ref qd, .ref qc, .ref qf, .ref qt, .ref sp, .ref sc, .int (nI n)])), (qr, .inl (G.2.1, 200, .inl fr)), (qp, .inl (G.2.1, 200, .inl fp)), (qd, .inl (G.2.1, 200, .inl fd)), (qc, .inl (G.2.1, 200, .inl fc)), (qf, .inl (G.2.2.2.1, 200, .inl ff)), (qt, .inl (G.2.2.1, 201, .inr (.inl ft))), (sp, .inr (3, [.ref q1, .int (nI n)])), (q1, .inl (G.2.1, 200, .inl f1)), (sc, .inr (3, [.ref q2, .int (nI n)])), (q2, .inl (G.2.1, 200, .inl f2))] sz)) 0 0 (va_A [(h0, .inr (4, [.ref qr, .ref qp, .ref qd, .ref qc, .ref qf, .ref qt, .ref sp, .ref sc, .int (nI n)])), (qr, .inl (G.2.1, 200, .inl fr)), (qp, .inl (G.2.1, 200, .inl fp)), (qd, .inl (G.2.1, 200, .inl fd)), (qc, .inl (G.2.1, 200, .inl fc)), (qf, .inl (G.2.2.2.1, 200, .inl ff)), (qt, .inl (G.2.2.1, 201, .inr (.inl ft))), (sp, .inr (3, [.ref q1, .int (nI n)])), (q1, .inl (G.2.1, 200, .inl f1)), (sc, .inr (3, [.ref q2, .int (nI n)])), (q2, .inl (G.2.1, 200, .inl f2))] sz) := by
  refine Met.ofW (cc := cX4_add) (maxL := 5) (ret := (some .int)) (by decide) rfl ?_
  intro p e s m args below meth c s₁ B hml hv
  obtain ⟨rfl, hsz, hP, hK, hD0, hN⟩ := hv
  have hx := B.exec
  have hb := B.bytes
  have hr := B.returns
  have hlocks := B.notSynchronized
  have hts := atoms_spec (ws := wsX4_add) B.pre
  have htb := fun (w : Cond) (h : w ∈ qTb) => hts w (List.mem_cons_of_mem _ h)
  have hown : s.vm.findClass "GradeRows$Steps" = some m.cls := findClass_of_methodNamed B.named
  subst hsz
  have hD := hD0.self (sz := s.heap.size)
  generalize hAe : va_A [(h0, .inr (4, [.ref qr, .ref qp, .ref qd, .ref qc, .ref qf, .ref qt, .ref sp, .ref sc, .int (nI n)])), (qr, .inl (G.2.1, 200, .inl fr)), (qp, .inl (G.2.1, 200, .inl fp)), (qd, .inl (G.2.1, 200, .inl fd)), (qc, .inl (G.2.1, 200, .inl fc)), (qf, .inl (G.2.2.2.1, 200, .inl ff)), (qt, .inl (G.2.2.1, 201, .inr (.inl ft))), (sp, .inr (3, [.ref q1, .int (nI n)])), (q1, .inl (G.2.1, 200, .inl f1)), (sc, .inr (3, [.ref q2, .int (nI n)])), (q2, .inl (G.2.1, 200, .inl f2))] s.heap.size = A at hD ⊢
  have hA : ∀ q : Nat, s.heap.size ≤ q → A q := fun q h => by rw [← hAe]; exact Or.inr h
  have hS : va_S A s.heap s.heap [] := va_S.rf
  have hP : va_P G.1 vwCl [(h0, .inr (4, [.ref qr, .ref qp, .ref qd, .ref qc, .ref qf, .ref qt, .ref sp, .ref sc, .int (nI n)])), (qr, .inl (G.2.1, 200, .inl fr)), (qp, .inl (G.2.1, 200, .inl fp)), (qd, .inl (G.2.1, 200, .inl fd)), (qc, .inl (G.2.1, 200, .inl fc)), (qf, .inl (G.2.2.2.1, 200, .inl ff)), (qt, .inl (G.2.2.1, 201, .inr (.inl ft))), (sp, .inr (3, [.ref q1, .int (nI n)])), (q1, .inl (G.2.1, 200, .inl f1)), (sc, .inr (3, [.ref q2, .int (nI n)])), (q2, .inl (G.2.1, 200, .inl f2))] s.heap := hP
  have hl := lv_entry ([.ref h0, .int (nM z1), .int (nI pl), .int (nI wd), .int (nI pr)]) (n := 5) (Nat.le_of_ble_eq_true rfl)
  rw [lg_entry_eq]
  generalize (lg_sl ([.ref h0, .int (nM z1), .int (nI pl), .int (nI wd), .int (nI pr)]) ++ List.replicate (5 - (lg_sl ([.ref h0, .int (nM z1), .int (nI pl), .int (nI wd), .int (nI pr)])).length) Slot.unset).toArray = ls at hl ⊢
  have hl : lv_has ls 5 [(0, .ref h0), (1, .int (nM z1)), (2, .int (nI pl)), (3, .int (nI wd)), (4, .int (nI pr))] := hl
  refine lv_aload_n hx hb dX4_add_0 rfl (lv_at hl 0 rfl) ?_
  have hPc := hP.sub (ws' := [(h0, .inr (4, [.ref qr, .ref qp, .ref qd, .ref qc, .ref qf, .ref qt, .ref sp, .ref sc, .int (nI n)]))]) [0] rfl
  refine vp_callSi (va_runV (As := []) (rest := []) ⟨hx, hb, hml, hown, htb⟩ (qc_T_full l G h0 qr qp qd qc qf qt sp sc n (by omega)) (cwV 0 htb (qW_V qw_177 qw_161 qw_162 qw_15 qw_163) rfl rfl rfl (by decide +kernel) ⟨Nat.le_of_ble_eq_true rfl, Nat.le_of_ble_eq_true rfl⟩) (qk_pv (ci := 4) (q0 := 0) hK hPc hN rfl rfl) rfl rfl hl.1 rfl (lv_room (Nat.le_of_ble_eq_true rfl)) dX4_add_1 ⟨Nat.le_of_ble_eq_true rfl, Nat.le_of_ble_eq_true rfl⟩).run (fun r_1 e_1 => ?_)
  subst e_1
  refine qk_topi (t := nI 0) (if_neg (by omega)) ?_
  refine lv_if_eq (tgt := 9) hx hb dX4_add_4 (by decide) (fun c_1 => ?_) (fun c_1 => ?_)
  · have c_1 : 0 = 0 := (z0eq (by omega)).mp c_1
    refine lv_aload_n hx hb dX4_add_9 rfl (lv_at hl 0 rfl) ?_
    refine va_get (D := G.1) (ci := 4) (v := .ref qr) (C := "GradeRows$Steps") (T := TX4) (N := 9) hx hb htb inX4 hown hK hP 0 rfl rfl 0 (by decide) (htb _ qw_75) (fun _ h9 => h9) rfl dX4_add_10 ?_
    refine lv_aload_n hx hb dX4_add_13 rfl (lv_at hl 0 rfl) ?_
    refine va_get (D := G.1) (ci := 4) (v := .int (nI n)) (C := "GradeRows$Steps") (T := TX4) (N := 9) hx hb htb inX4 hown hK hP 0 rfl rfl 8 (by decide) (htb _ qw_83) (fun _ h9 => h9) rfl dX4_add_14 ?_
    refine lv_iload_n hx hb dX4_add_17 rfl (lv_at hl 1 rfl) ?_
    refine qk_iast hx hb hK hP hD hS 1 0 rfl rfl (i := n) (by omega) (by omega) dX4_add_18 (fun H locs hP hD hS => ?_)
    have hP : va_P G.1 vwCl [(h0, .inr (4, [.ref qr, .ref qp, .ref qd, .ref qc, .ref qf, .ref qt, .ref sp, .ref sc, .int (nI n)])), (qr, .inl (G.2.1, 200, .inl (upd fr n (nM z1)))), (qp, .inl (G.2.1, 200, .inl fp)), (qd, .inl (G.2.1, 200, .inl fd)), (qc, .inl (G.2.1, 200, .inl fc)), (qf, .inl (G.2.2.2.1, 200, .inl ff)), (qt, .inl (G.2.2.1, 201, .inr (.inl ft))), (sp, .inr (3, [.ref q1, .int (nI n)])), (q1, .inl (G.2.1, 200, .inl f1)), (sc, .inr (3, [.ref q2, .int (nI n)])), (q2, .inl (G.2.1, 200, .inl f2))] H := hP
    have hD : va_D A [(h0, .inr (4, [.ref qr, .ref qp, .ref qd, .ref qc, .ref qf, .ref qt, .ref sp, .ref sc, .int (nI n)])), (qr, .inl (G.2.1, 200, .inl (upd fr n (nM z1)))), (qp, .inl (G.2.1, 200, .inl fp)), (qd, .inl (G.2.1, 200, .inl fd)), (qc, .inl (G.2.1, 200, .inl fc)), (qf, .inl (G.2.2.2.1, 200, .inl ff)), (qt, .inl (G.2.2.1, 201, .inr (.inl ft))), (sp, .inr (3, [.ref q1, .int (nI n)])), (q1, .inl (G.2.1, 200, .inl f1)), (sc, .inr (3, [.ref q2, .int (nI n)])), (q2, .inl (G.2.1, 200, .inl f2))] := hD
    refine lv_aload_n hx hb dX4_add_19 rfl (lv_at hl 0 rfl) ?_
    refine va_get (D := G.1) (ci := 4) (v := .ref qp) (C := "GradeRows$Steps") (T := TX4) (N := 9) hx hb htb inX4 hown hK hP 0 rfl rfl 1 (by decide) (htb _ qw_76) (fun _ h9 => h9) rfl dX4_add_20 ?_
    refine lv_aload_n hx hb dX4_add_23 rfl (lv_at hl 0 rfl) ?_
    refine va_get (D := G.1) (ci := 4) (v := .int (nI n)) (C := "GradeRows$Steps") (T := TX4) (N := 9) hx hb htb inX4 hown hK hP 0 rfl rfl 8 (by decide) (htb _ qw_83) (fun _ h9 => h9) rfl dX4_add_24 ?_
    refine lv_iload_n hx hb dX4_add_27 rfl (lv_at hl 2 rfl) ?_
    refine qk_iast hx hb hK hP hD hS 2 0 rfl rfl (i := n) (by omega) (by omega) dX4_add_28 (fun H locs hP hD hS => ?_)
    have hP : va_P G.1 vwCl [(h0, .inr (4, [.ref qr, .ref qp, .ref qd, .ref qc, .ref qf, .ref qt, .ref sp, .ref sc, .int (nI n)])), (qr, .inl (G.2.1, 200, .inl (upd fr n (nM z1)))), (qp, .inl (G.2.1, 200, .inl (upd fp n (nI pl)))), (qd, .inl (G.2.1, 200, .inl fd)), (qc, .inl (G.2.1, 200, .inl fc)), (qf, .inl (G.2.2.2.1, 200, .inl ff)), (qt, .inl (G.2.2.1, 201, .inr (.inl ft))), (sp, .inr (3, [.ref q1, .int (nI n)])), (q1, .inl (G.2.1, 200, .inl f1)), (sc, .inr (3, [.ref q2, .int (nI n)])), (q2, .inl (G.2.1, 200, .inl f2))] H := hP
    have hD : va_D A [(h0, .inr (4, [.ref qr, .ref qp, .ref qd, .ref qc, .ref qf, .ref qt, .ref sp, .ref sc, .int (nI n)])), (qr, .inl (G.2.1, 200, .inl (upd fr n (nM z1)))), (qp, .inl (G.2.1, 200, .inl (upd fp n (nI pl)))), (qd, .inl (G.2.1, 200, .inl fd)), (qc, .inl (G.2.1, 200, .inl fc)), (qf, .inl (G.2.2.2.1, 200, .inl ff)), (qt, .inl (G.2.2.1, 201, .inr (.inl ft))), (sp, .inr (3, [.ref q1, .int (nI n)])), (q1, .inl (G.2.1, 200, .inl f1)), (sc, .inr (3, [.ref q2, .int (nI n)])), (q2, .inl (G.2.1, 200, .inl f2))] := hD
    refine lv_aload_n hx hb dX4_add_29 rfl (lv_at hl 0 rfl) ?_
    refine va_get (D := G.1) (ci := 4) (v := .ref qd) (C := "GradeRows$Steps") (T := TX4) (N := 9) hx hb htb inX4 hown hK hP 0 rfl rfl 2 (by decide) (htb _ qw_77) (fun _ h9 => h9) rfl dX4_add_30 ?_
    refine lv_aload_n hx hb dX4_add_33 rfl (lv_at hl 0 rfl) ?_
    refine va_get (D := G.1) (ci := 4) (v := .int (nI n)) (C := "GradeRows$Steps") (T := TX4) (N := 9) hx hb htb inX4 hown hK hP 0 rfl rfl 8 (by decide) (htb _ qw_83) (fun _ h9 => h9) rfl dX4_add_34 ?_
    refine lv_iload_n hx hb dX4_add_37 rfl (lv_at hl 3 rfl) ?_
    refine qk_iast hx hb hK hP hD hS 3 0 rfl rfl (i := n) (by omega) (by omega) dX4_add_38 (fun H locs hP hD hS => ?_)
    have hP : va_P G.1 vwCl [(h0, .inr (4, [.ref qr, .ref qp, .ref qd, .ref qc, .ref qf, .ref qt, .ref sp, .ref sc, .int (nI n)])), (qr, .inl (G.2.1, 200, .inl (upd fr n (nM z1)))), (qp, .inl (G.2.1, 200, .inl (upd fp n (nI pl)))), (qd, .inl (G.2.1, 200, .inl (upd fd n (nI wd)))), (qc, .inl (G.2.1, 200, .inl fc)), (qf, .inl (G.2.2.2.1, 200, .inl ff)), (qt, .inl (G.2.2.1, 201, .inr (.inl ft))), (sp, .inr (3, [.ref q1, .int (nI n)])), (q1, .inl (G.2.1, 200, .inl f1)), (sc, .inr (3, [.ref q2, .int (nI n)])), (q2, .inl (G.2.1, 200, .inl f2))] H := hP
    have hD : va_D A [(h0, .inr (4, [.ref qr, .ref qp, .ref qd, .ref qc, .ref qf, .ref qt, .ref sp, .ref sc, .int (nI n)])), (qr, .inl (G.2.1, 200, .inl (upd fr n (nM z1)))), (qp, .inl (G.2.1, 200, .inl (upd fp n (nI pl)))), (qd, .inl (G.2.1, 200, .inl (upd fd n (nI wd)))), (qc, .inl (G.2.1, 200, .inl fc)), (qf, .inl (G.2.2.2.1, 200, .inl ff)), (qt, .inl (G.2.2.1, 201, .inr (.inl ft))), (sp, .inr (3, [.ref q1, .int (nI n)])), (q1, .inl (G.2.1, 200, .inl f1)), (sc, .inr (3, [.ref q2, .int (nI n)])), (q2, .inl (G.2.1, 200, .inl f2))] := hD
    refine lv_aload_n hx hb dX4_add_39 rfl (lv_at hl 0 rfl) ?_
    refine va_get (D := G.1) (ci := 4) (v := .ref qc) (C := "GradeRows$Steps") (T := TX4) (N := 9) hx hb htb inX4 hown hK hP 0 rfl rfl 3 (by decide) (htb _ qw_78) (fun _ h9 => h9) rfl dX4_add_40 ?_
    refine lv_aload_n hx hb dX4_add_43 rfl (lv_at hl 0 rfl) ?_
    refine va_get (D := G.1) (ci := 4) (v := .int (nI n)) (C := "GradeRows$Steps") (T := TX4) (N := 9) hx hb htb inX4 hown hK hP 0 rfl rfl 8 (by decide) (htb _ qw_83) (fun _ h9 => h9) rfl dX4_add_44 ?_
    refine lv_iload hx hb dX4_add_47 (lv_at hl 4 rfl) ?_
    refine qk_iast hx hb hK hP hD hS 4 0 rfl rfl (i := n) (by omega) (by omega) dX4_add_49 (fun H locs hP hD hS => ?_)
    have hP : va_P G.1 vwCl [(h0, .inr (4, [.ref qr, .ref qp, .ref qd, .ref qc, .ref qf, .ref qt, .ref sp, .ref sc, .int (nI n)])), (qr, .inl (G.2.1, 200, .inl (upd fr n (nM z1)))), (qp, .inl (G.2.1, 200, .inl (upd fp n (nI pl)))), (qd, .inl (G.2.1, 200, .inl (upd fd n (nI wd)))), (qc, .inl (G.2.1, 200, .inl (upd fc n (nI pr)))), (qf, .inl (G.2.2.2.1, 200, .inl ff)), (qt, .inl (G.2.2.1, 201, .inr (.inl ft))), (sp, .inr (3, [.ref q1, .int (nI n)])), (q1, .inl (G.2.1, 200, .inl f1)), (sc, .inr (3, [.ref q2, .int (nI n)])), (q2, .inl (G.2.1, 200, .inl f2))] H := hP
    have hD : va_D A [(h0, .inr (4, [.ref qr, .ref qp, .ref qd, .ref qc, .ref qf, .ref qt, .ref sp, .ref sc, .int (nI n)])), (qr, .inl (G.2.1, 200, .inl (upd fr n (nM z1)))), (qp, .inl (G.2.1, 200, .inl (upd fp n (nI pl)))), (qd, .inl (G.2.1, 200, .inl (upd fd n (nI wd)))), (qc, .inl (G.2.1, 200, .inl (upd fc n (nI pr)))), (qf, .inl (G.2.2.2.1, 200, .inl ff)), (qt, .inl (G.2.2.1, 201, .inr (.inl ft))), (sp, .inr (3, [.ref q1, .int (nI n)])), (q1, .inl (G.2.1, 200, .inl f1)), (sc, .inr (3, [.ref q2, .int (nI n)])), (q2, .inl (G.2.1, 200, .inl f2))] := hD
    refine lv_aload_n hx hb dX4_add_50 rfl (lv_at hl 0 rfl) ?_
    refine va_get (D := G.1) (ci := 4) (v := .ref qf) (C := "GradeRows$Steps") (T := TX4) (N := 9) hx hb htb inX4 hown hK hP 0 rfl rfl 4 (by decide) (htb _ qw_79) (fun _ h9 => h9) rfl dX4_add_51 ?_
    refine lv_aload_n hx hb dX4_add_54 rfl (lv_at hl 0 rfl) ?_
    refine va_get (D := G.1) (ci := 4) (v := .int (nI n)) (C := "GradeRows$Steps") (T := TX4) (N := 9) hx hb htb inX4 hown hK hP 0 rfl rfl 8 (by decide) (htb _ qw_83) (fun _ h9 => h9) rfl dX4_add_55 ?_
    have join_81 : ∀ (bv : Int32) (ls : Array Slot), (bv = if ¬ z1 = 0 ∧ wd = 1 ∧ ¬ qm_wasF s pl n = true then nI 1 else nI 0) → (vp_nar .boolean bv = bv) → lv_has ls 5 [(0, .ref h0), (1, .int (nM z1)), (2, .int (nI pl)), (3, .int (nI wd)), (4, .int (nI pr))] → W p l e (headSpec wsX4_add ({ frames := 1, cells := 0, slots := 0, locals := 22 } : Room)).room s m ([.ref h0, .int (nM z1), .int (nI pl), .int (nI wd), .int (nI pr)] : List Value).toArray below meth c H locs 0 0 (MQ below (va_Qi (fun (r : Int32) (u : Int32 × (Nat → Int32) × (Nat → Int32)) => r = nI n ∧ u.1 = (if ¬ z1 = 0 ∧ wd = 1 ∧ ¬ qm_wasF s pl n = true then nI 1 else nI 0) ∧ qm_ins f1 n (nI pr) u.2.1 ∧ qm_ins f2 n (qm_code (nM z1) (nI pl) (nI wd)) u.2.2) (qk_B G vwCl A (fun (u : Int32 × (Nat → Int32) × (Nat → Int32)) => [(h0, .inr (4, [.ref qr, .ref qp, .ref qd, .ref qc, .ref qf, .ref qt, .ref sp, .ref sc, .int (nI (n + 1))])), (qr, .inl (G.2.1, 200, .inl (upd fr n (nM z1)))), (qp, .inl (G.2.1, 200, .inl (upd fp n (nI pl)))), (qd, .inl (G.2.1, 200, .inl (upd fd n (nI wd)))), (qc, .inl (G.2.1, 200, .inl (upd fc n (nI pr)))), (qf, .inl (G.2.2.2.1, 200, .inl (upd ff n u.1))), (qt, .inl (G.2.2.1, 201, .inr (.inl (vp_updL ft (n + 1) (lN (tt + pr)))))), (sp, .inr (3, [.ref q1, .int (nI (n + 1))])), (q1, .inl (G.2.1, 200, .inl u.2.1)), (sc, .inr (3, [.ref q2, .int (nI (n + 1))])), (q2, .inl (G.2.1, 200, .inl u.2.2))])) A) ([.ref h0, .int (nM z1), .int (nI pl), .int (nI wd), .int (nI pr)] : List Value).toArray s 0 0 A) (F0 m 81 ls [.int bv, .int (nI n), .ref qf]) := by
      intro bv ls hbv hnb hl
      refine qk_zast hx hb hK hP hD hS 5 2 rfl rfl (i := n) hnb (by omega) (by omega) dX4_add_81 (fun H locs hP hD hS => ?_)
      have hP : va_P G.1 vwCl [(h0, .inr (4, [.ref qr, .ref qp, .ref qd, .ref qc, .ref qf, .ref qt, .ref sp, .ref sc, .int (nI n)])), (qr, .inl (G.2.1, 200, .inl (upd fr n (nM z1)))), (qp, .inl (G.2.1, 200, .inl (upd fp n (nI pl)))), (qd, .inl (G.2.1, 200, .inl (upd fd n (nI wd)))), (qc, .inl (G.2.1, 200, .inl (upd fc n (nI pr)))), (qf, .inl (G.2.2.2.1, 200, .inl (upd ff n bv))), (qt, .inl (G.2.2.1, 201, .inr (.inl ft))), (sp, .inr (3, [.ref q1, .int (nI n)])), (q1, .inl (G.2.1, 200, .inl f1)), (sc, .inr (3, [.ref q2, .int (nI n)])), (q2, .inl (G.2.1, 200, .inl f2))] H := hP
      have hD : va_D A [(h0, .inr (4, [.ref qr, .ref qp, .ref qd, .ref qc, .ref qf, .ref qt, .ref sp, .ref sc, .int (nI n)])), (qr, .inl (G.2.1, 200, .inl (upd fr n (nM z1)))), (qp, .inl (G.2.1, 200, .inl (upd fp n (nI pl)))), (qd, .inl (G.2.1, 200, .inl (upd fd n (nI wd)))), (qc, .inl (G.2.1, 200, .inl (upd fc n (nI pr)))), (qf, .inl (G.2.2.2.1, 200, .inl (upd ff n bv))), (qt, .inl (G.2.2.1, 201, .inr (.inl ft))), (sp, .inr (3, [.ref q1, .int (nI n)])), (q1, .inl (G.2.1, 200, .inl f1)), (sc, .inr (3, [.ref q2, .int (nI n)])), (q2, .inl (G.2.1, 200, .inl f2))] := hD
      refine lv_aload_n hx hb dX4_add_82 rfl (lv_at hl 0 rfl) ?_
      refine va_get (D := G.1) (ci := 4) (v := .ref qt) (C := "GradeRows$Steps") (T := TX4) (N := 9) hx hb htb inX4 hown hK hP 0 rfl rfl 5 (by decide) (htb _ qw_80) (fun _ h9 => h9) rfl dX4_add_83 ?_
      refine lv_aload_n hx hb dX4_add_86 rfl (lv_at hl 0 rfl) ?_
      refine va_get (D := G.1) (ci := 4) (v := .int (nI n)) (C := "GradeRows$Steps") (T := TX4) (N := 9) hx hb htb inX4 hown hK hP 0 rfl rfl 8 (by decide) (htb _ qw_83) (fun _ h9 => h9) rfl dX4_add_87 ?_
      refine lv_iconst (v := nI 1) hx hb dX4_add_90 (by decide) ?_
      refine lv_iadd hx hb dX4_add_91 ?_
      refine qk_topi (t := nI (n + 1)) (nI_add _ _) ?_
      refine lv_aload_n hx hb dX4_add_92 rfl (lv_at hl 0 rfl) ?_
      refine va_get (D := G.1) (ci := 4) (v := .ref qt) (C := "GradeRows$Steps") (T := TX4) (N := 9) hx hb htb inX4 hown hK hP 0 rfl rfl 5 (by decide) (htb _ qw_80) (fun _ h9 => h9) rfl dX4_add_93 ?_
      refine lv_aload_n hx hb dX4_add_96 rfl (lv_at hl 0 rfl) ?_
      refine va_get (D := G.1) (ci := 4) (v := .int (nI n)) (C := "GradeRows$Steps") (T := TX4) (N := 9) hx hb htb inX4 hown hK hP 0 rfl rfl 8 (by decide) (htb _ qw_83) (fun _ h9 => h9) rfl dX4_add_97 ?_
      refine qk_lald hx hb hK hP 6 1 rfl rfl (i := n) (by omega) (by omega) (v := lN tt) htt dX4_add_100 ?_
      refine lv_iload hx hb dX4_add_101 (lv_at hl 4 rfl) ?_
      refine lv_i2l (v := lN pr) hx hb dX4_add_103 (nI_l (by omega)) ?_
      refine lv_ladd hx hb dX4_add_104 ?_
      refine qk_topl (t := lN (tt + pr)) (lN_add _ _) ?_
      refine qk_last hx hb hK hP hD hS 6 1 rfl rfl (i := (n + 1)) (by omega) (by omega) dX4_add_105 (fun H locs hP hD hS => ?_)
      have hP : va_P G.1 vwCl [(h0, .inr (4, [.ref qr, .ref qp, .ref qd, .ref qc, .ref qf, .ref qt, .ref sp, .ref sc, .int (nI n)])), (qr, .inl (G.2.1, 200, .inl (upd fr n (nM z1)))), (qp, .inl (G.2.1, 200, .inl (upd fp n (nI pl)))), (qd, .inl (G.2.1, 200, .inl (upd fd n (nI wd)))), (qc, .inl (G.2.1, 200, .inl (upd fc n (nI pr)))), (qf, .inl (G.2.2.2.1, 200, .inl (upd ff n bv))), (qt, .inl (G.2.2.1, 201, .inr (.inl (vp_updL ft (n + 1) (lN (tt + pr)))))), (sp, .inr (3, [.ref q1, .int (nI n)])), (q1, .inl (G.2.1, 200, .inl f1)), (sc, .inr (3, [.ref q2, .int (nI n)])), (q2, .inl (G.2.1, 200, .inl f2))] H := hP
      have hD : va_D A [(h0, .inr (4, [.ref qr, .ref qp, .ref qd, .ref qc, .ref qf, .ref qt, .ref sp, .ref sc, .int (nI n)])), (qr, .inl (G.2.1, 200, .inl (upd fr n (nM z1)))), (qp, .inl (G.2.1, 200, .inl (upd fp n (nI pl)))), (qd, .inl (G.2.1, 200, .inl (upd fd n (nI wd)))), (qc, .inl (G.2.1, 200, .inl (upd fc n (nI pr)))), (qf, .inl (G.2.2.2.1, 200, .inl (upd ff n bv))), (qt, .inl (G.2.2.1, 201, .inr (.inl (vp_updL ft (n + 1) (lN (tt + pr)))))), (sp, .inr (3, [.ref q1, .int (nI n)])), (q1, .inl (G.2.1, 200, .inl f1)), (sc, .inr (3, [.ref q2, .int (nI n)])), (q2, .inl (G.2.1, 200, .inl f2))] := hD
      refine lv_aload_n hx hb dX4_add_106 rfl (lv_at hl 0 rfl) ?_
      refine va_get (D := G.1) (ci := 4) (v := .ref sp) (C := "GradeRows$Steps") (T := TX4) (N := 9) hx hb htb inX4 hown hK hP 0 rfl rfl 6 (by decide) (htb _ qw_81) (fun _ h9 => h9) rfl dX4_add_107 ?_
      refine lv_iload hx hb dX4_add_110 (lv_at hl 4 rfl) ?_
      have hPc := hP.sub (ws' := [(sp, .inr (3, [.ref q1, .int (nI n)])), (q1, .inl (G.2.1, 200, .inl f1))]) [7, 8] rfl
      have hDc := hD.sub (ws' := [(sp, .inr (3, [.ref q1, .int (nI n)])), (q1, .inl (G.2.1, 200, .inl f1))]) [7, 8] (by decide) rfl
      have hFc := va_free (wc := [(sp, .inr (3, [.ref q1, .int (nI n)])), (q1, .inl (G.2.1, 200, .inl f1))]) hD hS hA [7, 8] rfl
      refine va_callv (va_runV (As := [.int (nI pr)]) (rest := []) ⟨hx, hb, hml, hown, htb⟩ (qc_S_put l G sp q1 n f1 (nI pr) H.size hn) (cwV 1 htb (qW_V qw_182 qw_183 qw_184 qw_16 qw_185) rfl rfl rfl (by decide +kernel) ⟨Nat.le_of_ble_eq_true rfl, Nat.le_of_ble_eq_true rfl⟩) (qk_pvw (ci := 3) (q0 := 0) hK hPc hN hDc rfl rfl) rfl rfl hl.1 rfl (lv_room (Nat.le_of_ble_eq_true rfl)) dX4_add_112 ⟨Nat.le_of_ble_eq_true rfl, Nat.le_of_ble_eq_true rfl⟩) hS (fun q _ h => hFc q h) hFc (fun u_112 t9 H1 locs ht9 hvm w_112 hB hz1 hk1 hS => ?_)
      obtain ⟨v_112, rfl⟩ : ∃ z, z = u_112 := ⟨_, rfl⟩
      obtain ⟨hP1, hK1, hD1⟩ := hB
      rw [ht9] at hP1
      obtain ⟨hP, hD⟩ := va_join (wr := [(h0, .inr (4, [.ref qr, .ref qp, .ref qd, .ref qc, .ref qf, .ref qt, .ref sp, .ref sc, .int (nI n)])), (qr, .inl (G.2.1, 200, .inl (upd fr n (nM z1)))), (qp, .inl (G.2.1, 200, .inl (upd fp n (nI pl)))), (qd, .inl (G.2.1, 200, .inl (upd fd n (nI wd)))), (qc, .inl (G.2.1, 200, .inl (upd fc n (nI pr)))), (qf, .inl (G.2.2.2.1, 200, .inl (upd ff n bv))), (qt, .inl (G.2.2.1, 201, .inr (.inl (vp_updL ft (n + 1) (lN (tt + pr)))))), (sc, .inr (3, [.ref q2, .int (nI n)])), (q2, .inl (G.2.1, 200, .inl f2))]) (w1 := [(sp, .inr (3, [.ref q1, .int (nI (n + 1))])), (q1, .inl (G.2.1, 200, .inl v_112))]) hP hD [7, 8] [0, 1, 2, 3, 4, 5, 6, 9, 10] rfl rfl (by decide) (by decide) hk1 hFc hP1 hD1
      generalize H1 = H at hP hS ⊢
      have hP : va_P G.1 vwCl [(h0, .inr (4, [.ref qr, .ref qp, .ref qd, .ref qc, .ref qf, .ref qt, .ref sp, .ref sc, .int (nI n)])), (qr, .inl (G.2.1, 200, .inl (upd fr n (nM z1)))), (qp, .inl (G.2.1, 200, .inl (upd fp n (nI pl)))), (qd, .inl (G.2.1, 200, .inl (upd fd n (nI wd)))), (qc, .inl (G.2.1, 200, .inl (upd fc n (nI pr)))), (qf, .inl (G.2.2.2.1, 200, .inl (upd ff n bv))), (qt, .inl (G.2.2.1, 201, .inr (.inl (vp_updL ft (n + 1) (lN (tt + pr)))))), (sc, .inr (3, [.ref q2, .int (nI n)])), (q2, .inl (G.2.1, 200, .inl f2)), (sp, .inr (3, [.ref q1, .int (nI (n + 1))])), (q1, .inl (G.2.1, 200, .inl v_112))] H := hP
      have hD : va_D A [(h0, .inr (4, [.ref qr, .ref qp, .ref qd, .ref qc, .ref qf, .ref qt, .ref sp, .ref sc, .int (nI n)])), (qr, .inl (G.2.1, 200, .inl (upd fr n (nM z1)))), (qp, .inl (G.2.1, 200, .inl (upd fp n (nI pl)))), (qd, .inl (G.2.1, 200, .inl (upd fd n (nI wd)))), (qc, .inl (G.2.1, 200, .inl (upd fc n (nI pr)))), (qf, .inl (G.2.2.2.1, 200, .inl (upd ff n bv))), (qt, .inl (G.2.2.1, 201, .inr (.inl (vp_updL ft (n + 1) (lN (tt + pr)))))), (sc, .inr (3, [.ref q2, .int (nI n)])), (q2, .inl (G.2.1, 200, .inl f2)), (sp, .inr (3, [.ref q1, .int (nI (n + 1))])), (q1, .inl (G.2.1, 200, .inl v_112))] := hD
      refine lv_aload_n hx hb dX4_add_115 rfl (lv_at hl 0 rfl) ?_
      refine va_get (D := G.1) (ci := 4) (v := .ref sc) (C := "GradeRows$Steps") (T := TX4) (N := 9) hx hb htb inX4 hown hK hP 0 rfl rfl 7 (by decide) (htb _ qw_82) (fun _ h9 => h9) rfl dX4_add_116 ?_
      refine lv_iload_n hx hb dX4_add_119 rfl (lv_at hl 1 rfl) ?_
      refine lv_iload_n hx hb dX4_add_120 rfl (lv_at hl 2 rfl) ?_
      refine lv_iload_n hx hb dX4_add_121 rfl (lv_at hl 3 rfl) ?_
      have hPc := hP.sub (ws' := []) [] rfl
      refine vp_callSi (va_runS (As := [.int (nM z1), .int (nI pl), .int (nI wd)]) (rest := [.ref sc]) ⟨hx, hb, hml, hown, htb⟩ (qc_T_code l G (nM z1) (nI pl) (nI wd)) (va_cwS 3 htb (qW_S qw_186 qw_187 qw_15 qw_188) rfl rfl rfl (by decide +kernel) ⟨Nat.le_of_ble_eq_true rfl, Nat.le_of_ble_eq_true rfl⟩) (qk_ps hK hPc hN) rfl rfl hl.1 rfl (lv_room (Nat.le_of_ble_eq_true rfl)) dX4_add_122 ⟨Nat.le_of_ble_eq_true rfl, Nat.le_of_ble_eq_true rfl⟩).run (fun r_122 e_122 => ?_)
      subst e_122
      have hPc := hP.sub (ws' := [(sc, .inr (3, [.ref q2, .int (nI n)])), (q2, .inl (G.2.1, 200, .inl f2))]) [7, 8] rfl
      have hDc := hD.sub (ws' := [(sc, .inr (3, [.ref q2, .int (nI n)])), (q2, .inl (G.2.1, 200, .inl f2))]) [7, 8] (by decide) rfl
      have hFc := va_free (wc := [(sc, .inr (3, [.ref q2, .int (nI n)])), (q2, .inl (G.2.1, 200, .inl f2))]) hD hS hA [7, 8] rfl
      refine va_callv (va_runV (As := [.int (qm_code (nM z1) (nI pl) (nI wd))]) (rest := []) ⟨hx, hb, hml, hown, htb⟩ (qc_S_put l G sc q2 n f2 (qm_code (nM z1) (nI pl) (nI wd)) H.size hn) (cwV 1 htb (qW_V qw_182 qw_183 qw_184 qw_16 qw_185) rfl rfl rfl (by decide +kernel) ⟨Nat.le_of_ble_eq_true rfl, Nat.le_of_ble_eq_true rfl⟩) (qk_pvw (ci := 3) (q0 := 0) hK hPc hN hDc rfl rfl) rfl rfl hl.1 rfl (lv_room (Nat.le_of_ble_eq_true rfl)) dX4_add_125 ⟨Nat.le_of_ble_eq_true rfl, Nat.le_of_ble_eq_true rfl⟩) hS (fun q _ h => hFc q h) hFc (fun u_125 t9 H1 locs ht9 hvm w_125 hB hz1 hk1 hS => ?_)
      obtain ⟨v_125, rfl⟩ : ∃ z, z = u_125 := ⟨_, rfl⟩
      obtain ⟨hP1, hK1, hD1⟩ := hB
      rw [ht9] at hP1
      obtain ⟨hP, hD⟩ := va_join (wr := [(h0, .inr (4, [.ref qr, .ref qp, .ref qd, .ref qc, .ref qf, .ref qt, .ref sp, .ref sc, .int (nI n)])), (qr, .inl (G.2.1, 200, .inl (upd fr n (nM z1)))), (qp, .inl (G.2.1, 200, .inl (upd fp n (nI pl)))), (qd, .inl (G.2.1, 200, .inl (upd fd n (nI wd)))), (qc, .inl (G.2.1, 200, .inl (upd fc n (nI pr)))), (qf, .inl (G.2.2.2.1, 200, .inl (upd ff n bv))), (qt, .inl (G.2.2.1, 201, .inr (.inl (vp_updL ft (n + 1) (lN (tt + pr)))))), (sp, .inr (3, [.ref q1, .int (nI (n + 1))])), (q1, .inl (G.2.1, 200, .inl v_112))]) (w1 := [(sc, .inr (3, [.ref q2, .int (nI (n + 1))])), (q2, .inl (G.2.1, 200, .inl v_125))]) hP hD [7, 8] [0, 1, 2, 3, 4, 5, 6, 9, 10] rfl rfl (by decide) (by decide) hk1 hFc hP1 hD1
      generalize H1 = H at hP hS ⊢
      have hP : va_P G.1 vwCl [(h0, .inr (4, [.ref qr, .ref qp, .ref qd, .ref qc, .ref qf, .ref qt, .ref sp, .ref sc, .int (nI n)])), (qr, .inl (G.2.1, 200, .inl (upd fr n (nM z1)))), (qp, .inl (G.2.1, 200, .inl (upd fp n (nI pl)))), (qd, .inl (G.2.1, 200, .inl (upd fd n (nI wd)))), (qc, .inl (G.2.1, 200, .inl (upd fc n (nI pr)))), (qf, .inl (G.2.2.2.1, 200, .inl (upd ff n bv))), (qt, .inl (G.2.2.1, 201, .inr (.inl (vp_updL ft (n + 1) (lN (tt + pr)))))), (sp, .inr (3, [.ref q1, .int (nI (n + 1))])), (q1, .inl (G.2.1, 200, .inl v_112)), (sc, .inr (3, [.ref q2, .int (nI (n + 1))])), (q2, .inl (G.2.1, 200, .inl v_125))] H := hP
      have hD : va_D A [(h0, .inr (4, [.ref qr, .ref qp, .ref qd, .ref qc, .ref qf, .ref qt, .ref sp, .ref sc, .int (nI n)])), (qr, .inl (G.2.1, 200, .inl (upd fr n (nM z1)))), (qp, .inl (G.2.1, 200, .inl (upd fp n (nI pl)))), (qd, .inl (G.2.1, 200, .inl (upd fd n (nI wd)))), (qc, .inl (G.2.1, 200, .inl (upd fc n (nI pr)))), (qf, .inl (G.2.2.2.1, 200, .inl (upd ff n bv))), (qt, .inl (G.2.2.1, 201, .inr (.inl (vp_updL ft (n + 1) (lN (tt + pr)))))), (sp, .inr (3, [.ref q1, .int (nI (n + 1))])), (q1, .inl (G.2.1, 200, .inl v_112)), (sc, .inr (3, [.ref q2, .int (nI (n + 1))])), (q2, .inl (G.2.1, 200, .inl v_125))] := hD
      refine lv_aload_n hx hb dX4_add_128 rfl (lv_at hl 0 rfl) ?_
      refine lv_dup hx hb dX4_add_129 rfl ?_
      refine va_get (D := G.1) (ci := 4) (v := .int (nI n)) (C := "GradeRows$Steps") (T := TX4) (N := 9) hx hb htb inX4 hown hK hP 0 rfl rfl 8 (by decide) (htb _ qw_83) (fun _ h9 => h9) rfl dX4_add_130 ?_
      refine lv_iconst (v := nI 1) hx hb dX4_add_133 (by decide) ?_
      refine lv_iadd hx hb dX4_add_134 ?_
      refine qk_topi (t := nI (n + 1)) (nI_add _ _) ?_
      refine va_put (D := G.1) (ci := 4) (v := .int (nI (n + 1))) (ty := .int) (C := "GradeRows$Steps") (T := TX4) (N := 9) hx hb htb inX4 tyX4 tyX4_ok nmX4 hown hK hP hD hS 0 rfl rfl 8 (by decide) (htb _ qw_83) (fun _ h9 => h9) rfl (by decide +kernel) rfl rfl (Nat.le_of_ble_eq_true rfl) dX4_add_135 (fun H locs hP hD hS => ?_)
      have hP : va_P G.1 vwCl [(h0, .inr (4, [.ref qr, .ref qp, .ref qd, .ref qc, .ref qf, .ref qt, .ref sp, .ref sc, .int (nI (n + 1))])), (qr, .inl (G.2.1, 200, .inl (upd fr n (nM z1)))), (qp, .inl (G.2.1, 200, .inl (upd fp n (nI pl)))), (qd, .inl (G.2.1, 200, .inl (upd fd n (nI wd)))), (qc, .inl (G.2.1, 200, .inl (upd fc n (nI pr)))), (qf, .inl (G.2.2.2.1, 200, .inl (upd ff n bv))), (qt, .inl (G.2.2.1, 201, .inr (.inl (vp_updL ft (n + 1) (lN (tt + pr)))))), (sp, .inr (3, [.ref q1, .int (nI (n + 1))])), (q1, .inl (G.2.1, 200, .inl v_112)), (sc, .inr (3, [.ref q2, .int (nI (n + 1))])), (q2, .inl (G.2.1, 200, .inl v_125))] H := hP
      have hD : va_D A [(h0, .inr (4, [.ref qr, .ref qp, .ref qd, .ref qc, .ref qf, .ref qt, .ref sp, .ref sc, .int (nI (n + 1))])), (qr, .inl (G.2.1, 200, .inl (upd fr n (nM z1)))), (qp, .inl (G.2.1, 200, .inl (upd fp n (nI pl)))), (qd, .inl (G.2.1, 200, .inl (upd fd n (nI wd)))), (qc, .inl (G.2.1, 200, .inl (upd fc n (nI pr)))), (qf, .inl (G.2.2.2.1, 200, .inl (upd ff n bv))), (qt, .inl (G.2.2.1, 201, .inr (.inl (vp_updL ft (n + 1) (lN (tt + pr)))))), (sp, .inr (3, [.ref q1, .int (nI (n + 1))])), (q1, .inl (G.2.1, 200, .inl v_112)), (sc, .inr (3, [.ref q2, .int (nI (n + 1))])), (q2, .inl (G.2.1, 200, .inl v_125))] := hD
      refine lv_aload_n hx hb dX4_add_138 rfl (lv_at hl 0 rfl) ?_
      refine va_get (D := G.1) (ci := 4) (v := .int (nI (n + 1))) (C := "GradeRows$Steps") (T := TX4) (N := 9) hx hb htb inX4 hown hK hP 0 rfl rfl 8 (by decide) (htb _ qw_83) (fun _ h9 => h9) rfl dX4_add_139 ?_
      refine lv_iconst (v := nI 1) hx hb dX4_add_142 (by decide) ?_
      refine lv_isub hx hb dX4_add_143 ?_
      refine qk_topi (t := nI n) (nI_pred n) ?_
      have hP9 := hP.sub (ws' := [(h0, .inr (4, [.ref qr, .ref qp, .ref qd, .ref qc, .ref qf, .ref qt, .ref sp, .ref sc, .int (nI (n + 1))])), (qr, .inl (G.2.1, 200, .inl (upd fr n (nM z1)))), (qp, .inl (G.2.1, 200, .inl (upd fp n (nI pl)))), (qd, .inl (G.2.1, 200, .inl (upd fd n (nI wd)))), (qc, .inl (G.2.1, 200, .inl (upd fc n (nI pr)))), (qf, .inl (G.2.2.2.1, 200, .inl (upd ff n bv))), (qt, .inl (G.2.2.1, 201, .inr (.inl (vp_updL ft (n + 1) (lN (tt + pr)))))), (sp, .inr (3, [.ref q1, .int (nI (n + 1))])), (q1, .inl (G.2.1, 200, .inl v_112)), (sc, .inr (3, [.ref q2, .int (nI (n + 1))])), (q2, .inl (G.2.1, 200, .inl v_125))]) [0, 1, 2, 3, 4, 5, 6, 7, 8, 9, 10] rfl
      have hD9 := hD.sub (ws' := [(h0, .inr (4, [.ref qr, .ref qp, .ref qd, .ref qc, .ref qf, .ref qt, .ref sp, .ref sc, .int (nI (n + 1))])), (qr, .inl (G.2.1, 200, .inl (upd fr n (nM z1)))), (qp, .inl (G.2.1, 200, .inl (upd fp n (nI pl)))), (qd, .inl (G.2.1, 200, .inl (upd fd n (nI wd)))), (qc, .inl (G.2.1, 200, .inl (upd fc n (nI pr)))), (qf, .inl (G.2.2.2.1, 200, .inl (upd ff n bv))), (qt, .inl (G.2.2.1, 201, .inr (.inl (vp_updL ft (n + 1) (lN (tt + pr)))))), (sp, .inr (3, [.ref q1, .int (nI (n + 1))])), (q1, .inl (G.2.1, 200, .inl v_112)), (sc, .inr (3, [.ref q2, .int (nI (n + 1))])), (q2, .inl (G.2.1, 200, .inl v_125))]) [0, 1, 2, 3, 4, 5, 6, 7, 8, 9, 10] (by decide) rfl
      exact W.iret (v := nI n) hx hb hr (fun t9 ht9 hW9 => ⟨⟨_, (bv, v_112, v_125), rfl, ⟨rfl, hbv, w_112, w_125⟩, by rw [ht9]; exact hP9, va_K.moved hW9.alike hK, hD9⟩, hS.F ht9⟩) hS.2.2 dX4_add_144
    refine lv_iload_n hx hb dX4_add_58 rfl (lv_at hl 1 rfl) ?_
    refine lv_iconst (v := (-1)) hx hb dX4_add_59 (by decide) ?_
    refine lv_icmp_eq (tgt := 80) hx hb dX4_add_60 (by decide) (fun c1 => ?_) (fun c1 => ?_)
    · have c1 : z1 = 0 := (nM_eq1 (by omega)).mp c1
      refine lv_iconst (v := nI 0) hx hb dX4_add_80 (by decide) ?_
      exact join_81 (nI 0) ls (if_neg (by first | (intro h; exact h.1 c1) | (intro h; exact c2 h.2.1) | (intro h; exact h.2.2 c3))).symm (by decide) (lv_sub hl [0, 1, 2, 3, 4] rfl)
    · have c1 : ¬ (z1 = 0) := fun q9 => c1 ((nM_eq1 (by omega)).mpr q9)
      refine lv_iload_n hx hb dX4_add_63 rfl (lv_at hl 3 rfl) ?_
      refine lv_iconst (v := nI 1) hx hb dX4_add_64 (by decide) ?_
      refine lv_icmp_ne (tgt := 80) hx hb dX4_add_65 (by decide) (fun c2 => ?_) (fun c2 => ?_)
      · have c2 : ¬ (wd = 1) := fun q9 => c2 ((nI_eq (by omega) (by omega)).mpr q9)
        refine lv_iconst (v := nI 0) hx hb dX4_add_80 (by decide) ?_
        exact join_81 (nI 0) ls (if_neg (by first | (intro h; exact h.1 c1) | (intro h; exact c2 h.2.1) | (intro h; exact h.2.2 c3))).symm (by decide) (lv_sub hl [0, 1, 2, 3, 4] rfl)
      · have c2 : wd = 1 := (nI_eq (by omega) (by omega)).mp c2
        refine lv_aload_n hx hb dX4_add_68 rfl (lv_at hl 0 rfl) ?_
        refine lv_iload_n hx hb dX4_add_69 rfl (lv_at hl 2 rfl) ?_
        have hPc := hP.sub (ws' := [(h0, .inr (4, [.ref qr, .ref qp, .ref qd, .ref qc, .ref qf, .ref qt, .ref sp, .ref sc, .int (nI n)])), (qp, .inl (G.2.1, 200, .inl (upd fp n (nI pl)))), (qf, .inl (G.2.2.2.1, 200, .inl ff))]) [0, 2, 5] rfl
        refine vp_callSi (va_runV (As := [.int (nI pl)]) (rest := [.int (nI n), .ref qf]) ⟨hx, hb, hml, hown, htb⟩ (qc_T_was l G h0 qr qp qd qc qf qt sp sc n (upd fp n (nI pl)) ff s pl (by omega) hf (fun i hi => (pk_un (by omega)).trans (hp i hi)) hbp hpl) (cwV 1 htb (qW_V qw_178 qw_180 qw_0 qw_15 qw_181) rfl rfl rfl (by decide +kernel) ⟨Nat.le_of_ble_eq_true rfl, Nat.le_of_ble_eq_true rfl⟩) (qk_pv (ci := 4) (q0 := 0) hK hPc hN rfl rfl) rfl rfl hl.1 rfl (lv_room (Nat.le_of_ble_eq_true rfl)) dX4_add_70 ⟨Nat.le_of_ble_eq_true rfl, Nat.le_of_ble_eq_true rfl⟩).run (fun r_70 e_70 => ?_)
        subst e_70
        refine lv_if_ne (tgt := 80) hx hb dX4_add_73 (by decide) (fun c3 => ?_) (fun c3 => ?_)
        · have c3 : qm_wasF s pl n = true := qk_ite0.mp c3
          refine lv_iconst (v := nI 0) hx hb dX4_add_80 (by decide) ?_
          exact join_81 (nI 0) ls (if_neg (by first | (intro h; exact h.1 c1) | (intro h; exact c2 h.2.1) | (intro h; exact h.2.2 c3))).symm (by decide) (lv_sub hl [0, 1, 2, 3, 4] rfl)
        · have c3 : ¬ (qm_wasF s pl n = true) := fun q9 => qk_ite0.mpr q9 c3
          refine lv_iconst (v := nI 1) hx hb dX4_add_76 (by decide) ?_
          refine lv_goto (tgt := 81) hx hb dX4_add_77 (by decide) ?_
          exact join_81 (nI 1) ls (if_pos ⟨c1, c2, c3⟩).symm (by decide) (lv_sub hl [0, 1, 2, 3, 4] rfl)
  · have c_1 : ¬ (0 = 0) := fun q9 => c_1 ((z0eq (by omega)).mpr q9)
    exfalso; omega

set_option maxHeartbeats 4000000 in
set_option maxRecDepth 100000 in
/-- Steps.removeLast -/
theorem qc_T_rem (l : Launch) (G : qG) (h0 : Nat) (qr : Nat) (qp : Nat) (qd : Nat) (qc : Nat) (qf : Nat) (qt : Nat) (sp : Nat) (sc : Nat) (n : Nat) (fr : Nat → Int32) (fp : Nat → Int32) (fd : Nat → Int32) (fc : Nat → Int32) (q1 : Nat) (f1 : Nat → Int32) (q2 : Nat) (f2 : Nat → Int32) (z1 : Nat) (pl : Nat) (wd : Nat) (pr : Nat) (sz : Nat) (hn : n < 200) (hr1 : fr n = nM z1) (hp1 : fp n = nI pl) (hd1 : fd n = nI wd) (hc1 : fc n = nI pr) (he1 : ∃ k, k < n + 1 ∧ f1 k = nI pr) (he2 : ∃ k, k < n + 1 ∧ f2 k = qm_code (nM z1) (nI pl) (nI wd)) : Met l yX4_removeLast wsX4_removeLast ({ frames := 1, cells := 0, slots := 0, locals := 23 } : Room) (va_Pc [.ref h0] (qk_prw G vwCl [(h0, .inr (4, [.ref qr, .ref qp, .ref qd, .ref qc, .ref qf, .ref qt, .ref sp, .ref sc, .int (nI (n + 1))])), (qr, .inl (G.2.1, 200, .inl fr)), (qp, .inl (G.2.1, 200, .inl fp)), (qd, .inl (G.2.1, 200, .inl fd)), (qc, .inl (G.2.1, 200, .inl fc)), (sp, .inr (3, [.ref q1, .int (nI (n + 1))])), (q1, .inl (G.2.1, 200, .inl f1)), (sc, .inr (3, [.ref q2, .int (nI (n + 1))])), (q2, .inl (G.2.1, 200, .inl f2))] sz)) (va_Qv (fun (u : (Nat → Int32) × (Nat → Int32)) => qm_del f1 n (nI pr) u.1 ∧ qm_del f2 n (qm_code (nM z1) (nI pl) (nI wd)) u.2) (qk_B G vwCl (va_A [(h0, .inr (4, [.ref qr, .ref qp, .ref qd, .ref qc, .ref qf, .ref qt, .ref sp, .ref sc, .int (nI (n + 1))])), (qr, .inl (G.2.1, 200, .inl fr)), (qp, .inl (G.2.1, 200, .inl fp)), (qd, .inl (G.2.1, 200, .inl fd)), (qc, .inl (G.2.1, 200, .inl fc)), (sp, .inr (3, [.ref q1, .int (nI (n + 1))])), (q1, .inl (G.2.1, 200, .inl f1)), (sc, .inr (3, [.ref q2, .int (nI (n + 1))])), (q2, .inl (G.2.1, 200, .inl f2))] sz) (fun (u : (Nat → Int32) × (Nat → Int32)) => [(h0, .inr (4, [.ref qr, .ref qp, .ref qd, .ref qc, .ref qf, .ref qt, .ref sp, .ref sc, .int (nI n)])), (qr, .inl (G.2.1, 200, .inl fr)), (qp, .inl (G.2.1, 200, .inl fp)), (qd, .inl (G.2.1, 200, .inl fd)), (qc, .inl (G.2.1, 200, .inl fc)), (sp, .inr (3, [.ref q1, .int (nI n)])), (q1, .inl (G.2.1, 200, .inl u.1)), (sc, .inr (3, [.ref q2, .int (nI n)])), (q2, .inl (G.2.1, 200, .inl u.2))])) (va_A [(h0, .inr (4, [.ref qr, .ref qp, .ref qd, .ref qc, .ref qf, .ref qt, .ref sp, .ref sc, .int (nI (n + 1))])), (qr, .inl (G.2.1, 200, .inl fr)), (qp, .inl (G.2.1, 200, .inl fp)), (qd, .inl (G.2.1, 200, .inl fd)), (qc, .inl (G.2.1, 200, .inl fc)), (sp, .inr (3, [.ref q1, .int (nI (n + 1))])), (q1, .inl (G.2.1, 200, .inl f1)), (sc, .inr (3, [.ref q2, .int (nI (n + 1))])), (q2, .inl (G.2.1, 200, .inl f2))] sz)) 0 0 (va_A [(h0, .inr (4, [.ref qr, .ref qp, .ref qd, .ref qc, .ref qf, .ref qt, .ref sp, .ref sc, .int (nI (n + 1))])), (qr, .inl (G.2.1, 200, .inl fr)), (qp, .inl (G.2.1, 200, .inl fp)), (qd, .inl (G.2.1, 200, .inl fd)), (qc, .inl (G.2.1, 200, .inl fc)), (sp, .inr (3, [.ref q1, .int (nI (n + 1))])), (q1, .inl (G.2.1, 200, .inl f1)), (sc, .inr (3, [.ref q2, .int (nI (n + 1))])), (q2, .inl (G.2.1, 200, .inl f2))] sz) := by
  refine Met.ofW (cc := cX4_removeLast) (maxL := 1) (ret := none) (by decide) rfl ?_
  intro p e s m args below meth c s₁ B hml hv
  obtain ⟨rfl, hsz, hP, hK, hD0, hN⟩ := hv
  have hx := B.exec
  have hb := B.bytes
  have hr := B.returns
  have hlocks := B.notSynchronized
  have hts := atoms_spec (ws := wsX4_removeLast) B.pre
  have htb := fun (w : Cond) (h : w ∈ qTb) => hts w (List.mem_cons_of_mem _ h)
  have hown : s.vm.findClass "GradeRows$Steps" = some m.cls := findClass_of_methodNamed B.named
  subst hsz
  have hD := hD0.self (sz := s.heap.size)
  generalize hAe : va_A [(h0, .inr (4, [.ref qr, .ref qp, .ref qd, .ref qc, .ref qf, .ref qt, .ref sp, .ref sc, .int (nI (n + 1))])), (qr, .inl (G.2.1, 200, .inl fr)), (qp, .inl (G.2.1, 200, .inl fp)), (qd, .inl (G.2.1, 200, .inl fd)), (qc, .inl (G.2.1, 200, .inl fc)), (sp, .inr (3, [.ref q1, .int (nI (n + 1))])), (q1, .inl (G.2.1, 200, .inl f1)), (sc, .inr (3, [.ref q2, .int (nI (n + 1))])), (q2, .inl (G.2.1, 200, .inl f2))] s.heap.size = A at hD ⊢
  have hA : ∀ q : Nat, s.heap.size ≤ q → A q := fun q h => by rw [← hAe]; exact Or.inr h
  have hS : va_S A s.heap s.heap [] := va_S.rf
  have hP : va_P G.1 vwCl [(h0, .inr (4, [.ref qr, .ref qp, .ref qd, .ref qc, .ref qf, .ref qt, .ref sp, .ref sc, .int (nI (n + 1))])), (qr, .inl (G.2.1, 200, .inl fr)), (qp, .inl (G.2.1, 200, .inl fp)), (qd, .inl (G.2.1, 200, .inl fd)), (qc, .inl (G.2.1, 200, .inl fc)), (sp, .inr (3, [.ref q1, .int (nI (n + 1))])), (q1, .inl (G.2.1, 200, .inl f1)), (sc, .inr (3, [.ref q2, .int (nI (n + 1))])), (q2, .inl (G.2.1, 200, .inl f2))] s.heap := hP
  have hl := lv_entry ([.ref h0]) (n := 1) (Nat.le_of_ble_eq_true rfl)
  rw [lg_entry_eq]
  generalize (lg_sl ([.ref h0]) ++ List.replicate (1 - (lg_sl ([.ref h0])).length) Slot.unset).toArray = ls at hl ⊢
  have hl : lv_has ls 1 [(0, .ref h0)] := hl
  refine lv_aload_n hx hb dX4_removeLast_0 rfl (lv_at hl 0 rfl) ?_
  refine va_get (D := G.1) (ci := 4) (v := .int (nI (n + 1))) (C := "GradeRows$Steps") (T := TX4) (N := 9) hx hb htb inX4 hown hK hP 0 rfl rfl 8 (by decide) (htb _ qw_83) (fun _ h9 => h9) rfl dX4_removeLast_1 ?_
  refine lv_if_le (tgt := 70) hx hb dX4_removeLast_4 (by decide) (fun c_1 => ?_) (fun c_1 => ?_)
  · have c_1 : (n + 1) ≤ 0 := (z0le (by omega)).mp c_1
    exfalso; omega
  · have c_1 : ¬ ((n + 1) ≤ 0) := fun q9 => c_1 ((z0le (by omega)).mpr q9)
    refine lv_aload_n hx hb dX4_removeLast_7 rfl (lv_at hl 0 rfl) ?_
    refine lv_dup hx hb dX4_removeLast_8 rfl ?_
    refine va_get (D := G.1) (ci := 4) (v := .int (nI (n + 1))) (C := "GradeRows$Steps") (T := TX4) (N := 9) hx hb htb inX4 hown hK hP 0 rfl rfl 8 (by decide) (htb _ qw_83) (fun _ h9 => h9) rfl dX4_removeLast_9 ?_
    refine lv_iconst (v := nI 1) hx hb dX4_removeLast_12 (by decide) ?_
    refine lv_isub hx hb dX4_removeLast_13 ?_
    refine qk_topi (t := nI n) (nI_pred n) ?_
    refine va_put (D := G.1) (ci := 4) (v := .int (nI n)) (ty := .int) (C := "GradeRows$Steps") (T := TX4) (N := 9) hx hb htb inX4 tyX4 tyX4_ok nmX4 hown hK hP hD hS 0 rfl rfl 8 (by decide) (htb _ qw_83) (fun _ h9 => h9) rfl (by decide +kernel) rfl rfl (Nat.le_of_ble_eq_true rfl) dX4_removeLast_14 (fun H locs hP hD hS => ?_)
    have hP : va_P G.1 vwCl [(h0, .inr (4, [.ref qr, .ref qp, .ref qd, .ref qc, .ref qf, .ref qt, .ref sp, .ref sc, .int (nI n)])), (qr, .inl (G.2.1, 200, .inl fr)), (qp, .inl (G.2.1, 200, .inl fp)), (qd, .inl (G.2.1, 200, .inl fd)), (qc, .inl (G.2.1, 200, .inl fc)), (sp, .inr (3, [.ref q1, .int (nI (n + 1))])), (q1, .inl (G.2.1, 200, .inl f1)), (sc, .inr (3, [.ref q2, .int (nI (n + 1))])), (q2, .inl (G.2.1, 200, .inl f2))] H := hP
    have hD : va_D A [(h0, .inr (4, [.ref qr, .ref qp, .ref qd, .ref qc, .ref qf, .ref qt, .ref sp, .ref sc, .int (nI n)])), (qr, .inl (G.2.1, 200, .inl fr)), (qp, .inl (G.2.1, 200, .inl fp)), (qd, .inl (G.2.1, 200, .inl fd)), (qc, .inl (G.2.1, 200, .inl fc)), (sp, .inr (3, [.ref q1, .int (nI (n + 1))])), (q1, .inl (G.2.1, 200, .inl f1)), (sc, .inr (3, [.ref q2, .int (nI (n + 1))])), (q2, .inl (G.2.1, 200, .inl f2))] := hD
    refine lv_aload_n hx hb dX4_removeLast_17 rfl (lv_at hl 0 rfl) ?_
    refine va_get (D := G.1) (ci := 4) (v := .ref sp) (C := "GradeRows$Steps") (T := TX4) (N := 9) hx hb htb inX4 hown hK hP 0 rfl rfl 6 (by decide) (htb _ qw_81) (fun _ h9 => h9) rfl dX4_removeLast_18 ?_
    refine lv_aload_n hx hb dX4_removeLast_21 rfl (lv_at hl 0 rfl) ?_
    refine va_get (D := G.1) (ci := 4) (v := .ref qc) (C := "GradeRows$Steps") (T := TX4) (N := 9) hx hb htb inX4 hown hK hP 0 rfl rfl 3 (by decide) (htb _ qw_78) (fun _ h9 => h9) rfl dX4_removeLast_22 ?_
    refine lv_aload_n hx hb dX4_removeLast_25 rfl (lv_at hl 0 rfl) ?_
    refine va_get (D := G.1) (ci := 4) (v := .int (nI n)) (C := "GradeRows$Steps") (T := TX4) (N := 9) hx hb htb inX4 hown hK hP 0 rfl rfl 8 (by decide) (htb _ qw_83) (fun _ h9 => h9) rfl dX4_removeLast_26 ?_
    refine qk_iald hx hb hK hP 4 0 rfl rfl (i := n) (by omega) (by omega) (v := nI pr) hc1 dX4_removeLast_29 ?_
    have hPc := hP.sub (ws' := [(sp, .inr (3, [.ref q1, .int (nI (n + 1))])), (q1, .inl (G.2.1, 200, .inl f1))]) [5, 6] rfl
    have hDc := hD.sub (ws' := [(sp, .inr (3, [.ref q1, .int (nI (n + 1))])), (q1, .inl (G.2.1, 200, .inl f1))]) [5, 6] (by decide) rfl
    have hFc := va_free (wc := [(sp, .inr (3, [.ref q1, .int (nI (n + 1))])), (q1, .inl (G.2.1, 200, .inl f1))]) hD hS hA [5, 6] rfl
    refine va_callv (va_runV (As := [.int (nI pr)]) (rest := []) ⟨hx, hb, hml, hown, htb⟩ (qc_S_take l G sp q1 n f1 (nI pr) H.size hn he1) (cwV 1 htb (qW_V qw_231 qw_232 qw_233 qw_16 qw_234) rfl rfl rfl (by decide +kernel) ⟨Nat.le_of_ble_eq_true rfl, Nat.le_of_ble_eq_true rfl⟩) (qk_pvw (ci := 3) (q0 := 0) hK hPc hN hDc rfl rfl) rfl rfl hl.1 rfl (lv_room (Nat.le_of_ble_eq_true rfl)) dX4_removeLast_30 ⟨Nat.le_of_ble_eq_true rfl, Nat.le_of_ble_eq_true rfl⟩) hS (fun q _ h => hFc q h) hFc (fun u_30 t9 H1 locs ht9 hvm w_30 hB hz1 hk1 hS => ?_)
    obtain ⟨v_30, rfl⟩ : ∃ z, z = u_30 := ⟨_, rfl⟩
    obtain ⟨hP1, hK1, hD1⟩ := hB
    rw [ht9] at hP1
    obtain ⟨hP, hD⟩ := va_join (wr := [(h0, .inr (4, [.ref qr, .ref qp, .ref qd, .ref qc, .ref qf, .ref qt, .ref sp, .ref sc, .int (nI n)])), (qr, .inl (G.2.1, 200, .inl fr)), (qp, .inl (G.2.1, 200, .inl fp)), (qd, .inl (G.2.1, 200, .inl fd)), (qc, .inl (G.2.1, 200, .inl fc)), (sc, .inr (3, [.ref q2, .int (nI (n + 1))])), (q2, .inl (G.2.1, 200, .inl f2))]) (w1 := [(sp, .inr (3, [.ref q1, .int (nI n)])), (q1, .inl (G.2.1, 200, .inl v_30))]) hP hD [5, 6] [0, 1, 2, 3, 4, 7, 8] rfl rfl (by decide) (by decide) hk1 hFc hP1 hD1
    generalize H1 = H at hP hS ⊢
    have hP : va_P G.1 vwCl [(h0, .inr (4, [.ref qr, .ref qp, .ref qd, .ref qc, .ref qf, .ref qt, .ref sp, .ref sc, .int (nI n)])), (qr, .inl (G.2.1, 200, .inl fr)), (qp, .inl (G.2.1, 200, .inl fp)), (qd, .inl (G.2.1, 200, .inl fd)), (qc, .inl (G.2.1, 200, .inl fc)), (sc, .inr (3, [.ref q2, .int (nI (n + 1))])), (q2, .inl (G.2.1, 200, .inl f2)), (sp, .inr (3, [.ref q1, .int (nI n)])), (q1, .inl (G.2.1, 200, .inl v_30))] H := hP
    have hD : va_D A [(h0, .inr (4, [.ref qr, .ref qp, .ref qd, .ref qc, .ref qf, .ref qt, .ref sp, .ref sc, .int (nI n)])), (qr, .inl (G.2.1, 200, .inl fr)), (qp, .inl (G.2.1, 200, .inl fp)), (qd, .inl (G.2.1, 200, .inl fd)), (qc, .inl (G.2.1, 200, .inl fc)), (sc, .inr (3, [.ref q2, .int (nI (n + 1))])), (q2, .inl (G.2.1, 200, .inl f2)), (sp, .inr (3, [.ref q1, .int (nI n)])), (q1, .inl (G.2.1, 200, .inl v_30))] := hD
    refine lv_aload_n hx hb dX4_removeLast_33 rfl (lv_at hl 0 rfl) ?_
    refine va_get (D := G.1) (ci := 4) (v := .ref sc) (C := "GradeRows$Steps") (T := TX4) (N := 9) hx hb htb inX4 hown hK hP 0 rfl rfl 7 (by decide) (htb _ qw_82) (fun _ h9 => h9) rfl dX4_removeLast_34 ?_
    refine lv_aload_n hx hb dX4_removeLast_37 rfl (lv_at hl 0 rfl) ?_
    refine va_get (D := G.1) (ci := 4) (v := .ref qr) (C := "GradeRows$Steps") (T := TX4) (N := 9) hx hb htb inX4 hown hK hP 0 rfl rfl 0 (by decide) (htb _ qw_75) (fun _ h9 => h9) rfl dX4_removeLast_38 ?_
    refine lv_aload_n hx hb dX4_removeLast_41 rfl (lv_at hl 0 rfl) ?_
    refine va_get (D := G.1) (ci := 4) (v := .int (nI n)) (C := "GradeRows$Steps") (T := TX4) (N := 9) hx hb htb inX4 hown hK hP 0 rfl rfl 8 (by decide) (htb _ qw_83) (fun _ h9 => h9) rfl dX4_removeLast_42 ?_
    refine qk_iald hx hb hK hP 1 0 rfl rfl (i := n) (by omega) (by omega) (v := nM z1) hr1 dX4_removeLast_45 ?_
    refine lv_aload_n hx hb dX4_removeLast_46 rfl (lv_at hl 0 rfl) ?_
    refine va_get (D := G.1) (ci := 4) (v := .ref qp) (C := "GradeRows$Steps") (T := TX4) (N := 9) hx hb htb inX4 hown hK hP 0 rfl rfl 1 (by decide) (htb _ qw_76) (fun _ h9 => h9) rfl dX4_removeLast_47 ?_
    refine lv_aload_n hx hb dX4_removeLast_50 rfl (lv_at hl 0 rfl) ?_
    refine va_get (D := G.1) (ci := 4) (v := .int (nI n)) (C := "GradeRows$Steps") (T := TX4) (N := 9) hx hb htb inX4 hown hK hP 0 rfl rfl 8 (by decide) (htb _ qw_83) (fun _ h9 => h9) rfl dX4_removeLast_51 ?_
    refine qk_iald hx hb hK hP 2 0 rfl rfl (i := n) (by omega) (by omega) (v := nI pl) hp1 dX4_removeLast_54 ?_
    refine lv_aload_n hx hb dX4_removeLast_55 rfl (lv_at hl 0 rfl) ?_
    refine va_get (D := G.1) (ci := 4) (v := .ref qd) (C := "GradeRows$Steps") (T := TX4) (N := 9) hx hb htb inX4 hown hK hP 0 rfl rfl 2 (by decide) (htb _ qw_77) (fun _ h9 => h9) rfl dX4_removeLast_56 ?_
    refine lv_aload_n hx hb dX4_removeLast_59 rfl (lv_at hl 0 rfl) ?_
    refine va_get (D := G.1) (ci := 4) (v := .int (nI n)) (C := "GradeRows$Steps") (T := TX4) (N := 9) hx hb htb inX4 hown hK hP 0 rfl rfl 8 (by decide) (htb _ qw_83) (fun _ h9 => h9) rfl dX4_removeLast_60 ?_
    refine qk_iald hx hb hK hP 3 0 rfl rfl (i := n) (by omega) (by omega) (v := nI wd) hd1 dX4_removeLast_63 ?_
    have hPc := hP.sub (ws' := []) [] rfl
    refine vp_callSi (va_runS (As := [.int (nM z1), .int (nI pl), .int (nI wd)]) (rest := [.ref sc]) ⟨hx, hb, hml, hown, htb⟩ (qc_T_code l G (nM z1) (nI pl) (nI wd)) (va_cwS 3 htb (qW_S qw_186 qw_187 qw_15 qw_188) rfl rfl rfl (by decide +kernel) ⟨Nat.le_of_ble_eq_true rfl, Nat.le_of_ble_eq_true rfl⟩) (qk_ps hK hPc hN) rfl rfl hl.1 rfl (lv_room (Nat.le_of_ble_eq_true rfl)) dX4_removeLast_64 ⟨Nat.le_of_ble_eq_true rfl, Nat.le_of_ble_eq_true rfl⟩).run (fun r_64 e_64 => ?_)
    subst e_64
    have hPc := hP.sub (ws' := [(sc, .inr (3, [.ref q2, .int (nI (n + 1))])), (q2, .inl (G.2.1, 200, .inl f2))]) [5, 6] rfl
    have hDc := hD.sub (ws' := [(sc, .inr (3, [.ref q2, .int (nI (n + 1))])), (q2, .inl (G.2.1, 200, .inl f2))]) [5, 6] (by decide) rfl
    have hFc := va_free (wc := [(sc, .inr (3, [.ref q2, .int (nI (n + 1))])), (q2, .inl (G.2.1, 200, .inl f2))]) hD hS hA [5, 6] rfl
    refine va_callv (va_runV (As := [.int (qm_code (nM z1) (nI pl) (nI wd))]) (rest := []) ⟨hx, hb, hml, hown, htb⟩ (qc_S_take l G sc q2 n f2 (qm_code (nM z1) (nI pl) (nI wd)) H.size hn he2) (cwV 1 htb (qW_V qw_231 qw_232 qw_233 qw_16 qw_234) rfl rfl rfl (by decide +kernel) ⟨Nat.le_of_ble_eq_true rfl, Nat.le_of_ble_eq_true rfl⟩) (qk_pvw (ci := 3) (q0 := 0) hK hPc hN hDc rfl rfl) rfl rfl hl.1 rfl (lv_room (Nat.le_of_ble_eq_true rfl)) dX4_removeLast_67 ⟨Nat.le_of_ble_eq_true rfl, Nat.le_of_ble_eq_true rfl⟩) hS (fun q _ h => hFc q h) hFc (fun u_67 t9 H1 locs ht9 hvm w_67 hB hz1 hk1 hS => ?_)
    obtain ⟨v_67, rfl⟩ : ∃ z, z = u_67 := ⟨_, rfl⟩
    obtain ⟨hP1, hK1, hD1⟩ := hB
    rw [ht9] at hP1
    obtain ⟨hP, hD⟩ := va_join (wr := [(h0, .inr (4, [.ref qr, .ref qp, .ref qd, .ref qc, .ref qf, .ref qt, .ref sp, .ref sc, .int (nI n)])), (qr, .inl (G.2.1, 200, .inl fr)), (qp, .inl (G.2.1, 200, .inl fp)), (qd, .inl (G.2.1, 200, .inl fd)), (qc, .inl (G.2.1, 200, .inl fc)), (sp, .inr (3, [.ref q1, .int (nI n)])), (q1, .inl (G.2.1, 200, .inl v_30))]) (w1 := [(sc, .inr (3, [.ref q2, .int (nI n)])), (q2, .inl (G.2.1, 200, .inl v_67))]) hP hD [5, 6] [0, 1, 2, 3, 4, 7, 8] rfl rfl (by decide) (by decide) hk1 hFc hP1 hD1
    generalize H1 = H at hP hS ⊢
    have hP : va_P G.1 vwCl [(h0, .inr (4, [.ref qr, .ref qp, .ref qd, .ref qc, .ref qf, .ref qt, .ref sp, .ref sc, .int (nI n)])), (qr, .inl (G.2.1, 200, .inl fr)), (qp, .inl (G.2.1, 200, .inl fp)), (qd, .inl (G.2.1, 200, .inl fd)), (qc, .inl (G.2.1, 200, .inl fc)), (sp, .inr (3, [.ref q1, .int (nI n)])), (q1, .inl (G.2.1, 200, .inl v_30)), (sc, .inr (3, [.ref q2, .int (nI n)])), (q2, .inl (G.2.1, 200, .inl v_67))] H := hP
    have hD : va_D A [(h0, .inr (4, [.ref qr, .ref qp, .ref qd, .ref qc, .ref qf, .ref qt, .ref sp, .ref sc, .int (nI n)])), (qr, .inl (G.2.1, 200, .inl fr)), (qp, .inl (G.2.1, 200, .inl fp)), (qd, .inl (G.2.1, 200, .inl fd)), (qc, .inl (G.2.1, 200, .inl fc)), (sp, .inr (3, [.ref q1, .int (nI n)])), (q1, .inl (G.2.1, 200, .inl v_30)), (sc, .inr (3, [.ref q2, .int (nI n)])), (q2, .inl (G.2.1, 200, .inl v_67))] := hD
    have hP9 := hP.sub (ws' := [(h0, .inr (4, [.ref qr, .ref qp, .ref qd, .ref qc, .ref qf, .ref qt, .ref sp, .ref sc, .int (nI n)])), (qr, .inl (G.2.1, 200, .inl fr)), (qp, .inl (G.2.1, 200, .inl fp)), (qd, .inl (G.2.1, 200, .inl fd)), (qc, .inl (G.2.1, 200, .inl fc)), (sp, .inr (3, [.ref q1, .int (nI n)])), (q1, .inl (G.2.1, 200, .inl v_30)), (sc, .inr (3, [.ref q2, .int (nI n)])), (q2, .inl (G.2.1, 200, .inl v_67))]) [0, 1, 2, 3, 4, 5, 6, 7, 8] rfl
    have hD9 := hD.sub (ws' := [(h0, .inr (4, [.ref qr, .ref qp, .ref qd, .ref qc, .ref qf, .ref qt, .ref sp, .ref sc, .int (nI n)])), (qr, .inl (G.2.1, 200, .inl fr)), (qp, .inl (G.2.1, 200, .inl fp)), (qd, .inl (G.2.1, 200, .inl fd)), (qc, .inl (G.2.1, 200, .inl fc)), (sp, .inr (3, [.ref q1, .int (nI n)])), (q1, .inl (G.2.1, 200, .inl v_30)), (sc, .inr (3, [.ref q2, .int (nI n)])), (q2, .inl (G.2.1, 200, .inl v_67))]) [0, 1, 2, 3, 4, 5, 6, 7, 8] (by decide) rfl
    exact W.vret hx hb hr (fun t9 ht9 hW9 => ⟨⟨(v_30, v_67), rfl, ⟨w_30, w_67⟩, by rw [ht9]; exact hP9, va_K.moved hW9.alike hK, hD9⟩, hS.F ht9⟩) hS.2.2 dX4_removeLast_70

set_option maxHeartbeats 4000000 in
set_option maxRecDepth 100000 in
/-- Steps.addGuess, full -/
theorem qc_T_guess0 (l : Launch) (G : qG) (h0 : Nat) (qr : Nat) (qp : Nat) (qd : Nat) (qc : Nat) (qf : Nat) (qt : Nat) (sp : Nat) (sc : Nat) (n : Nat) (fr : Nat → Int32) (d : Nat) (z : Nat) (hn : ¬ n < 200) (hn2 : n ≤ 200) (hz : fr (n - 1) = nM z) (hz1 : z ≤ 40) : Met l yX4_addGuess wsX4_addGuess ({ frames := 2, cells := 0, slots := 0, locals := 44 } : Room) (va_Pc [.ref h0, .int (nI d)] (qk_pre G vwCl [(h0, .inr (4, [.ref qr, .ref qp, .ref qd, .ref qc, .ref qf, .ref qt, .ref sp, .ref sc, .int (nI n)])), (qr, .inl (G.2.1, 200, .inl fr))])) (vp_Si (fun r => r = (-1))) 0 0 (fun _ => False) := by
  refine Met.ofW (cc := cX4_addGuess) (maxL := 3) (ret := (some .int)) (by decide) rfl ?_
  intro p e s m args below meth c s₁ B hml hv
  obtain ⟨rfl, hP, hK, hN⟩ := hv
  have hx := B.exec
  have hb := B.bytes
  have hr := B.returns
  have hlocks := B.notSynchronized
  have hts := atoms_spec (ws := wsX4_addGuess) B.pre
  have htb := fun (w : Cond) (h : w ∈ qTb) => hts w (List.mem_cons_of_mem _ h)
  have hown : s.vm.findClass "GradeRows$Steps" = some m.cls := findClass_of_methodNamed B.named
  have hP : va_P G.1 vwCl [(h0, .inr (4, [.ref qr, .ref qp, .ref qd, .ref qc, .ref qf, .ref qt, .ref sp, .ref sc, .int (nI n)])), (qr, .inl (G.2.1, 200, .inl fr))] s.heap := hP
  have hl := lv_entry ([.ref h0, .int (nI d)]) (n := 3) (Nat.le_of_ble_eq_true rfl)
  rw [lg_entry_eq]
  generalize (lg_sl ([.ref h0, .int (nI d)]) ++ List.replicate (3 - (lg_sl ([.ref h0, .int (nI d)])).length) Slot.unset).toArray = ls at hl ⊢
  have hl : lv_has ls 3 [(0, .ref h0), (1, .int (nI d))] := hl
  refine lv_sipush (v := nI 1000) hx hb dX4_addGuess_0 (by decide) ?_
  refine lv_iload_n hx hb dX4_addGuess_3 rfl (lv_at hl 1 rfl) ?_
  refine lv_imul hx hb dX4_addGuess_4 ?_
  refine qk_topi (t := nI (1000 * d)) (pk_mul _ _) ?_
  refine lv_istore_n (lv' := [(2, .int (nI (1000 * d))), (0, .ref h0), (1, .int (nI d))]) hx hb dX4_addGuess_5 rfl hl (by decide) rfl (fun ls hl => ?_)
  refine lv_aload_n hx hb dX4_addGuess_6 rfl (lv_at hl 1 rfl) ?_
  refine lv_iconst (v := (-1)) hx hb dX4_addGuess_7 (by decide) ?_
  refine lv_iconst (v := nI 0) hx hb dX4_addGuess_8 (by decide) ?_
  refine lv_iload_n hx hb dX4_addGuess_9 rfl (lv_at hl 2 rfl) ?_
  refine lv_aload_n hx hb dX4_addGuess_10 rfl (lv_at hl 1 rfl) ?_
  refine lv_aload_n hx hb dX4_addGuess_11 rfl (lv_at hl 1 rfl) ?_
  refine va_get (D := G.1) (ci := 4) (v := .int (nI n)) (C := "GradeRows$Steps") (T := TX4) (N := 9) hx hb htb inX4 hown hK hP 0 rfl rfl 8 (by decide) (htb _ qw_83) (fun _ h9 => h9) rfl dX4_addGuess_12 ?_
  refine lv_iconst (v := nI 1) hx hb dX4_addGuess_15 (by decide) ?_
  refine lv_isub hx hb dX4_addGuess_16 ?_
  refine qk_topi (t := nI (n - 1)) (pk_sub (by omega)) ?_
  have hPc := hP.sub (ws' := [(h0, .inr (4, [.ref qr, .ref qp, .ref qd, .ref qc, .ref qf, .ref qt, .ref sp, .ref sc, .int (nI n)])), (qr, .inl (G.2.1, 200, .inl fr))]) [0, 1] rfl
  refine vp_callSi (va_runV (As := [.int (nI (n - 1))]) (rest := [.int (nI d), .int (nI 0), .int (-1), .ref h0]) ⟨hx, hb, hml, hown, htb⟩ (qc_T_isg l G h0 qr qp qd qc qf qt sp sc n fr (n - 1) z (by omega) hn2 hz hz1) (cwV 1 htb (qW_V qw_197 qw_198 qw_199 qw_15 qw_200) rfl rfl rfl (by decide +kernel) ⟨Nat.le_of_ble_eq_true rfl, Nat.le_of_ble_eq_true rfl⟩) (qk_pv (ci := 4) (q0 := 0) hK hPc hN rfl rfl) rfl rfl hl.1 rfl (lv_room (Nat.le_of_ble_eq_true rfl)) dX4_addGuess_17 ⟨Nat.le_of_ble_eq_true rfl, Nat.le_of_ble_eq_true rfl⟩).run (fun r_17 e_17 => ?_)
  subst e_17
  refine lv_if_eq (tgt := 29) hx hb dX4_addGuess_20 (by decide) (fun c_1 => ?_) (fun c_1 => ?_)
  · have c_1 : ¬ (z = 0) := fun q9 => qk_ite0.mpr q9 c_1
    refine lv_iload_n hx hb dX4_addGuess_29 rfl (lv_at hl 0 rfl) ?_
    have hPc := hP.sub (ws' := [(h0, .inr (4, [.ref qr, .ref qp, .ref qd, .ref qc, .ref qf, .ref qt, .ref sp, .ref sc, .int (nI n)]))]) [0] rfl
    refine vp_callSi (va_runV (As := [.int (-1), .int (nI 0), .int (nI d), .int (nI (1000 * d))]) (rest := []) ⟨hx, hb, hml, hown, htb⟩ (qc_T_add0 l G h0 qr qp qd qc qf qt sp sc n (-1) (nI 0) (nI d) (nI (1000 * d)) hn hn2) (cwV 4 htb (qW_V qw_205 qw_174 qw_175 qw_15 qw_176) rfl rfl rfl (by decide +kernel) ⟨Nat.le_of_ble_eq_true rfl, Nat.le_of_ble_eq_true rfl⟩) (qk_pv (ci := 4) (q0 := 0) hK hPc hN rfl rfl) rfl rfl hl.1 rfl (lv_room (Nat.le_of_ble_eq_true rfl)) dX4_addGuess_30 ⟨Nat.le_of_ble_eq_true rfl, Nat.le_of_ble_eq_true rfl⟩).run (fun r_30 e_30 => ?_)
    subst e_30
    exact W.iret (v := -1) hx hb hr (fun t9 ht9 hW9 => ⟨_, rfl, rfl, ht9⟩) (fun q h => absurd h List.not_mem_nil) dX4_addGuess_33
  · have c_1 : z = 0 := qk_ite0.mp c_1
    refine lv_iconst (v := nI 2) hx hb dX4_addGuess_23 (by decide) ?_
    refine lv_iload_n hx hb dX4_addGuess_24 rfl (lv_at hl 0 rfl) ?_
    refine lv_imul hx hb dX4_addGuess_25 ?_
    refine qk_topi (t := nI (2 * (1000 * d))) (pk_mul _ _) ?_
    refine lv_goto (tgt := 30) hx hb dX4_addGuess_26 (by decide) ?_
    have hPc := hP.sub (ws' := [(h0, .inr (4, [.ref qr, .ref qp, .ref qd, .ref qc, .ref qf, .ref qt, .ref sp, .ref sc, .int (nI n)]))]) [0] rfl
    refine vp_callSi (va_runV (As := [.int (-1), .int (nI 0), .int (nI d), .int (nI (2 * (1000 * d)))]) (rest := []) ⟨hx, hb, hml, hown, htb⟩ (qc_T_add0 l G h0 qr qp qd qc qf qt sp sc n (-1) (nI 0) (nI d) (nI (2 * (1000 * d))) hn hn2) (cwV 4 htb (qW_V qw_205 qw_174 qw_175 qw_15 qw_176) rfl rfl rfl (by decide +kernel) ⟨Nat.le_of_ble_eq_true rfl, Nat.le_of_ble_eq_true rfl⟩) (qk_pv (ci := 4) (q0 := 0) hK hPc hN rfl rfl) rfl rfl hl.1 rfl (lv_room (Nat.le_of_ble_eq_true rfl)) dX4_addGuess_30 ⟨Nat.le_of_ble_eq_true rfl, Nat.le_of_ble_eq_true rfl⟩).run (fun r_30 e_30 => ?_)
    subst e_30
    exact W.iret (v := -1) hx hb hr (fun t9 ht9 hW9 => ⟨_, rfl, rfl, ht9⟩) (fun q h => absurd h List.not_mem_nil) dX4_addGuess_33

set_option maxHeartbeats 4000000 in
set_option maxRecDepth 100000 in
/-- Steps.addGuess -/
theorem qc_T_guess (l : Launch) (G : qG) (h0 : Nat) (qr : Nat) (qp : Nat) (qd : Nat) (qc : Nat) (qf : Nat) (qt : Nat) (sp : Nat) (sc : Nat) (n : Nat) (fr : Nat → Int32) (fp : Nat → Int32) (fd : Nat → Int32) (fc : Nat → Int32) (ff : Nat → Int32) (ft : Nat → Int64) (q1 : Nat) (f1 : Nat → Int32) (q2 : Nat) (f2 : Nat → Int32) (s : Nat → qS) (d : Nat) (pr : Nat) (tt : Nat) (sz : Nat) (hn : n < 200) (hf : ∀ i, i < n → ff i = if qm_fn s i = true then nI 1 else nI 0) (hp : ∀ i, i < n → fp i = nI (qm_pl (s i))) (hbp : ∀ i, i < n → qm_pl (s i) ≤ 255) (hd : d ≤ 20) (htt : ft n = lN tt) (hz : ∀ j, j < n → fr j = nM (s j).1 ∧ (s j).1 ≤ 40) (hpr : pr = if 0 < n ∧ (s (n - 1)).1 = 0 then 2000 * d else 1000 * d) : Met l yX4_addGuess wsX4_addGuess ({ frames := 2, cells := 0, slots := 0, locals := 46 } : Room) (va_Pc [.ref h0, .int (nI d)] (qk_prw G vwCl [(h0, .inr (4, [.ref qr, .ref qp, .ref qd, .ref qc, .ref qf, .ref qt, .ref sp, .ref sc, .int (nI n)])), (qr, .inl (G.2.1, 200, .inl fr)), (qp, .inl (G.2.1, 200, .inl fp)), (qd, .inl (G.2.1, 200, .inl fd)), (qc, .inl (G.2.1, 200, .inl fc)), (qf, .inl (G.2.2.2.1, 200, .inl ff)), (qt, .inl (G.2.2.1, 201, .inr (.inl ft))), (sp, .inr (3, [.ref q1, .int (nI n)])), (q1, .inl (G.2.1, 200, .inl f1)), (sc, .inr (3, [.ref q2, .int (nI n)])), (q2, .inl (G.2.1, 200, .inl f2))] sz)) (va_Qi (fun (r : Int32) (u : Int32 × (Nat → Int32) × (Nat → Int32)) => r = nI n ∧ u.1 = (if ¬ 0 = 0 ∧ d = 1 ∧ ¬ qm_wasF s 0 n = true then nI 1 else nI 0) ∧ qm_ins f1 n (nI pr) u.2.1 ∧ qm_ins f2 n (qm_code (nM 0) (nI 0) (nI d)) u.2.2) (qk_B G vwCl (va_A [(h0, .inr (4, [.ref qr, .ref qp, .ref qd, .ref qc, .ref qf, .ref qt, .ref sp, .ref sc, .int (nI n)])), (qr, .inl (G.2.1, 200, .inl fr)), (qp, .inl (G.2.1, 200, .inl fp)), (qd, .inl (G.2.1, 200, .inl fd)), (qc, .inl (G.2.1, 200, .inl fc)), (qf, .inl (G.2.2.2.1, 200, .inl ff)), (qt, .inl (G.2.2.1, 201, .inr (.inl ft))), (sp, .inr (3, [.ref q1, .int (nI n)])), (q1, .inl (G.2.1, 200, .inl f1)), (sc, .inr (3, [.ref q2, .int (nI n)])), (q2, .inl (G.2.1, 200, .inl f2))] sz) (fun (u : Int32 × (Nat → Int32) × (Nat → Int32)) => [(h0, .inr (4, [.ref qr, .ref qp, .ref qd, .ref qc, .ref qf, .ref qt, .ref sp, .ref sc, .int (nI (n + 1))])), (qr, .inl (G.2.1, 200, .inl (upd fr n (nM 0)))), (qp, .inl (G.2.1, 200, .inl (upd fp n (nI 0)))), (qd, .inl (G.2.1, 200, .inl (upd fd n (nI d)))), (qc, .inl (G.2.1, 200, .inl (upd fc n (nI pr)))), (qf, .inl (G.2.2.2.1, 200, .inl (upd ff n u.1))), (qt, .inl (G.2.2.1, 201, .inr (.inl (vp_updL ft (n + 1) (lN (tt + pr)))))), (sp, .inr (3, [.ref q1, .int (nI (n + 1))])), (q1, .inl (G.2.1, 200, .inl u.2.1)), (sc, .inr (3, [.ref q2, .int (nI (n + 1))])), (q2, .inl (G.2.1, 200, .inl u.2.2))])) (va_A [(h0, .inr (4, [.ref qr, .ref qp, .ref qd, .ref qc, .ref qf, .ref qt, .ref sp, .ref sc, .int (nI n)])), (qr, .inl (G.2.1, 200, .inl fr)), (qp, .inl (G.2.1, 200, .inl fp)), (qd, .inl (G.2.1, 200, .inl fd)), (qc, .inl (G.2.1, 200, .inl fc)), (qf, .inl (G.2.2.2.1, 200, .inl ff)), (qt, .inl (G.2.2.1, 201, .inr (.inl ft))), (sp, .inr (3, [.ref q1, .int (nI n)])), (q1, .inl (G.2.1, 200, .inl f1)), (sc, .inr (3, [.ref q2, .int (nI n)])), (q2, .inl (G.2.1, 200, .inl f2))] sz)) 0 0 (va_A [(h0, .inr (4, [.ref qr, .ref qp, .ref qd, .ref qc, .ref qf, .ref qt, .ref sp, .ref sc, .int (nI n)])), (qr, .inl (G.2.1, 200, .inl fr)), (qp, .inl (G.2.1, 200, .inl fp)), (qd, .inl (G.2.1, 200, .inl fd)), (qc, .inl (G.2.1, 200, .inl fc)), (qf, .inl (G.2.2.2.1, 200, .inl ff)), (qt, .inl (G.2.2.1, 201, .inr (.inl ft))), (sp, .inr (3, [.ref q1, .int (nI n)])), (q1, .inl (G.2.1, 200, .inl f1)), (sc, .inr (3, [.ref q2, .int (nI n)])), (q2, .inl (G.2.1, 200, .inl f2))] sz) := by
  refine Met.ofW (cc := cX4_addGuess) (maxL := 3) (ret := (some .int)) (by decide) rfl ?_
  intro p e s m args below meth c s₁ B hml hv
  obtain ⟨rfl, hsz, hP, hK, hD0, hN⟩ := hv
  have hx := B.exec
  have hb := B.bytes
  have hr := B.returns
  have hlocks := B.notSynchronized
  have hts := atoms_spec (ws := wsX4_addGuess) B.pre
  have htb := fun (w : Cond) (h : w ∈ qTb) => hts w (List.mem_cons_of_mem _ h)
  have hown : s.vm.findClass "GradeRows$Steps" = some m.cls := findClass_of_methodNamed B.named
  subst hsz
  have hD := hD0.self (sz := s.heap.size)
  generalize hAe : va_A [(h0, .inr (4, [.ref qr, .ref qp, .ref qd, .ref qc, .ref qf, .ref qt, .ref sp, .ref sc, .int (nI n)])), (qr, .inl (G.2.1, 200, .inl fr)), (qp, .inl (G.2.1, 200, .inl fp)), (qd, .inl (G.2.1, 200, .inl fd)), (qc, .inl (G.2.1, 200, .inl fc)), (qf, .inl (G.2.2.2.1, 200, .inl ff)), (qt, .inl (G.2.2.1, 201, .inr (.inl ft))), (sp, .inr (3, [.ref q1, .int (nI n)])), (q1, .inl (G.2.1, 200, .inl f1)), (sc, .inr (3, [.ref q2, .int (nI n)])), (q2, .inl (G.2.1, 200, .inl f2))] s.heap.size = A at hD ⊢
  have hA : ∀ q : Nat, s.heap.size ≤ q → A q := fun q h => by rw [← hAe]; exact Or.inr h
  have hS : va_S A s.heap s.heap [] := va_S.rf
  have hP : va_P G.1 vwCl [(h0, .inr (4, [.ref qr, .ref qp, .ref qd, .ref qc, .ref qf, .ref qt, .ref sp, .ref sc, .int (nI n)])), (qr, .inl (G.2.1, 200, .inl fr)), (qp, .inl (G.2.1, 200, .inl fp)), (qd, .inl (G.2.1, 200, .inl fd)), (qc, .inl (G.2.1, 200, .inl fc)), (qf, .inl (G.2.2.2.1, 200, .inl ff)), (qt, .inl (G.2.2.1, 201, .inr (.inl ft))), (sp, .inr (3, [.ref q1, .int (nI n)])), (q1, .inl (G.2.1, 200, .inl f1)), (sc, .inr (3, [.ref q2, .int (nI n)])), (q2, .inl (G.2.1, 200, .inl f2))] s.heap := hP
  have hl := lv_entry ([.ref h0, .int (nI d)]) (n := 3) (Nat.le_of_ble_eq_true rfl)
  rw [lg_entry_eq]
  generalize (lg_sl ([.ref h0, .int (nI d)]) ++ List.replicate (3 - (lg_sl ([.ref h0, .int (nI d)])).length) Slot.unset).toArray = ls at hl ⊢
  have hl : lv_has ls 3 [(0, .ref h0), (1, .int (nI d))] := hl
  refine lv_sipush (v := nI 1000) hx hb dX4_addGuess_0 (by decide) ?_
  refine lv_iload_n hx hb dX4_addGuess_3 rfl (lv_at hl 1 rfl) ?_
  refine lv_imul hx hb dX4_addGuess_4 ?_
  refine qk_topi (t := nI (1000 * d)) (pk_mul _ _) ?_
  refine lv_istore_n (lv' := [(2, .int (nI (1000 * d))), (0, .ref h0), (1, .int (nI d))]) hx hb dX4_addGuess_5 rfl hl (by decide) rfl (fun ls hl => ?_)
  by_cases h0n : 0 < n
  · skip
    refine lv_aload_n hx hb dX4_addGuess_6 rfl (lv_at hl 1 rfl) ?_
    refine lv_iconst (v := (-1)) hx hb dX4_addGuess_7 (by decide) ?_
    refine qk_topi (t := nM 0) nM_0.symm ?_
    refine lv_iconst (v := nI 0) hx hb dX4_addGuess_8 (by decide) ?_
    refine lv_iload_n hx hb dX4_addGuess_9 rfl (lv_at hl 2 rfl) ?_
    refine lv_aload_n hx hb dX4_addGuess_10 rfl (lv_at hl 1 rfl) ?_
    refine lv_aload_n hx hb dX4_addGuess_11 rfl (lv_at hl 1 rfl) ?_
    refine va_get (D := G.1) (ci := 4) (v := .int (nI n)) (C := "GradeRows$Steps") (T := TX4) (N := 9) hx hb htb inX4 hown hK hP 0 rfl rfl 8 (by decide) (htb _ qw_83) (fun _ h9 => h9) rfl dX4_addGuess_12 ?_
    refine lv_iconst (v := nI 1) hx hb dX4_addGuess_15 (by decide) ?_
    refine lv_isub hx hb dX4_addGuess_16 ?_
    refine qk_topi (t := nI (n - 1)) (pk_sub (by omega)) ?_
    have hPc := hP.sub (ws' := [(h0, .inr (4, [.ref qr, .ref qp, .ref qd, .ref qc, .ref qf, .ref qt, .ref sp, .ref sc, .int (nI n)])), (qr, .inl (G.2.1, 200, .inl fr))]) [0, 1] rfl
    refine vp_callSi (va_runV (As := [.int (nI (n - 1))]) (rest := [.int (nI d), .int (nI 0), .int (nM 0), .ref h0]) ⟨hx, hb, hml, hown, htb⟩ (qc_T_isg l G h0 qr qp qd qc qf qt sp sc n fr (n - 1) (s (n - 1)).1 (by omega) (by omega) (hz (n - 1) (by omega)).1 (hz (n - 1) (by omega)).2) (cwV 1 htb (qW_V qw_197 qw_198 qw_199 qw_15 qw_200) rfl rfl rfl (by decide +kernel) ⟨Nat.le_of_ble_eq_true rfl, Nat.le_of_ble_eq_true rfl⟩) (qk_pv (ci := 4) (q0 := 0) hK hPc hN rfl rfl) rfl rfl hl.1 rfl (lv_room (Nat.le_of_ble_eq_true rfl)) dX4_addGuess_17 ⟨Nat.le_of_ble_eq_true rfl, Nat.le_of_ble_eq_true rfl⟩).run (fun r_17 e_17 => ?_)
    subst e_17
    refine lv_if_eq (tgt := 29) hx hb dX4_addGuess_20 (by decide) (fun cz => ?_) (fun cz => ?_)
    · have cz : ¬ ((s (n - 1)).1 = 0) := fun q9 => qk_ite0.mpr q9 cz
      refine lv_iload_n hx hb dX4_addGuess_29 rfl (lv_at hl 0 rfl) ?_
      refine qk_topi (t := nI pr) (by congr 1; rw [hpr, if_neg (by first | (intro h; exact cz h.2) | omega)]) ?_
      have hPc := hP.sub (ws' := [(h0, .inr (4, [.ref qr, .ref qp, .ref qd, .ref qc, .ref qf, .ref qt, .ref sp, .ref sc, .int (nI n)])), (qr, .inl (G.2.1, 200, .inl fr)), (qp, .inl (G.2.1, 200, .inl fp)), (qd, .inl (G.2.1, 200, .inl fd)), (qc, .inl (G.2.1, 200, .inl fc)), (qf, .inl (G.2.2.2.1, 200, .inl ff)), (qt, .inl (G.2.2.1, 201, .inr (.inl ft))), (sp, .inr (3, [.ref q1, .int (nI n)])), (q1, .inl (G.2.1, 200, .inl f1)), (sc, .inr (3, [.ref q2, .int (nI n)])), (q2, .inl (G.2.1, 200, .inl f2))]) [0, 1, 2, 3, 4, 5, 6, 7, 8, 9, 10] rfl
      have hDc := hD.sub (ws' := [(h0, .inr (4, [.ref qr, .ref qp, .ref qd, .ref qc, .ref qf, .ref qt, .ref sp, .ref sc, .int (nI n)])), (qr, .inl (G.2.1, 200, .inl fr)), (qp, .inl (G.2.1, 200, .inl fp)), (qd, .inl (G.2.1, 200, .inl fd)), (qc, .inl (G.2.1, 200, .inl fc)), (qf, .inl (G.2.2.2.1, 200, .inl ff)), (qt, .inl (G.2.2.1, 201, .inr (.inl ft))), (sp, .inr (3, [.ref q1, .int (nI n)])), (q1, .inl (G.2.1, 200, .inl f1)), (sc, .inr (3, [.ref q2, .int (nI n)])), (q2, .inl (G.2.1, 200, .inl f2))]) [0, 1, 2, 3, 4, 5, 6, 7, 8, 9, 10] (by decide) rfl
      have hFc := va_free (wc := [(h0, .inr (4, [.ref qr, .ref qp, .ref qd, .ref qc, .ref qf, .ref qt, .ref sp, .ref sc, .int (nI n)])), (qr, .inl (G.2.1, 200, .inl fr)), (qp, .inl (G.2.1, 200, .inl fp)), (qd, .inl (G.2.1, 200, .inl fd)), (qc, .inl (G.2.1, 200, .inl fc)), (qf, .inl (G.2.2.2.1, 200, .inl ff)), (qt, .inl (G.2.2.1, 201, .inr (.inl ft))), (sp, .inr (3, [.ref q1, .int (nI n)])), (q1, .inl (G.2.1, 200, .inl f1)), (sc, .inr (3, [.ref q2, .int (nI n)])), (q2, .inl (G.2.1, 200, .inl f2))]) hD hS hA [0, 1, 2, 3, 4, 5, 6, 7, 8, 9, 10] rfl
      refine va_calli (va_runV (As := [.int (nM 0), .int (nI 0), .int (nI d), .int (nI pr)]) (rest := []) ⟨hx, hb, hml, hown, htb⟩ (qc_T_add l G h0 qr qp qd qc qf qt sp sc n fr fp fd fc ff ft q1 f1 q2 f2 s 0 0 d pr tt H.size hn hf hp hbp (by omega) (by omega) (by omega) (by omega) htt) (cwV 4 htb (qW_V qw_205 qw_174 qw_175 qw_15 qw_176) rfl rfl rfl (by decide +kernel) ⟨Nat.le_of_ble_eq_true rfl, Nat.le_of_ble_eq_true rfl⟩) (qk_pvw (ci := 4) (q0 := 0) hK hPc hN hDc rfl rfl) rfl rfl hl.1 rfl (lv_room (Nat.le_of_ble_eq_true rfl)) dX4_addGuess_30 ⟨Nat.le_of_ble_eq_true rfl, Nat.le_of_ble_eq_true rfl⟩) hS (fun q _ h => hFc q h) hFc (fun r_30 u_30 t9 H1 locs ht9 hvm w_30 hB hz1 hk1 hS => ?_)
      obtain ⟨v_30, rfl⟩ : ∃ z, z = u_30 := ⟨_, rfl⟩
      obtain ⟨hP1, hK1, hD1⟩ := hB
      rw [ht9] at hP1
      obtain ⟨hP, hD⟩ := va_join (wr := []) (w1 := [(h0, .inr (4, [.ref qr, .ref qp, .ref qd, .ref qc, .ref qf, .ref qt, .ref sp, .ref sc, .int (nI (n + 1))])), (qr, .inl (G.2.1, 200, .inl (upd fr n (nM 0)))), (qp, .inl (G.2.1, 200, .inl (upd fp n (nI 0)))), (qd, .inl (G.2.1, 200, .inl (upd fd n (nI d)))), (qc, .inl (G.2.1, 200, .inl (upd fc n (nI pr)))), (qf, .inl (G.2.2.2.1, 200, .inl (upd ff n v_30.1))), (qt, .inl (G.2.2.1, 201, .inr (.inl (vp_updL ft (n + 1) (lN (tt + pr)))))), (sp, .inr (3, [.ref q1, .int (nI (n + 1))])), (q1, .inl (G.2.1, 200, .inl v_30.2.1)), (sc, .inr (3, [.ref q2, .int (nI (n + 1))])), (q2, .inl (G.2.1, 200, .inl v_30.2.2))]) hP hD [0, 1, 2, 3, 4, 5, 6, 7, 8, 9, 10] [] rfl rfl (by decide) (by decide) hk1 hFc hP1 hD1
      generalize H1 = H at hP hS ⊢
      have hP : va_P G.1 vwCl [(h0, .inr (4, [.ref qr, .ref qp, .ref qd, .ref qc, .ref qf, .ref qt, .ref sp, .ref sc, .int (nI (n + 1))])), (qr, .inl (G.2.1, 200, .inl (upd fr n (nM 0)))), (qp, .inl (G.2.1, 200, .inl (upd fp n (nI 0)))), (qd, .inl (G.2.1, 200, .inl (upd fd n (nI d)))), (qc, .inl (G.2.1, 200, .inl (upd fc n (nI pr)))), (qf, .inl (G.2.2.2.1, 200, .inl (upd ff n v_30.1))), (qt, .inl (G.2.2.1, 201, .inr (.inl (vp_updL ft (n + 1) (lN (tt + pr)))))), (sp, .inr (3, [.ref q1, .int (nI (n + 1))])), (q1, .inl (G.2.1, 200, .inl v_30.2.1)), (sc, .inr (3, [.ref q2, .int (nI (n + 1))])), (q2, .inl (G.2.1, 200, .inl v_30.2.2))] H := hP
      have hD : va_D A [(h0, .inr (4, [.ref qr, .ref qp, .ref qd, .ref qc, .ref qf, .ref qt, .ref sp, .ref sc, .int (nI (n + 1))])), (qr, .inl (G.2.1, 200, .inl (upd fr n (nM 0)))), (qp, .inl (G.2.1, 200, .inl (upd fp n (nI 0)))), (qd, .inl (G.2.1, 200, .inl (upd fd n (nI d)))), (qc, .inl (G.2.1, 200, .inl (upd fc n (nI pr)))), (qf, .inl (G.2.2.2.1, 200, .inl (upd ff n v_30.1))), (qt, .inl (G.2.2.1, 201, .inr (.inl (vp_updL ft (n + 1) (lN (tt + pr)))))), (sp, .inr (3, [.ref q1, .int (nI (n + 1))])), (q1, .inl (G.2.1, 200, .inl v_30.2.1)), (sc, .inr (3, [.ref q2, .int (nI (n + 1))])), (q2, .inl (G.2.1, 200, .inl v_30.2.2))] := hD
      obtain ⟨w1, w2, w3, w4⟩ := w_30
      subst w1
      have hP9 := hP.sub (ws' := [(h0, .inr (4, [.ref qr, .ref qp, .ref qd, .ref qc, .ref qf, .ref qt, .ref sp, .ref sc, .int (nI (n + 1))])), (qr, .inl (G.2.1, 200, .inl (upd fr n (nM 0)))), (qp, .inl (G.2.1, 200, .inl (upd fp n (nI 0)))), (qd, .inl (G.2.1, 200, .inl (upd fd n (nI d)))), (qc, .inl (G.2.1, 200, .inl (upd fc n (nI pr)))), (qf, .inl (G.2.2.2.1, 200, .inl (upd ff n v_30.1))), (qt, .inl (G.2.2.1, 201, .inr (.inl (vp_updL ft (n + 1) (lN (tt + pr)))))), (sp, .inr (3, [.ref q1, .int (nI (n + 1))])), (q1, .inl (G.2.1, 200, .inl v_30.2.1)), (sc, .inr (3, [.ref q2, .int (nI (n + 1))])), (q2, .inl (G.2.1, 200, .inl v_30.2.2))]) [0, 1, 2, 3, 4, 5, 6, 7, 8, 9, 10] rfl
      have hD9 := hD.sub (ws' := [(h0, .inr (4, [.ref qr, .ref qp, .ref qd, .ref qc, .ref qf, .ref qt, .ref sp, .ref sc, .int (nI (n + 1))])), (qr, .inl (G.2.1, 200, .inl (upd fr n (nM 0)))), (qp, .inl (G.2.1, 200, .inl (upd fp n (nI 0)))), (qd, .inl (G.2.1, 200, .inl (upd fd n (nI d)))), (qc, .inl (G.2.1, 200, .inl (upd fc n (nI pr)))), (qf, .inl (G.2.2.2.1, 200, .inl (upd ff n v_30.1))), (qt, .inl (G.2.2.1, 201, .inr (.inl (vp_updL ft (n + 1) (lN (tt + pr)))))), (sp, .inr (3, [.ref q1, .int (nI (n + 1))])), (q1, .inl (G.2.1, 200, .inl v_30.2.1)), (sc, .inr (3, [.ref q2, .int (nI (n + 1))])), (q2, .inl (G.2.1, 200, .inl v_30.2.2))]) [0, 1, 2, 3, 4, 5, 6, 7, 8, 9, 10] (by decide) rfl
      exact W.iret (v := nI n) hx hb hr (fun t9 ht9 hW9 => ⟨⟨_, v_30, rfl, ⟨rfl, w2, w3, w4⟩, by rw [ht9]; exact hP9, va_K.moved hW9.alike hK, hD9⟩, hS.F ht9⟩) hS.2.2 dX4_addGuess_33
    · have cz : (s (n - 1)).1 = 0 := qk_ite0.mp cz
      refine lv_iconst (v := nI 2) hx hb dX4_addGuess_23 (by decide) ?_
      refine lv_iload_n hx hb dX4_addGuess_24 rfl (lv_at hl 0 rfl) ?_
      refine lv_imul hx hb dX4_addGuess_25 ?_
      refine qk_topi (t := nI pr) ((pk_mul _ _).trans (by congr 1; rw [hpr, if_pos ⟨by omega, cz⟩]; omega)) ?_
      refine lv_goto (tgt := 30) hx hb dX4_addGuess_26 (by decide) ?_
      have hPc := hP.sub (ws' := [(h0, .inr (4, [.ref qr, .ref qp, .ref qd, .ref qc, .ref qf, .ref qt, .ref sp, .ref sc, .int (nI n)])), (qr, .inl (G.2.1, 200, .inl fr)), (qp, .inl (G.2.1, 200, .inl fp)), (qd, .inl (G.2.1, 200, .inl fd)), (qc, .inl (G.2.1, 200, .inl fc)), (qf, .inl (G.2.2.2.1, 200, .inl ff)), (qt, .inl (G.2.2.1, 201, .inr (.inl ft))), (sp, .inr (3, [.ref q1, .int (nI n)])), (q1, .inl (G.2.1, 200, .inl f1)), (sc, .inr (3, [.ref q2, .int (nI n)])), (q2, .inl (G.2.1, 200, .inl f2))]) [0, 1, 2, 3, 4, 5, 6, 7, 8, 9, 10] rfl
      have hDc := hD.sub (ws' := [(h0, .inr (4, [.ref qr, .ref qp, .ref qd, .ref qc, .ref qf, .ref qt, .ref sp, .ref sc, .int (nI n)])), (qr, .inl (G.2.1, 200, .inl fr)), (qp, .inl (G.2.1, 200, .inl fp)), (qd, .inl (G.2.1, 200, .inl fd)), (qc, .inl (G.2.1, 200, .inl fc)), (qf, .inl (G.2.2.2.1, 200, .inl ff)), (qt, .inl (G.2.2.1, 201, .inr (.inl ft))), (sp, .inr (3, [.ref q1, .int (nI n)])), (q1, .inl (G.2.1, 200, .inl f1)), (sc, .inr (3, [.ref q2, .int (nI n)])), (q2, .inl (G.2.1, 200, .inl f2))]) [0, 1, 2, 3, 4, 5, 6, 7, 8, 9, 10] (by decide) rfl
      have hFc := va_free (wc := [(h0, .inr (4, [.ref qr, .ref qp, .ref qd, .ref qc, .ref qf, .ref qt, .ref sp, .ref sc, .int (nI n)])), (qr, .inl (G.2.1, 200, .inl fr)), (qp, .inl (G.2.1, 200, .inl fp)), (qd, .inl (G.2.1, 200, .inl fd)), (qc, .inl (G.2.1, 200, .inl fc)), (qf, .inl (G.2.2.2.1, 200, .inl ff)), (qt, .inl (G.2.2.1, 201, .inr (.inl ft))), (sp, .inr (3, [.ref q1, .int (nI n)])), (q1, .inl (G.2.1, 200, .inl f1)), (sc, .inr (3, [.ref q2, .int (nI n)])), (q2, .inl (G.2.1, 200, .inl f2))]) hD hS hA [0, 1, 2, 3, 4, 5, 6, 7, 8, 9, 10] rfl
      refine va_calli (va_runV (As := [.int (nM 0), .int (nI 0), .int (nI d), .int (nI pr)]) (rest := []) ⟨hx, hb, hml, hown, htb⟩ (qc_T_add l G h0 qr qp qd qc qf qt sp sc n fr fp fd fc ff ft q1 f1 q2 f2 s 0 0 d pr tt H.size hn hf hp hbp (by omega) (by omega) (by omega) (by omega) htt) (cwV 4 htb (qW_V qw_205 qw_174 qw_175 qw_15 qw_176) rfl rfl rfl (by decide +kernel) ⟨Nat.le_of_ble_eq_true rfl, Nat.le_of_ble_eq_true rfl⟩) (qk_pvw (ci := 4) (q0 := 0) hK hPc hN hDc rfl rfl) rfl rfl hl.1 rfl (lv_room (Nat.le_of_ble_eq_true rfl)) dX4_addGuess_30 ⟨Nat.le_of_ble_eq_true rfl, Nat.le_of_ble_eq_true rfl⟩) hS (fun q _ h => hFc q h) hFc (fun r_30 u_30 t9 H1 locs ht9 hvm w_30 hB hz1 hk1 hS => ?_)
      obtain ⟨v_30, rfl⟩ : ∃ z, z = u_30 := ⟨_, rfl⟩
      obtain ⟨hP1, hK1, hD1⟩ := hB
      rw [ht9] at hP1
      obtain ⟨hP, hD⟩ := va_join (wr := []) (w1 := [(h0, .inr (4, [.ref qr, .ref qp, .ref qd, .ref qc, .ref qf, .ref qt, .ref sp, .ref sc, .int (nI (n + 1))])), (qr, .inl (G.2.1, 200, .inl (upd fr n (nM 0)))), (qp, .inl (G.2.1, 200, .inl (upd fp n (nI 0)))), (qd, .inl (G.2.1, 200, .inl (upd fd n (nI d)))), (qc, .inl (G.2.1, 200, .inl (upd fc n (nI pr)))), (qf, .inl (G.2.2.2.1, 200, .inl (upd ff n v_30.1))), (qt, .inl (G.2.2.1, 201, .inr (.inl (vp_updL ft (n + 1) (lN (tt + pr)))))), (sp, .inr (3, [.ref q1, .int (nI (n + 1))])), (q1, .inl (G.2.1, 200, .inl v_30.2.1)), (sc, .inr (3, [.ref q2, .int (nI (n + 1))])), (q2, .inl (G.2.1, 200, .inl v_30.2.2))]) hP hD [0, 1, 2, 3, 4, 5, 6, 7, 8, 9, 10] [] rfl rfl (by decide) (by decide) hk1 hFc hP1 hD1
      generalize H1 = H at hP hS ⊢
      have hP : va_P G.1 vwCl [(h0, .inr (4, [.ref qr, .ref qp, .ref qd, .ref qc, .ref qf, .ref qt, .ref sp, .ref sc, .int (nI (n + 1))])), (qr, .inl (G.2.1, 200, .inl (upd fr n (nM 0)))), (qp, .inl (G.2.1, 200, .inl (upd fp n (nI 0)))), (qd, .inl (G.2.1, 200, .inl (upd fd n (nI d)))), (qc, .inl (G.2.1, 200, .inl (upd fc n (nI pr)))), (qf, .inl (G.2.2.2.1, 200, .inl (upd ff n v_30.1))), (qt, .inl (G.2.2.1, 201, .inr (.inl (vp_updL ft (n + 1) (lN (tt + pr)))))), (sp, .inr (3, [.ref q1, .int (nI (n + 1))])), (q1, .inl (G.2.1, 200, .inl v_30.2.1)), (sc, .inr (3, [.ref q2, .int (nI (n + 1))])), (q2, .inl (G.2.1, 200, .inl v_30.2.2))] H := hP
      have hD : va_D A [(h0, .inr (4, [.ref qr, .ref qp, .ref qd, .ref qc, .ref qf, .ref qt, .ref sp, .ref sc, .int (nI (n + 1))])), (qr, .inl (G.2.1, 200, .inl (upd fr n (nM 0)))), (qp, .inl (G.2.1, 200, .inl (upd fp n (nI 0)))), (qd, .inl (G.2.1, 200, .inl (upd fd n (nI d)))), (qc, .inl (G.2.1, 200, .inl (upd fc n (nI pr)))), (qf, .inl (G.2.2.2.1, 200, .inl (upd ff n v_30.1))), (qt, .inl (G.2.2.1, 201, .inr (.inl (vp_updL ft (n + 1) (lN (tt + pr)))))), (sp, .inr (3, [.ref q1, .int (nI (n + 1))])), (q1, .inl (G.2.1, 200, .inl v_30.2.1)), (sc, .inr (3, [.ref q2, .int (nI (n + 1))])), (q2, .inl (G.2.1, 200, .inl v_30.2.2))] := hD
      obtain ⟨w1, w2, w3, w4⟩ := w_30
      subst w1
      have hP9 := hP.sub (ws' := [(h0, .inr (4, [.ref qr, .ref qp, .ref qd, .ref qc, .ref qf, .ref qt, .ref sp, .ref sc, .int (nI (n + 1))])), (qr, .inl (G.2.1, 200, .inl (upd fr n (nM 0)))), (qp, .inl (G.2.1, 200, .inl (upd fp n (nI 0)))), (qd, .inl (G.2.1, 200, .inl (upd fd n (nI d)))), (qc, .inl (G.2.1, 200, .inl (upd fc n (nI pr)))), (qf, .inl (G.2.2.2.1, 200, .inl (upd ff n v_30.1))), (qt, .inl (G.2.2.1, 201, .inr (.inl (vp_updL ft (n + 1) (lN (tt + pr)))))), (sp, .inr (3, [.ref q1, .int (nI (n + 1))])), (q1, .inl (G.2.1, 200, .inl v_30.2.1)), (sc, .inr (3, [.ref q2, .int (nI (n + 1))])), (q2, .inl (G.2.1, 200, .inl v_30.2.2))]) [0, 1, 2, 3, 4, 5, 6, 7, 8, 9, 10] rfl
      have hD9 := hD.sub (ws' := [(h0, .inr (4, [.ref qr, .ref qp, .ref qd, .ref qc, .ref qf, .ref qt, .ref sp, .ref sc, .int (nI (n + 1))])), (qr, .inl (G.2.1, 200, .inl (upd fr n (nM 0)))), (qp, .inl (G.2.1, 200, .inl (upd fp n (nI 0)))), (qd, .inl (G.2.1, 200, .inl (upd fd n (nI d)))), (qc, .inl (G.2.1, 200, .inl (upd fc n (nI pr)))), (qf, .inl (G.2.2.2.1, 200, .inl (upd ff n v_30.1))), (qt, .inl (G.2.2.1, 201, .inr (.inl (vp_updL ft (n + 1) (lN (tt + pr)))))), (sp, .inr (3, [.ref q1, .int (nI (n + 1))])), (q1, .inl (G.2.1, 200, .inl v_30.2.1)), (sc, .inr (3, [.ref q2, .int (nI (n + 1))])), (q2, .inl (G.2.1, 200, .inl v_30.2.2))]) [0, 1, 2, 3, 4, 5, 6, 7, 8, 9, 10] (by decide) rfl
      exact W.iret (v := nI n) hx hb hr (fun t9 ht9 hW9 => ⟨⟨_, v_30, rfl, ⟨rfl, w2, w3, w4⟩, by rw [ht9]; exact hP9, va_K.moved hW9.alike hK, hD9⟩, hS.F ht9⟩) hS.2.2 dX4_addGuess_33
  · skip
    refine lv_aload_n hx hb dX4_addGuess_6 rfl (lv_at hl 1 rfl) ?_
    refine lv_iconst (v := (-1)) hx hb dX4_addGuess_7 (by decide) ?_
    refine qk_topi (t := nM 0) nM_0.symm ?_
    refine lv_iconst (v := nI 0) hx hb dX4_addGuess_8 (by decide) ?_
    refine lv_iload_n hx hb dX4_addGuess_9 rfl (lv_at hl 2 rfl) ?_
    refine lv_aload_n hx hb dX4_addGuess_10 rfl (lv_at hl 1 rfl) ?_
    refine lv_aload_n hx hb dX4_addGuess_11 rfl (lv_at hl 1 rfl) ?_
    refine va_get (D := G.1) (ci := 4) (v := .int (nI n)) (C := "GradeRows$Steps") (T := TX4) (N := 9) hx hb htb inX4 hown hK hP 0 rfl rfl 8 (by decide) (htb _ qw_83) (fun _ h9 => h9) rfl dX4_addGuess_12 ?_
    refine lv_iconst (v := nI 1) hx hb dX4_addGuess_15 (by decide) ?_
    refine lv_isub hx hb dX4_addGuess_16 ?_
    refine qk_topi (t := (-1)) (by rw [show n = 0 by omega]; decide) ?_
    have hPc := hP.sub (ws' := [(h0, .inr (4, [.ref qr, .ref qp, .ref qd, .ref qc, .ref qf, .ref qt, .ref sp, .ref sc, .int (nI n)]))]) [0] rfl
    refine vp_callSi (va_runV (As := [.int (-1)]) (rest := [.int (nI d), .int (nI 0), .int (nM 0), .ref h0]) ⟨hx, hb, hml, hown, htb⟩ (qc_T_isg0 l G h0 qr qp qd qc qf qt sp sc n) (cwV 1 htb (qW_V qw_197 qw_198 qw_199 qw_15 qw_200) rfl rfl rfl (by decide +kernel) ⟨Nat.le_of_ble_eq_true rfl, Nat.le_of_ble_eq_true rfl⟩) (qk_pv (ci := 4) (q0 := 0) hK hPc hN rfl rfl) rfl rfl hl.1 rfl (lv_room (Nat.le_of_ble_eq_true rfl)) dX4_addGuess_17 ⟨Nat.le_of_ble_eq_true rfl, Nat.le_of_ble_eq_true rfl⟩).run (fun r_17 e_17 => ?_)
    subst e_17
    refine lv_if_eq (tgt := 29) hx hb dX4_addGuess_20 (by decide) (fun cz => ?_) (fun cz => ?_)
    · have cz : 0 = 0 := (z0eq (by omega)).mp cz
      refine lv_iload_n hx hb dX4_addGuess_29 rfl (lv_at hl 0 rfl) ?_
      refine qk_topi (t := nI pr) (by congr 1; rw [hpr, if_neg (by first | (intro h; exact cz h.2) | omega)]) ?_
      have hPc := hP.sub (ws' := [(h0, .inr (4, [.ref qr, .ref qp, .ref qd, .ref qc, .ref qf, .ref qt, .ref sp, .ref sc, .int (nI n)])), (qr, .inl (G.2.1, 200, .inl fr)), (qp, .inl (G.2.1, 200, .inl fp)), (qd, .inl (G.2.1, 200, .inl fd)), (qc, .inl (G.2.1, 200, .inl fc)), (qf, .inl (G.2.2.2.1, 200, .inl ff)), (qt, .inl (G.2.2.1, 201, .inr (.inl ft))), (sp, .inr (3, [.ref q1, .int (nI n)])), (q1, .inl (G.2.1, 200, .inl f1)), (sc, .inr (3, [.ref q2, .int (nI n)])), (q2, .inl (G.2.1, 200, .inl f2))]) [0, 1, 2, 3, 4, 5, 6, 7, 8, 9, 10] rfl
      have hDc := hD.sub (ws' := [(h0, .inr (4, [.ref qr, .ref qp, .ref qd, .ref qc, .ref qf, .ref qt, .ref sp, .ref sc, .int (nI n)])), (qr, .inl (G.2.1, 200, .inl fr)), (qp, .inl (G.2.1, 200, .inl fp)), (qd, .inl (G.2.1, 200, .inl fd)), (qc, .inl (G.2.1, 200, .inl fc)), (qf, .inl (G.2.2.2.1, 200, .inl ff)), (qt, .inl (G.2.2.1, 201, .inr (.inl ft))), (sp, .inr (3, [.ref q1, .int (nI n)])), (q1, .inl (G.2.1, 200, .inl f1)), (sc, .inr (3, [.ref q2, .int (nI n)])), (q2, .inl (G.2.1, 200, .inl f2))]) [0, 1, 2, 3, 4, 5, 6, 7, 8, 9, 10] (by decide) rfl
      have hFc := va_free (wc := [(h0, .inr (4, [.ref qr, .ref qp, .ref qd, .ref qc, .ref qf, .ref qt, .ref sp, .ref sc, .int (nI n)])), (qr, .inl (G.2.1, 200, .inl fr)), (qp, .inl (G.2.1, 200, .inl fp)), (qd, .inl (G.2.1, 200, .inl fd)), (qc, .inl (G.2.1, 200, .inl fc)), (qf, .inl (G.2.2.2.1, 200, .inl ff)), (qt, .inl (G.2.2.1, 201, .inr (.inl ft))), (sp, .inr (3, [.ref q1, .int (nI n)])), (q1, .inl (G.2.1, 200, .inl f1)), (sc, .inr (3, [.ref q2, .int (nI n)])), (q2, .inl (G.2.1, 200, .inl f2))]) hD hS hA [0, 1, 2, 3, 4, 5, 6, 7, 8, 9, 10] rfl
      refine va_calli (va_runV (As := [.int (nM 0), .int (nI 0), .int (nI d), .int (nI pr)]) (rest := []) ⟨hx, hb, hml, hown, htb⟩ (qc_T_add l G h0 qr qp qd qc qf qt sp sc n fr fp fd fc ff ft q1 f1 q2 f2 s 0 0 d pr tt H.size hn hf hp hbp (by omega) (by omega) (by omega) (by omega) htt) (cwV 4 htb (qW_V qw_205 qw_174 qw_175 qw_15 qw_176) rfl rfl rfl (by decide +kernel) ⟨Nat.le_of_ble_eq_true rfl, Nat.le_of_ble_eq_true rfl⟩) (qk_pvw (ci := 4) (q0 := 0) hK hPc hN hDc rfl rfl) rfl rfl hl.1 rfl (lv_room (Nat.le_of_ble_eq_true rfl)) dX4_addGuess_30 ⟨Nat.le_of_ble_eq_true rfl, Nat.le_of_ble_eq_true rfl⟩) hS (fun q _ h => hFc q h) hFc (fun r_30 u_30 t9 H1 locs ht9 hvm w_30 hB hz1 hk1 hS => ?_)
      obtain ⟨v_30, rfl⟩ : ∃ z, z = u_30 := ⟨_, rfl⟩
      obtain ⟨hP1, hK1, hD1⟩ := hB
      rw [ht9] at hP1
      obtain ⟨hP, hD⟩ := va_join (wr := []) (w1 := [(h0, .inr (4, [.ref qr, .ref qp, .ref qd, .ref qc, .ref qf, .ref qt, .ref sp, .ref sc, .int (nI (n + 1))])), (qr, .inl (G.2.1, 200, .inl (upd fr n (nM 0)))), (qp, .inl (G.2.1, 200, .inl (upd fp n (nI 0)))), (qd, .inl (G.2.1, 200, .inl (upd fd n (nI d)))), (qc, .inl (G.2.1, 200, .inl (upd fc n (nI pr)))), (qf, .inl (G.2.2.2.1, 200, .inl (upd ff n v_30.1))), (qt, .inl (G.2.2.1, 201, .inr (.inl (vp_updL ft (n + 1) (lN (tt + pr)))))), (sp, .inr (3, [.ref q1, .int (nI (n + 1))])), (q1, .inl (G.2.1, 200, .inl v_30.2.1)), (sc, .inr (3, [.ref q2, .int (nI (n + 1))])), (q2, .inl (G.2.1, 200, .inl v_30.2.2))]) hP hD [0, 1, 2, 3, 4, 5, 6, 7, 8, 9, 10] [] rfl rfl (by decide) (by decide) hk1 hFc hP1 hD1
      generalize H1 = H at hP hS ⊢
      have hP : va_P G.1 vwCl [(h0, .inr (4, [.ref qr, .ref qp, .ref qd, .ref qc, .ref qf, .ref qt, .ref sp, .ref sc, .int (nI (n + 1))])), (qr, .inl (G.2.1, 200, .inl (upd fr n (nM 0)))), (qp, .inl (G.2.1, 200, .inl (upd fp n (nI 0)))), (qd, .inl (G.2.1, 200, .inl (upd fd n (nI d)))), (qc, .inl (G.2.1, 200, .inl (upd fc n (nI pr)))), (qf, .inl (G.2.2.2.1, 200, .inl (upd ff n v_30.1))), (qt, .inl (G.2.2.1, 201, .inr (.inl (vp_updL ft (n + 1) (lN (tt + pr)))))), (sp, .inr (3, [.ref q1, .int (nI (n + 1))])), (q1, .inl (G.2.1, 200, .inl v_30.2.1)), (sc, .inr (3, [.ref q2, .int (nI (n + 1))])), (q2, .inl (G.2.1, 200, .inl v_30.2.2))] H := hP
      have hD : va_D A [(h0, .inr (4, [.ref qr, .ref qp, .ref qd, .ref qc, .ref qf, .ref qt, .ref sp, .ref sc, .int (nI (n + 1))])), (qr, .inl (G.2.1, 200, .inl (upd fr n (nM 0)))), (qp, .inl (G.2.1, 200, .inl (upd fp n (nI 0)))), (qd, .inl (G.2.1, 200, .inl (upd fd n (nI d)))), (qc, .inl (G.2.1, 200, .inl (upd fc n (nI pr)))), (qf, .inl (G.2.2.2.1, 200, .inl (upd ff n v_30.1))), (qt, .inl (G.2.2.1, 201, .inr (.inl (vp_updL ft (n + 1) (lN (tt + pr)))))), (sp, .inr (3, [.ref q1, .int (nI (n + 1))])), (q1, .inl (G.2.1, 200, .inl v_30.2.1)), (sc, .inr (3, [.ref q2, .int (nI (n + 1))])), (q2, .inl (G.2.1, 200, .inl v_30.2.2))] := hD
      obtain ⟨w1, w2, w3, w4⟩ := w_30
      subst w1
      have hP9 := hP.sub (ws' := [(h0, .inr (4, [.ref qr, .ref qp, .ref qd, .ref qc, .ref qf, .ref qt, .ref sp, .ref sc, .int (nI (n + 1))])), (qr, .inl (G.2.1, 200, .inl (upd fr n (nM 0)))), (qp, .inl (G.2.1, 200, .inl (upd fp n (nI 0)))), (qd, .inl (G.2.1, 200, .inl (upd fd n (nI d)))), (qc, .inl (G.2.1, 200, .inl (upd fc n (nI pr)))), (qf, .inl (G.2.2.2.1, 200, .inl (upd ff n v_30.1))), (qt, .inl (G.2.2.1, 201, .inr (.inl (vp_updL ft (n + 1) (lN (tt + pr)))))), (sp, .inr (3, [.ref q1, .int (nI (n + 1))])), (q1, .inl (G.2.1, 200, .inl v_30.2.1)), (sc, .inr (3, [.ref q2, .int (nI (n + 1))])), (q2, .inl (G.2.1, 200, .inl v_30.2.2))]) [0, 1, 2, 3, 4, 5, 6, 7, 8, 9, 10] rfl
      have hD9 := hD.sub (ws' := [(h0, .inr (4, [.ref qr, .ref qp, .ref qd, .ref qc, .ref qf, .ref qt, .ref sp, .ref sc, .int (nI (n + 1))])), (qr, .inl (G.2.1, 200, .inl (upd fr n (nM 0)))), (qp, .inl (G.2.1, 200, .inl (upd fp n (nI 0)))), (qd, .inl (G.2.1, 200, .inl (upd fd n (nI d)))), (qc, .inl (G.2.1, 200, .inl (upd fc n (nI pr)))), (qf, .inl (G.2.2.2.1, 200, .inl (upd ff n v_30.1))), (qt, .inl (G.2.2.1, 201, .inr (.inl (vp_updL ft (n + 1) (lN (tt + pr)))))), (sp, .inr (3, [.ref q1, .int (nI (n + 1))])), (q1, .inl (G.2.1, 200, .inl v_30.2.1)), (sc, .inr (3, [.ref q2, .int (nI (n + 1))])), (q2, .inl (G.2.1, 200, .inl v_30.2.2))]) [0, 1, 2, 3, 4, 5, 6, 7, 8, 9, 10] (by decide) rfl
      exact W.iret (v := nI n) hx hb hr (fun t9 ht9 hW9 => ⟨⟨_, v_30, rfl, ⟨rfl, w2, w3, w4⟩, by rw [ht9]; exact hP9, va_K.moved hW9.alike hK, hD9⟩, hS.F ht9⟩) hS.2.2 dX4_addGuess_33
    · have cz : ¬ (0 = 0) := fun q9 => cz ((z0eq (by omega)).mpr q9)
      exact absurd rfl cz

set_option maxHeartbeats 4000000 in
set_option maxRecDepth 100000 in
/-- Steps.orderAgainst -/
theorem qc_T_against (l : Launch) (G : qG) (h0 : Nat) (qr : Nat) (qp : Nat) (qd : Nat) (qc : Nat) (qf : Nat) (qt : Nat) (sp : Nat) (sc : Nat) (n : Nat) (ft : Nat → Int64) (ta : Int64) (q1 : Nat) (f1 : Nat → Int32) (hr : Nat) (tk : Int64) (k1 : Nat) (k2 : Nat) (m : Nat) (e1 : Nat) (g1 : Nat → Int32) (N2 : Nat) (e2 : Nat) (g2 : Nat → Int32) (hn : n ≤ 200) (hm : m ≤ 200) (hta : ft n = ta) (hN : m ≤ N2 ∧ N2 ≤ 200) (hf : qm_srt f1 n) (hg : qm_srt g1 m) : Met l yX4_orderAgainst wsX4_orderAgainst ({ frames := 2, cells := 0, slots := 0, locals := 47 } : Room) (va_Pc [.ref h0, .ref hr] (qk_pre G vwCl [(h0, .inr (4, [.ref qr, .ref qp, .ref qd, .ref qc, .ref qf, .ref qt, .ref sp, .ref sc, .int (nI n)])), (qt, .inl (G.2.2.1, 201, .inr (.inl ft))), (sp, .inr (3, [.ref q1, .int (nI n)])), (q1, .inl (G.2.1, 200, .inl f1)), (hr, .inr (1, [.long tk, .ref k1, .ref k2])), (k1, .inr (3, [.ref e1, .int (nI m)])), (e1, .inl (G.2.1, N2, .inl g1))])) (vp_Si (fun r => ∃ q, qm_sg ta tk q ∧ ((¬ q = 0 ∧ r = q) ∨ (q = 0 ∧ ∃ q2, qm_sg (lN n) (lN m) q2 ∧ ((¬ q2 = 0 ∧ r = q2) ∨ (q2 = 0 ∧ qm_ord (fun a b : Int32 => a < b) (qm_cnt f1 n) (qm_cnt g1 n) r)))))) 0 0 (fun _ => False) := by
  refine Met.ofW (cc := cX4_orderAgainst) (maxL := 4) (ret := (some .int)) (by decide) rfl ?_
  intro p e s m args below meth c s₁ B hml hv
  obtain ⟨rfl, hP, hK, hN⟩ := hv
  have hx := B.exec
  have hb := B.bytes
  have hr := B.returns
  have hlocks := B.notSynchronized
  have hts := atoms_spec (ws := wsX4_orderAgainst) B.pre
  have htb := fun (w : Cond) (h : w ∈ qTb) => hts w (List.mem_cons_of_mem _ h)
  have hown : s.vm.findClass "GradeRows$Steps" = some m.cls := findClass_of_methodNamed B.named
  have hP : va_P G.1 vwCl [(h0, .inr (4, [.ref qr, .ref qp, .ref qd, .ref qc, .ref qf, .ref qt, .ref sp, .ref sc, .int (nI n)])), (qt, .inl (G.2.2.1, 201, .inr (.inl ft))), (sp, .inr (3, [.ref q1, .int (nI n)])), (q1, .inl (G.2.1, 200, .inl f1)), (hr, .inr (1, [.long tk, .ref k1, .ref k2])), (k1, .inr (3, [.ref e1, .int (nI m)])), (e1, .inl (G.2.1, N2, .inl g1))] s.heap := hP
  have hl := lv_entry ([.ref h0, .ref hr]) (n := 4) (Nat.le_of_ble_eq_true rfl)
  rw [lg_entry_eq]
  generalize (lg_sl ([.ref h0, .ref hr]) ++ List.replicate (4 - (lg_sl ([.ref h0, .ref hr])).length) Slot.unset).toArray = ls at hl ⊢
  have hl : lv_has ls 4 [(0, .ref h0), (1, .ref hr)] := hl
  refine lv_aload_n hx hb dX4_orderAgainst_0 rfl (lv_at hl 0 rfl) ?_
  have hPc := hP.sub (ws' := [(h0, .inr (4, [.ref qr, .ref qp, .ref qd, .ref qc, .ref qf, .ref qt, .ref sp, .ref sc, .int (nI n)])), (qt, .inl (G.2.2.1, 201, .inr (.inl ft)))]) [0, 1] rfl
  refine vp_callSl (va_runV (As := []) (rest := []) ⟨hx, hb, hml, hown, htb⟩ (qc_T_total l G h0 qr qp qd qc qf qt sp sc n ft ta hn hta) (cwV 0 htb (qW_V qw_251 qw_252 qw_253 qw_15 qw_254) rfl rfl rfl (by decide +kernel) ⟨Nat.le_of_ble_eq_true rfl, Nat.le_of_ble_eq_true rfl⟩) (qk_pv (ci := 4) (q0 := 0) hK hPc hN rfl rfl) rfl rfl hl.1 rfl (lv_room (Nat.le_of_ble_eq_true rfl)) dX4_orderAgainst_1 ⟨Nat.le_of_ble_eq_true rfl, Nat.le_of_ble_eq_true rfl⟩).run (fun r_1 e_1 => ?_)
  subst e_1
  refine lv_aload_n hx hb dX4_orderAgainst_4 rfl (lv_at hl 1 rfl) ?_
  refine va_getN (D := G.1) (ci := 1) (v := .long tk) (C := "GradeRows$Row") (T := TX1) (N := 3) hx hb htb inX1 hown hK hP 4 rfl rfl 0 (by decide) (va_Nw.use rfl (hN.1 _ qw_382)) (fun _ h9 => h9) rfl dX4_orderAgainst_5 ?_
  have hPc := hP.sub (ws' := []) [] rfl
  refine vp_callSi (va_runSN (As := [.long ta, .long tk]) (rest := []) ⟨hx, hb, hml, hown, htb⟩ (qc_order l G ta tk) ⟨va_cnB 2 htb (qW_good qw_408) rfl rfl rfl (hN.1 _ qw_406) (htb _ qw_13) (by decide +kernel) ⟨Nat.le_of_ble_eq_true rfl, Nat.le_of_ble_eq_true rfl⟩, htb _ qw_407, trivial⟩ (qk_ps hK hPc hN) rfl rfl hl.1 rfl (lv_room (Nat.le_of_ble_eq_true rfl)) dX4_orderAgainst_8 ⟨Nat.le_of_ble_eq_true rfl, Nat.le_of_ble_eq_true rfl⟩).run (fun r_8 e_8 => ?_)
  refine lv_istore_n (lv' := [(2, .int r_8), (0, .ref h0), (1, .ref hr)]) hx hb dX4_orderAgainst_11 rfl hl (by decide) rfl (fun ls hl => ?_)
  refine lv_iload_n hx hb dX4_orderAgainst_12 rfl (lv_at hl 0 rfl) ?_
  refine lv_if_eq (tgt := 18) hx hb dX4_orderAgainst_13 (by decide) (fun c1 => ?_) (fun c1 => ?_)
  · refine lv_aload_n hx hb dX4_orderAgainst_18 rfl (lv_at hl 1 rfl) ?_
    refine va_get (D := G.1) (ci := 4) (v := .int (nI n)) (C := "GradeRows$Steps") (T := TX4) (N := 9) hx hb htb inX4 hown hK hP 0 rfl rfl 8 (by decide) (htb _ qw_83) (fun _ h9 => h9) rfl dX4_orderAgainst_19 ?_
    refine lv_i2l (v := lN n) hx hb dX4_orderAgainst_22 (nI_l (by omega)) ?_
    refine lv_aload_n hx hb dX4_orderAgainst_23 rfl (lv_at hl 2 rfl) ?_
    refine va_getN (D := G.1) (ci := 1) (v := .ref k1) (C := "GradeRows$Row") (T := TX1) (N := 3) hx hb htb inX1 hown hK hP 4 rfl rfl 1 (by decide) (va_Nw.use rfl (hN.1 _ qw_384)) (fun _ h9 => h9) rfl dX4_orderAgainst_24 ?_
    have hPc := hP.sub (ws' := [(k1, .inr (3, [.ref e1, .int (nI m)]))]) [5] rfl
    refine vp_callSi (va_runV (As := []) (rest := [.long (lN n)]) ⟨hx, hb, hml, hown, htb⟩ (qc_S_size l G k1 e1 m) (cwV 0 htb (qW_V qw_409 qw_410 qw_411 qw_16 qw_412) rfl rfl rfl (by decide +kernel) ⟨Nat.le_of_ble_eq_true rfl, Nat.le_of_ble_eq_true rfl⟩) (qk_pv (ci := 3) (q0 := 0) hK hPc hN rfl rfl) rfl rfl hl.1 rfl (lv_room (Nat.le_of_ble_eq_true rfl)) dX4_orderAgainst_27 ⟨Nat.le_of_ble_eq_true rfl, Nat.le_of_ble_eq_true rfl⟩).run (fun r_27 e_27 => ?_)
    subst e_27
    refine lv_i2l (v := lN m) hx hb dX4_orderAgainst_30 (nI_l (by omega)) ?_
    have hPc := hP.sub (ws' := []) [] rfl
    refine vp_callSi (va_runSN (As := [.long (lN n), .long (lN m)]) (rest := []) ⟨hx, hb, hml, hown, htb⟩ (qc_order l G (lN n) (lN m)) ⟨va_cnB 2 htb (qW_good qw_408) rfl rfl rfl (hN.1 _ qw_406) (htb _ qw_13) (by decide +kernel) ⟨Nat.le_of_ble_eq_true rfl, Nat.le_of_ble_eq_true rfl⟩, htb _ qw_407, trivial⟩ (qk_ps hK hPc hN) rfl rfl hl.1 rfl (lv_room (Nat.le_of_ble_eq_true rfl)) dX4_orderAgainst_31 ⟨Nat.le_of_ble_eq_true rfl, Nat.le_of_ble_eq_true rfl⟩).run (fun r_31 e_31 => ?_)
    refine lv_istore_n (lv' := [(3, .int r_31), (2, .int r_8), (0, .ref h0), (1, .ref hr)]) hx hb dX4_orderAgainst_34 rfl hl (by decide) rfl (fun ls hl => ?_)
    refine lv_iload_n hx hb dX4_orderAgainst_35 rfl (lv_at hl 0 rfl) ?_
    refine lv_if_eq (tgt := 43) hx hb dX4_orderAgainst_36 (by decide) (fun c2 => ?_) (fun c2 => ?_)
    · have hnm : n = m := (lN_eq (by omega) (by omega)).mp (qm_sg_0 e_31 c2)
      subst hnm
      refine lv_aload_n hx hb dX4_orderAgainst_43 rfl (lv_at hl 2 rfl) ?_
      refine va_get (D := G.1) (ci := 4) (v := .ref sp) (C := "GradeRows$Steps") (T := TX4) (N := 9) hx hb htb inX4 hown hK hP 0 rfl rfl 6 (by decide) (htb _ qw_81) (fun _ h9 => h9) rfl dX4_orderAgainst_44 ?_
      refine lv_aload_n hx hb dX4_orderAgainst_47 rfl (lv_at hl 3 rfl) ?_
      refine va_getN (D := G.1) (ci := 1) (v := .ref k1) (C := "GradeRows$Row") (T := TX1) (N := 3) hx hb htb inX1 hown hK hP 4 rfl rfl 1 (by decide) (va_Nw.use rfl (hN.1 _ qw_384)) (fun _ h9 => h9) rfl dX4_orderAgainst_48 ?_
      have hPc := hP.sub (ws' := [(sp, .inr (3, [.ref q1, .int (nI n)])), (q1, .inl (G.2.1, 200, .inl f1)), (k1, .inr (3, [.ref e1, .int (nI n)])), (e1, .inl (G.2.1, N2, .inl g1))]) [2, 3, 5, 6] rfl
      refine vp_callSi (va_runV (As := [.ref k1]) (rest := []) ⟨hx, hb, hml, hown, htb⟩ (qc_S_order l G sp q1 n 200 f1 k1 e1 N2 g1 hn hN.1 (by omega) hN.2 hf hg) (cwV 1 htb (qW_V qw_413 qw_414 qw_415 qw_16 qw_416) rfl rfl rfl (by decide +kernel) ⟨Nat.le_of_ble_eq_true rfl, Nat.le_of_ble_eq_true rfl⟩) (qk_pv (ci := 3) (q0 := 0) hK hPc hN rfl rfl) rfl rfl hl.1 rfl (lv_room (Nat.le_of_ble_eq_true rfl)) dX4_orderAgainst_51 ⟨Nat.le_of_ble_eq_true rfl, Nat.le_of_ble_eq_true rfl⟩).run (fun r_51 e_51 => ?_)
      exact W.iret (v := r_51) hx hb hr (fun t9 ht9 hW9 => ⟨_, rfl, ⟨_, e_8, Or.inr ⟨c1, _, e_31, Or.inr ⟨c2, e_51⟩⟩⟩, ht9⟩) (fun q h => absurd h List.not_mem_nil) dX4_orderAgainst_54
    · refine lv_iload_n hx hb dX4_orderAgainst_39 rfl (lv_at hl 0 rfl) ?_
      refine lv_goto (tgt := 54) hx hb dX4_orderAgainst_40 (by decide) ?_
      exact W.iret (v := r_31) hx hb hr (fun t9 ht9 hW9 => ⟨_, rfl, ⟨_, e_8, Or.inr ⟨c1, _, e_31, Or.inl ⟨c2, rfl⟩⟩⟩, ht9⟩) (fun q h => absurd h List.not_mem_nil) dX4_orderAgainst_54
  · refine lv_iload_n hx hb dX4_orderAgainst_16 rfl (lv_at hl 0 rfl) ?_
    exact W.iret (v := r_8) hx hb hr (fun t9 ht9 hW9 => ⟨_, rfl, ⟨_, e_8, Or.inl ⟨c1, rfl⟩⟩, ht9⟩) (fun q h => absurd h List.not_mem_nil) dX4_orderAgainst_17

set_option maxHeartbeats 4000000 in
set_option maxRecDepth 100000 in
/-- Steps.hasStepsOf -/
theorem qc_T_same (l : Launch) (G : qG) (h0 : Nat) (qr : Nat) (qp : Nat) (qd : Nat) (qc : Nat) (qf : Nat) (qt : Nat) (sp : Nat) (sc : Nat) (n : Nat) (q2 : Nat) (f2 : Nat → Int32) (hr : Nat) (tk : Int64) (k1 : Nat) (k2 : Nat) (m : Nat) (e1 : Nat) (g1 : Nat → Int32) (N2 : Nat) (e2 : Nat) (g2 : Nat → Int32) (hn : n ≤ 200) (hm : m ≤ 200) (hN : m ≤ N2 ∧ N2 ≤ 200) (hf : qm_srt f2 n) (hg : qm_srt g2 m) : Met l yX4_hasStepsOf wsX4_hasStepsOf ({ frames := 2, cells := 0, slots := 0, locals := 47 } : Room) (va_Pc [.ref h0, .ref hr] (qk_pre G vwCl [(h0, .inr (4, [.ref qr, .ref qp, .ref qd, .ref qc, .ref qf, .ref qt, .ref sp, .ref sc, .int (nI n)])), (sc, .inr (3, [.ref q2, .int (nI n)])), (q2, .inl (G.2.1, 200, .inl f2)), (hr, .inr (1, [.long tk, .ref k1, .ref k2])), (k2, .inr (3, [.ref e2, .int (nI m)])), (e2, .inl (G.2.1, N2, .inl g2))])) (vp_Si (fun r => (n = m ∧ (∀ v, qm_cnt f2 n v = qm_cnt g2 n v) ∧ r = nI 1) ∨ (¬ (n = m ∧ ∀ v, qm_cnt f2 n v = qm_cnt g2 n v) ∧ r = nI 0))) 0 0 (fun _ => False) := by
  refine Met.ofW (cc := cX4_hasStepsOf) (maxL := 2) (ret := (some .boolean)) (by decide) rfl ?_
  intro p e s m args below meth c s₁ B hml hv
  obtain ⟨rfl, hP, hK, hN⟩ := hv
  have hx := B.exec
  have hb := B.bytes
  have hr := B.returns
  have hlocks := B.notSynchronized
  have hts := atoms_spec (ws := wsX4_hasStepsOf) B.pre
  have htb := fun (w : Cond) (h : w ∈ qTb) => hts w (List.mem_cons_of_mem _ h)
  have hown : s.vm.findClass "GradeRows$Steps" = some m.cls := findClass_of_methodNamed B.named
  have hP : va_P G.1 vwCl [(h0, .inr (4, [.ref qr, .ref qp, .ref qd, .ref qc, .ref qf, .ref qt, .ref sp, .ref sc, .int (nI n)])), (sc, .inr (3, [.ref q2, .int (nI n)])), (q2, .inl (G.2.1, 200, .inl f2)), (hr, .inr (1, [.long tk, .ref k1, .ref k2])), (k2, .inr (3, [.ref e2, .int (nI m)])), (e2, .inl (G.2.1, N2, .inl g2))] s.heap := hP
  have hl := lv_entry ([.ref h0, .ref hr]) (n := 2) (Nat.le_of_ble_eq_true rfl)
  rw [lg_entry_eq]
  generalize (lg_sl ([.ref h0, .ref hr]) ++ List.replicate (2 - (lg_sl ([.ref h0, .ref hr])).length) Slot.unset).toArray = ls at hl ⊢
  have hl : lv_has ls 2 [(0, .ref h0), (1, .ref hr)] := hl
  refine lv_aload_n hx hb dX4_hasStepsOf_0 rfl (lv_at hl 0 rfl) ?_
  refine va_get (D := G.1) (ci := 4) (v := .ref sc) (C := "GradeRows$Steps") (T := TX4) (N := 9) hx hb htb inX4 hown hK hP 0 rfl rfl 7 (by decide) (htb _ qw_82) (fun _ h9 => h9) rfl dX4_hasStepsOf_1 ?_
  have hPc := hP.sub (ws' := [(sc, .inr (3, [.ref q2, .int (nI n)]))]) [1] rfl
  refine vp_callSi (va_runV (As := []) (rest := []) ⟨hx, hb, hml, hown, htb⟩ (qc_S_size l G sc q2 n) (cwV 0 htb (qW_V qw_409 qw_410 qw_411 qw_16 qw_412) rfl rfl rfl (by decide +kernel) ⟨Nat.le_of_ble_eq_true rfl, Nat.le_of_ble_eq_true rfl⟩) (qk_pv (ci := 3) (q0 := 0) hK hPc hN rfl rfl) rfl rfl hl.1 rfl (lv_room (Nat.le_of_ble_eq_true rfl)) dX4_hasStepsOf_4 ⟨Nat.le_of_ble_eq_true rfl, Nat.le_of_ble_eq_true rfl⟩).run (fun r_4 e_4 => ?_)
  subst e_4
  refine lv_aload_n hx hb dX4_hasStepsOf_7 rfl (lv_at hl 1 rfl) ?_
  refine va_getN (D := G.1) (ci := 1) (v := .ref k2) (C := "GradeRows$Row") (T := TX1) (N := 3) hx hb htb inX1 hown hK hP 3 rfl rfl 2 (by decide) (va_Nw.use rfl (hN.1 _ qw_386)) (fun _ h9 => h9) rfl dX4_hasStepsOf_8 ?_
  have hPc := hP.sub (ws' := [(k2, .inr (3, [.ref e2, .int (nI m)]))]) [4] rfl
  refine vp_callSi (va_runV (As := []) (rest := [.int (nI n)]) ⟨hx, hb, hml, hown, htb⟩ (qc_S_size l G k2 e2 m) (cwV 0 htb (qW_V qw_409 qw_410 qw_411 qw_16 qw_412) rfl rfl rfl (by decide +kernel) ⟨Nat.le_of_ble_eq_true rfl, Nat.le_of_ble_eq_true rfl⟩) (qk_pv (ci := 3) (q0 := 0) hK hPc hN rfl rfl) rfl rfl hl.1 rfl (lv_room (Nat.le_of_ble_eq_true rfl)) dX4_hasStepsOf_11 ⟨Nat.le_of_ble_eq_true rfl, Nat.le_of_ble_eq_true rfl⟩).run (fun r_11 e_11 => ?_)
  subst e_11
  refine lv_icmp_ne (tgt := 35) hx hb dX4_hasStepsOf_14 (by decide) (fun c1 => ?_) (fun c1 => ?_)
  · have c1 : ¬ (n = m) := fun q9 => c1 ((nI_eq (by omega) (by omega)).mpr q9)
    refine lv_iconst (v := nI 0) hx hb dX4_hasStepsOf_35 (by decide) ?_
    exact W.zret (v := nI 0) (ty := .boolean) hx hb hr (by decide) (fun t9 ht9 hW9 => ⟨_, rfl, Or.inr ⟨fun h => c1 h.1, rfl⟩, ht9⟩) (fun q h => absurd h List.not_mem_nil) dX4_hasStepsOf_36
  · have c1 : n = m := (nI_eq (by omega) (by omega)).mp c1
    subst c1
    refine lv_aload_n hx hb dX4_hasStepsOf_17 rfl (lv_at hl 0 rfl) ?_
    refine va_get (D := G.1) (ci := 4) (v := .ref sc) (C := "GradeRows$Steps") (T := TX4) (N := 9) hx hb htb inX4 hown hK hP 0 rfl rfl 7 (by decide) (htb _ qw_82) (fun _ h9 => h9) rfl dX4_hasStepsOf_18 ?_
    refine lv_aload_n hx hb dX4_hasStepsOf_21 rfl (lv_at hl 1 rfl) ?_
    refine va_getN (D := G.1) (ci := 1) (v := .ref k2) (C := "GradeRows$Row") (T := TX1) (N := 3) hx hb htb inX1 hown hK hP 3 rfl rfl 2 (by decide) (va_Nw.use rfl (hN.1 _ qw_386)) (fun _ h9 => h9) rfl dX4_hasStepsOf_22 ?_
    have hPc := hP.sub (ws' := [(sc, .inr (3, [.ref q2, .int (nI n)])), (q2, .inl (G.2.1, 200, .inl f2)), (k2, .inr (3, [.ref e2, .int (nI n)])), (e2, .inl (G.2.1, N2, .inl g2))]) [1, 2, 4, 5] rfl
    refine vp_callSi (va_runV (As := [.ref k2]) (rest := []) ⟨hx, hb, hml, hown, htb⟩ (qc_S_order l G sc q2 n 200 f2 k2 e2 N2 g2 hn hN.1 (by omega) hN.2 hf hg) (cwV 1 htb (qW_V qw_413 qw_414 qw_415 qw_16 qw_416) rfl rfl rfl (by decide +kernel) ⟨Nat.le_of_ble_eq_true rfl, Nat.le_of_ble_eq_true rfl⟩) (qk_pv (ci := 3) (q0 := 0) hK hPc hN rfl rfl) rfl rfl hl.1 rfl (lv_room (Nat.le_of_ble_eq_true rfl)) dX4_hasStepsOf_25 ⟨Nat.le_of_ble_eq_true rfl, Nat.le_of_ble_eq_true rfl⟩).run (fun r_25 e_25 => ?_)
    refine lv_if_ne (tgt := 35) hx hb dX4_hasStepsOf_28 (by decide) (fun c2 => ?_) (fun c2 => ?_)
    · refine lv_iconst (v := nI 0) hx hb dX4_hasStepsOf_35 (by decide) ?_
      exact W.zret (v := nI 0) (ty := .boolean) hx hb hr (by decide) (fun t9 ht9 hW9 => ⟨_, rfl, Or.inr ⟨fun h => c2 (qm_ord_z e_25 h.2), rfl⟩, ht9⟩) (fun q h => absurd h List.not_mem_nil) dX4_hasStepsOf_36
    · refine lv_iconst (v := nI 1) hx hb dX4_hasStepsOf_31 (by decide) ?_
      refine lv_goto (tgt := 36) hx hb dX4_hasStepsOf_32 (by decide) ?_
      exact W.zret (v := nI 1) (ty := .boolean) hx hb hr (by decide) (fun t9 ht9 hW9 => ⟨_, rfl, Or.inl ⟨rfl, qm_ord_0 e_25 c2, rfl⟩, ht9⟩) (fun q h => absurd h List.not_mem_nil) dX4_hasStepsOf_36
end
section
set_option maxHeartbeats 4000000 in
set_option maxRecDepth 100000 in
/-- the reference: count -/
theorem qc_M_count (l : Launch) (G : qG) (h0 : Nat) (th : Int32) (nr : Nat) (qw : Nat) (qx : Nat) (qz : Nat) (qb : Nat) (qh : Nat) (qd : Nat) (kn : Nat) (nc : Nat) (ql : Nat) (qg : Nat) (cur : Nat) (qs : Nat) (qm : Nat) (qt : Nat) (fz : Nat → Int32) (n : Nat) (hz : fz 10 = nI n) : Met l yX6_count wsX6_count ({ frames := 0, cells := 0, slots := 0, locals := 0 } : Room) (va_Pc [.ref h0] (qk_pre G vwCl [(h0, .inr (6, [.int th, .int (nI nr), .ref qw, .ref qx, .ref qz, .ref qb, .ref qh, .ref qd, .int (nI kn), .int (nI nc), .ref ql, .ref qg, .int (nI cur), .ref qs, .ref qm, .ref qt])), (qz, .inl (G.2.1, 11, .inl fz))])) (vp_Si (fun r => r = nI n)) 0 0 (fun _ => False) := by
  refine Met.ofW (cc := cX6_count) (maxL := 1) (ret := (some .int)) (by decide) rfl ?_
  intro p e s m args below meth c s₁ B hml hv
  obtain ⟨rfl, hP, hK, hN⟩ := hv
  have hx := B.exec
  have hb := B.bytes
  have hr := B.returns
  have hlocks := B.notSynchronized
  have hts := atoms_spec (ws := wsX6_count) B.pre
  have htb := fun (w : Cond) (h : w ∈ qTb) => hts w (List.mem_cons_of_mem _ h)
  have hown : s.vm.findClass "GradeRowsModel" = some m.cls := findClass_of_methodNamed B.named
  have hP : va_P G.1 vwCl [(h0, .inr (6, [.int th, .int (nI nr), .ref qw, .ref qx, .ref qz, .ref qb, .ref qh, .ref qd, .int (nI kn), .int (nI nc), .ref ql, .ref qg, .int (nI cur), .ref qs, .ref qm, .ref qt])), (qz, .inl (G.2.1, 11, .inl fz))] s.heap := hP
  have hl := lv_entry ([.ref h0]) (n := 1) (Nat.le_of_ble_eq_true rfl)
  rw [lg_entry_eq]
  generalize (lg_sl ([.ref h0]) ++ List.replicate (1 - (lg_sl ([.ref h0])).length) Slot.unset).toArray = ls at hl ⊢
  have hl : lv_has ls 1 [(0, .ref h0)] := hl
  refine lv_aload_n hx hb dX6_count_0 rfl (lv_at hl 0 rfl) ?_
  refine va_get (D := G.1) (ci := 6) (v := .ref qz) (C := "GradeRowsModel") (T := TX6) (N := 16) hx hb htb inX6 hown hK hP 0 rfl rfl 4 (by decide) (htb _ qw_437) (fun _ h9 => h9) rfl dX6_count_1 ?_
  refine lv_bipush (v := nI 10) hx hb dX6_count_4 (by decide) ?_
  refine qk_iald hx hb hK hP 1 0 rfl rfl (i := 10) (by omega) (by omega) (v := nI n) hz dX6_count_6 ?_
  exact W.iret (v := nI n) hx hb hr (fun t9 ht9 hW9 => ⟨_, rfl, rfl, ht9⟩) (fun q h => absurd h List.not_mem_nil) dX6_count_7

set_option maxHeartbeats 4000000 in
set_option maxRecDepth 100000 in
/-- the reference: way -/
theorem qc_M_way (l : Launch) (G : qG) (x : Int64) (y : Int64)  : Met l yX6_way wsX6_way ({ frames := 0, cells := 0, slots := 0, locals := 0 } : Room) (va_Pc [.long x, .long y] (qk_pre G vwCl [])) (vp_Si (fun r => qm_sg x y r)) 0 0 (fun _ => False) := by
  refine Met.ofW (cc := cX6_way) (maxL := 4) (ret := (some .int)) (by decide) rfl ?_
  intro p e s m args below meth c s₁ B hml hv
  obtain ⟨rfl, hP, hK, hN⟩ := hv
  have hx := B.exec
  have hb := B.bytes
  have hr := B.returns
  have hlocks := B.notSynchronized
  have hts := atoms_spec (ws := wsX6_way) B.pre
  have htb := fun (w : Cond) (h : w ∈ qTb) => hts w (List.mem_cons_of_mem _ h)
  have hown : s.vm.findClass "GradeRowsModel" = some m.cls := findClass_of_methodNamed B.named
  have hP : va_P G.1 vwCl [] s.heap := hP
  have hl := lv_entry ([.long x, .long y]) (n := 4) (Nat.le_of_ble_eq_true rfl)
  rw [lg_entry_eq]
  generalize (lg_sl ([.long x, .long y]) ++ List.replicate (4 - (lg_sl ([.long x, .long y])).length) Slot.unset).toArray = ls at hl ⊢
  have hl : lv_has ls 4 [(0, .long x), (2, .long y)] := hl
  refine lv_lload_n hx hb dX6_way_0 rfl (lv_at hl 0 rfl) ?_
  refine lv_lload_n hx hb dX6_way_1 rfl (lv_at hl 1 rfl) ?_
  refine W.lcmp hx hb dX6_way_2 ?_
  refine lv_if_ge (tgt := 10) hx hb dX6_way_3 (by decide) (fun c1 => ?_) (fun c1 => ?_)
  · have c1 : y ≤ x := (lg_cmp_ge _ _).mp c1
    refine lv_lload_n hx hb dX6_way_10 rfl (lv_at hl 0 rfl) ?_
    refine lv_lload_n hx hb dX6_way_11 rfl (lv_at hl 1 rfl) ?_
    refine W.lcmp hx hb dX6_way_12 ?_
    refine lv_if_le (tgt := 20) hx hb dX6_way_13 (by decide) (fun c2 => ?_) (fun c2 => ?_)
    · have c2 : x ≤ y := (lg_cmp_le _ _).mp c2
      refine lv_iconst (v := nI 0) hx hb dX6_way_20 (by decide) ?_
      exact W.iret (v := nI 0) hx hb hr (fun t9 ht9 hW9 => ⟨_, rfl, Or.inr (Or.inl ⟨by rw [Int64.le_iff_toInt_le] at c1 c2; rw [← Int64.toInt_inj]; omega, rfl⟩), ht9⟩) (fun q h => absurd h List.not_mem_nil) dX6_way_21
    · have c2 : ¬ (x ≤ y) := fun q9 => c2 ((lg_cmp_le _ _).mpr q9)
      refine lv_iconst (v := nI 1) hx hb dX6_way_16 (by decide) ?_
      refine lv_goto (tgt := 21) hx hb dX6_way_17 (by decide) ?_
      exact W.iret (v := nI 1) hx hb hr (fun t9 ht9 hW9 => ⟨_, rfl, Or.inr (Or.inr ⟨by rw [Int64.le_iff_toInt_le] at c2; rw [Int64.lt_iff_toInt_lt]; omega, rfl⟩), ht9⟩) (fun q h => absurd h List.not_mem_nil) dX6_way_21
  · have c1 : ¬ (y ≤ x) := fun q9 => c1 ((lg_cmp_ge _ _).mpr q9)
    refine lv_iconst (v := (-1)) hx hb dX6_way_6 (by decide) ?_
    refine lv_goto (tgt := 21) hx hb dX6_way_7 (by decide) ?_
    exact W.iret (v := (-1)) hx hb hr (fun t9 ht9 hW9 => ⟨_, rfl, Or.inl ⟨by rw [Int64.le_iff_toInt_le] at c1; rw [Int64.lt_iff_toInt_lt]; omega, rfl⟩, ht9⟩) (fun q h => absurd h List.not_mem_nil) dX6_way_21

set_option maxHeartbeats 4000000 in
set_option maxRecDepth 100000 in
/-- the reference: costOf -/
theorem qc_M_cost (l : Launch) (G : qG) (h0 : Nat) (th : Int32) (nr : Nat) (qw : Nat) (qx : Nat) (qz : Nat) (qb : Nat) (qh : Nat) (qd : Nat) (kn : Nat) (nc : Nat) (ql : Nat) (qg : Nat) (cur : Nat) (qs : Nat) (qm : Nat) (qt : Nat) (fw : Nat → Int32) (fx : Nat → Int32) (fb : Nat → Int32) (fh : Nat → Int32) (fd : Nat → Int32) (w : Nat → Nat) (x : Nat → Nat) (row : Nat) (s : Nat → qS) (k : Nat) (hrow : row ≤ 10) (hR : qm_okR nr w x) (hw : ∀ i, i < nr → fw i = nI (w i) ∧ fx i = nI (x i)) (hk : k < 200) (hs : ∀ j, j ≤ k → fb (200 * row + j) = nM (s j).1 ∧ fh (200 * row + j) = nI (s j).2.1 ∧ fd (200 * row + j) = nI (s j).2.2) (ho : ∀ j, j ≤ k → qm_okS nr (s j)) : Met l yX6_costOf wsX6_costOf ({ frames := 0, cells := 0, slots := 0, locals := 0 } : Room) (va_Pc [.ref h0, .int (nI row), .int (nI k)] (qk_pre G vwCl [(h0, .inr (6, [.int th, .int (nI nr), .ref qw, .ref qx, .ref qz, .ref qb, .ref qh, .ref qd, .int (nI kn), .int (nI nc), .ref ql, .ref qg, .int (nI cur), .ref qs, .ref qm, .ref qt])), (qw, .inl (G.2.1, 40, .inl fw)), (qx, .inl (G.2.1, 40, .inl fx)), (qb, .inl (G.2.1, 2200, .inl fb)), (qh, .inl (G.2.1, 2200, .inl fh)), (qd, .inl (G.2.1, 2200, .inl fd))])) (vp_Sl (fun r => r = lN (qm_cost w x s k))) 0 0 (fun _ => False) := by
  refine Met.ofW (cc := cX6_costOf) (maxL := 7) (ret := (some .long)) (by decide) rfl ?_
  intro p e s m args below meth c s₁ B hml hv
  obtain ⟨rfl, hP, hK, hN⟩ := hv
  have hx := B.exec
  have hb := B.bytes
  have hr := B.returns
  have hlocks := B.notSynchronized
  have hts := atoms_spec (ws := wsX6_costOf) B.pre
  have htb := fun (w : Cond) (h : w ∈ qTb) => hts w (List.mem_cons_of_mem _ h)
  have hown : s.vm.findClass "GradeRowsModel" = some m.cls := findClass_of_methodNamed B.named
  have hP : va_P G.1 vwCl [(h0, .inr (6, [.int th, .int (nI nr), .ref qw, .ref qx, .ref qz, .ref qb, .ref qh, .ref qd, .int (nI kn), .int (nI nc), .ref ql, .ref qg, .int (nI cur), .ref qs, .ref qm, .ref qt])), (qw, .inl (G.2.1, 40, .inl fw)), (qx, .inl (G.2.1, 40, .inl fx)), (qb, .inl (G.2.1, 2200, .inl fb)), (qh, .inl (G.2.1, 2200, .inl fh)), (qd, .inl (G.2.1, 2200, .inl fd))] s.heap := hP
  have hl := lv_entry ([.ref h0, .int (nI row), .int (nI k)]) (n := 7) (Nat.le_of_ble_eq_true rfl)
  rw [lg_entry_eq]
  generalize (lg_sl ([.ref h0, .int (nI row), .int (nI k)]) ++ List.replicate (7 - (lg_sl ([.ref h0, .int (nI row), .int (nI k)])).length) Slot.unset).toArray = ls at hl ⊢
  have hl : lv_has ls 7 [(0, .ref h0), (1, .int (nI row)), (2, .int (nI k))] := hl
  have hokk := ho k (Nat.le_refl k)
  have hr40 := hR.1
  have hz1 : (s k).1 ≤ 40 := by rcases hokk with h | h <;> omega
  have hz2 : (s k).2.1 ≤ 255 := by rcases hokk with h | h <;> omega
  have hsk := hs k (Nat.le_refl k)
  refine lv_sipush (v := nI 200) hx hb dX6_costOf_0 (by decide) ?_
  refine lv_iload_n hx hb dX6_costOf_3 rfl (lv_at hl 1 rfl) ?_
  refine lv_imul hx hb dX6_costOf_4 ?_
  refine qk_topi (t := nI (200 * row)) (pk_mul _ _) ?_
  refine lv_iload_n hx hb dX6_costOf_5 rfl (lv_at hl 2 rfl) ?_
  refine lv_iadd hx hb dX6_costOf_6 ?_
  refine qk_topi (t := nI ((200 * row) + k)) (nI_add _ _) ?_
  refine lv_istore_n (lv' := [(3, .int (nI ((200 * row) + k))), (0, .ref h0), (1, .int (nI row)), (2, .int (nI k))]) hx hb dX6_costOf_7 rfl hl (by decide) rfl (fun ls hl => ?_)
  refine lv_aload_n hx hb dX6_costOf_8 rfl (lv_at hl 1 rfl) ?_
  refine va_get (D := G.1) (ci := 6) (v := .ref qb) (C := "GradeRowsModel") (T := TX6) (N := 16) hx hb htb inX6 hown hK hP 0 rfl rfl 5 (by decide) (htb _ qw_438) (fun _ h9 => h9) rfl dX6_costOf_9 ?_
  refine lv_iload_n hx hb dX6_costOf_12 rfl (lv_at hl 0 rfl) ?_
  refine qk_iald hx hb hK hP 3 0 rfl rfl (i := ((200 * row) + k)) (by omega) (by omega) (v := nM (s k).1) hsk.1 dX6_costOf_13 ?_
  refine lv_iconst (v := (-1)) hx hb dX6_costOf_14 (by decide) ?_
  refine lv_icmp_ne (tgt := 53) hx hb dX6_costOf_15 (by decide) (fun cg => ?_) (fun cg => ?_)
  · have cg : ¬ ((s k).1 = 0) := fun q9 => cg ((nM_eq1 (by omega)).mpr q9)
    have hok1 : 1 ≤ (s k).1 ∧ (s k).1 ≤ nr ∧ (s k).2.2 ≤ 9 := by rcases hokk with h | h <;> omega
    have hmm := qm_w_le hR (b := (s k).2.2) hok1.1 hok1.2.1
    have hwk := hw ((s k).1 - 1) (by omega)
    have hxk := (hR.2 ((s k).1 - 1) (by omega))
    refine lv_iconst (v := nI 1) hx hb dX6_costOf_53 (by decide) ?_
    refine qk_topi (t := if qm_cnt (qm_rs s) 0 (s k).1 = 0 then nI 1 else nI 0) (if_pos rfl).symm ?_
    refine lv_istore (lv' := [(4, .int (if qm_cnt (qm_rs s) 0 (s k).1 = 0 then nI 1 else nI 0)), (3, .int (nI ((200 * row) + k))), (0, .ref h0), (1, .int (nI row)), (2, .int (nI k))]) hx hb dX6_costOf_54 hl (by decide) rfl (fun ls hl => ?_)
    refine lv_iconst (v := nI 0) hx hb dX6_costOf_56 (by decide) ?_
    refine lv_istore (lv' := [(5, .int (nI 0)), (4, .int (if qm_cnt (qm_rs s) 0 (s k).1 = 0 then nI 1 else nI 0)), (3, .int (nI ((200 * row) + k))), (0, .ref h0), (1, .int (nI row)), (2, .int (nI k))]) hx hb dX6_costOf_57 hl (by decide) rfl (fun ls hl => ?_)
    have loop_59 : ∀ (N : Nat) (j : Nat) (ls : Array Slot), k - j < N → (j ≤ k) → lv_has ls 7 [(5, .int (nI j)), (4, .int (if qm_cnt (qm_rs s) j (s k).1 = 0 then nI 1 else nI 0)), (3, .int (nI (200 * row + k))), (0, .ref h0), (1, .int (nI row)), (2, .int (nI k))] → W p l e (headSpec wsX6_costOf ({ frames := 0, cells := 0, slots := 0, locals := 0 } : Room)).room s m ([.ref h0, .int (nI row), .int (nI k)] : List Value).toArray below meth c s.heap [] 0 0 (MQ below (vp_Sl (fun r => r = lN (qm_cost w x s k))) ([.ref h0, .int (nI row), .int (nI k)] : List Value).toArray s 0 0 (fun _ => False)) (F0 m 59 ls []) := by
      intro N
      induction N with
      | zero => intro j ls hm; exact absurd hm (Nat.not_lt_zero _)
      | succ N ih =>
        intro j ls hm hj hl
        refine lv_iload hx hb dX6_costOf_59 (lv_at hl 0 rfl) ?_
        refine lv_iload_n hx hb dX6_costOf_61 rfl (lv_at hl 5 rfl) ?_
        refine lv_icmp_ge (tgt := 105) hx hb dX6_costOf_62 (by decide) (fun c_2 => ?_) (fun c_2 => ?_)
        · have c_2 : k ≤ j := (nI_leI (by omega) (by omega)).mp c_2
          refine lv_aload_n hx hb dX6_costOf_105 rfl (lv_at hl 3 rfl) ?_
          refine va_get (D := G.1) (ci := 6) (v := .ref qw) (C := "GradeRowsModel") (T := TX6) (N := 16) hx hb htb inX6 hown hK hP 0 rfl rfl 2 (by decide) (htb _ qw_435) (fun _ h9 => h9) rfl dX6_costOf_106 ?_
          refine lv_aload_n hx hb dX6_costOf_109 rfl (lv_at hl 3 rfl) ?_
          refine va_get (D := G.1) (ci := 6) (v := .ref qb) (C := "GradeRowsModel") (T := TX6) (N := 16) hx hb htb inX6 hown hK hP 0 rfl rfl 5 (by decide) (htb _ qw_438) (fun _ h9 => h9) rfl dX6_costOf_110 ?_
          refine lv_iload_n hx hb dX6_costOf_113 rfl (lv_at hl 2 rfl) ?_
          refine qk_iald hx hb hK hP 3 0 rfl rfl (i := (200 * row + k)) (by omega) (by omega) (v := nI ((s k).1 - 1)) (hsk.1.trans (nM_p (by omega))) dX6_costOf_114 ?_
          refine qk_iald hx hb hK hP 1 0 rfl rfl (i := ((s k).1 - 1)) (by omega) (by omega) (v := nI (w ((s k).1 - 1))) hwk.1 dX6_costOf_115 ?_
          refine lv_i2l (v := lN (w ((s k).1 - 1))) hx hb dX6_costOf_116 (nI_l (by omega)) ?_
          refine lv_bipush (v := nI 12) hx hb dX6_costOf_117 (by decide) ?_
          refine lv_aload_n hx hb dX6_costOf_119 rfl (lv_at hl 3 rfl) ?_
          refine va_get (D := G.1) (ci := 6) (v := .ref qd) (C := "GradeRowsModel") (T := TX6) (N := 16) hx hb htb inX6 hown hK hP 0 rfl rfl 7 (by decide) (htb _ qw_440) (fun _ h9 => h9) rfl dX6_costOf_120 ?_
          refine lv_iload_n hx hb dX6_costOf_123 rfl (lv_at hl 2 rfl) ?_
          refine qk_iald hx hb hK hP 5 0 rfl rfl (i := (200 * row + k)) (by omega) (by omega) (v := nI (s k).2.2) hsk.2.2 dX6_costOf_124 ?_
          refine lv_isub hx hb dX6_costOf_125 ?_
          refine qk_topi (t := nI (12 - (s k).2.2)) (pk_sub (by omega)) ?_
          refine lv_i2l (v := lN (12 - (s k).2.2)) hx hb dX6_costOf_126 (nI_l (by omega)) ?_
          refine lv_lmul hx hb dX6_costOf_127 ?_
          refine qk_topl (t := lN ((w ((s k).1 - 1)) * (12 - (s k).2.2))) (lN_mul _ _) ?_
          refine lv_ldc2 (v := 4) hx hb hown (htb _ qw_517) dX6_costOf_128 ?_
          refine qk_topl (t := lN 4) (by decide) ?_
          refine lv_ldiv hx hb dX6_costOf_131 (by decide) ?_
          refine qk_topl (t := lN (((w ((s k).1 - 1)) * (12 - (s k).2.2)) / 4)) (pk_lDiv (by omega) (by omega) (by omega)) ?_
          refine lv_lstore (lv' := [(5, .long (lN (((w ((s k).1 - 1)) * (12 - (s k).2.2)) / 4))), (4, .int (if qm_cnt (qm_rs s) j (s k).1 = 0 then nI 1 else nI 0)), (3, .int (nI (200 * row + k))), (0, .ref h0), (1, .int (nI row)), (2, .int (nI k))]) hx hb dX6_costOf_132 hl (by decide) rfl (fun ls hl => ?_)
          refine lv_iload hx hb dX6_costOf_134 (lv_at hl 1 rfl) ?_
          refine lv_if_eq (tgt := 157) hx hb dX6_costOf_136 (by decide) (fun cf => ?_) (fun cf => ?_)
          · have cf : ¬ (qm_cnt (qm_rs s) j (s k).1 = 0) := fun q9 => qk_ite0.mpr q9 cf
            refine lv_lload hx hb dX6_costOf_157 (lv_at hl 0 rfl) ?_
            exact W.lret (v := lN (((w ((s k).1 - 1)) * (12 - (s k).2.2)) / 4)) hx hb hr (fun t9 ht9 hW9 => ⟨_, rfl, by unfold qm_cost; rw [show j = k by omega] at cf; rw [if_neg (by omega), if_neg cf, Nat.add_zero], ht9⟩) (fun q h => absurd h List.not_mem_nil) dX6_costOf_159
          · have cf : qm_cnt (qm_rs s) j (s k).1 = 0 := qk_ite0.mp cf
            refine lv_lload hx hb dX6_costOf_139 (lv_at hl 0 rfl) ?_
            refine lv_aload_n hx hb dX6_costOf_141 rfl (lv_at hl 3 rfl) ?_
            refine va_get (D := G.1) (ci := 6) (v := .ref qx) (C := "GradeRowsModel") (T := TX6) (N := 16) hx hb htb inX6 hown hK hP 0 rfl rfl 3 (by decide) (htb _ qw_436) (fun _ h9 => h9) rfl dX6_costOf_142 ?_
            refine lv_aload_n hx hb dX6_costOf_145 rfl (lv_at hl 3 rfl) ?_
            refine va_get (D := G.1) (ci := 6) (v := .ref qb) (C := "GradeRowsModel") (T := TX6) (N := 16) hx hb htb inX6 hown hK hP 0 rfl rfl 5 (by decide) (htb _ qw_438) (fun _ h9 => h9) rfl dX6_costOf_146 ?_
            refine lv_iload_n hx hb dX6_costOf_149 rfl (lv_at hl 2 rfl) ?_
            refine qk_iald hx hb hK hP 3 0 rfl rfl (i := (200 * row + k)) (by omega) (by omega) (v := nI ((s k).1 - 1)) (hsk.1.trans (nM_p (by omega))) dX6_costOf_150 ?_
            refine qk_iald hx hb hK hP 2 0 rfl rfl (i := ((s k).1 - 1)) (by omega) (by omega) (v := nI (x ((s k).1 - 1))) hwk.2 dX6_costOf_151 ?_
            refine lv_i2l (v := lN (x ((s k).1 - 1))) hx hb dX6_costOf_152 (nI_l (by omega)) ?_
            refine lv_ladd hx hb dX6_costOf_153 ?_
            refine qk_topl (t := lN ((((w ((s k).1 - 1)) * (12 - (s k).2.2)) / 4) + (x ((s k).1 - 1)))) (lN_add _ _) ?_
            refine lv_goto (tgt := 159) hx hb dX6_costOf_154 (by decide) ?_
            exact W.lret (v := lN ((((w ((s k).1 - 1)) * (12 - (s k).2.2)) / 4) + (x ((s k).1 - 1)))) hx hb hr (fun t9 ht9 hW9 => ⟨_, rfl, by unfold qm_cost; rw [show j = k by omega] at cf; rw [if_neg (by omega), if_pos cf], ht9⟩) (fun q h => absurd h List.not_mem_nil) dX6_costOf_159
        · have c_2 : ¬ (k ≤ j) := fun q9 => c_2 ((nI_leI (by omega) (by omega)).mpr q9)
          refine lv_iload hx hb dX6_costOf_65 (lv_at hl 1 rfl) ?_
          refine lv_if_eq (tgt := 96) hx hb dX6_costOf_67 (by decide) (fun c1 => ?_) (fun c1 => ?_)
          · have c1 : ¬ (qm_cnt (qm_rs s) j (s k).1 = 0) := fun q9 => qk_ite0.mpr q9 c1
            refine lv_iconst (v := nI 0) hx hb dX6_costOf_96 (by decide) ?_
            refine qk_topi (t := if qm_cnt (qm_rs s) (j + 1) (s k).1 = 0 then nI 1 else nI 0) (if_neg (qm_cnt_s1 (by first | exact Or.inl c1 | exact Or.inr c2))).symm ?_
            refine lv_istore (lv' := [(4, .int (if qm_cnt (qm_rs s) (j + 1) (s k).1 = 0 then nI 1 else nI 0)), (5, .int (nI j)), (3, .int (nI (200 * row + k))), (0, .ref h0), (1, .int (nI row)), (2, .int (nI k))]) hx hb dX6_costOf_97 hl (by decide) rfl (fun ls hl => ?_)
            refine lv_iinc (v := nI (j + 1)) (lv' := [(5, .int (nI (j + 1))), (4, .int (if qm_cnt (qm_rs s) (j + 1) (s k).1 = 0 then nI 1 else nI 0)), (3, .int (nI (200 * row + k))), (0, .ref h0), (1, .int (nI row)), (2, .int (nI k))]) hx hb dX6_costOf_99 hl (k := 1) rfl (nI_1 j) (by decide) rfl (fun ls hl => ?_)
            refine lv_goto (tgt := 59) hx hb dX6_costOf_102 (by decide) ?_
            exact ih (j + 1) ls (by omega) (by omega) (lv_sub hl [0, 1, 2, 3, 4, 5] rfl)
          · have c1 : qm_cnt (qm_rs s) j (s k).1 = 0 := qk_ite0.mp c1
            refine lv_aload_n hx hb dX6_costOf_70 rfl (lv_at hl 3 rfl) ?_
            refine va_get (D := G.1) (ci := 6) (v := .ref qb) (C := "GradeRowsModel") (T := TX6) (N := 16) hx hb htb inX6 hown hK hP 0 rfl rfl 5 (by decide) (htb _ qw_438) (fun _ h9 => h9) rfl dX6_costOf_71 ?_
            refine lv_sipush (v := nI 200) hx hb dX6_costOf_74 (by decide) ?_
            refine lv_iload_n hx hb dX6_costOf_77 rfl (lv_at hl 4 rfl) ?_
            refine lv_imul hx hb dX6_costOf_78 ?_
            refine qk_topi (t := nI (200 * row)) (pk_mul _ _) ?_
            refine lv_iload hx hb dX6_costOf_79 (lv_at hl 0 rfl) ?_
            refine lv_iadd hx hb dX6_costOf_81 ?_
            refine qk_topi (t := nI ((200 * row) + j)) (nI_add _ _) ?_
            have hz4 : (s j).1 ≤ 40 := by rcases ho j (by omega) with h | h <;> omega
            refine qk_iald hx hb hK hP 3 0 rfl rfl (i := ((200 * row) + j)) (by omega) (by omega) (v := nM (s j).1) (hs j (by omega)).1 dX6_costOf_82 ?_
            refine lv_aload_n hx hb dX6_costOf_83 rfl (lv_at hl 3 rfl) ?_
            refine va_get (D := G.1) (ci := 6) (v := .ref qb) (C := "GradeRowsModel") (T := TX6) (N := 16) hx hb htb inX6 hown hK hP 0 rfl rfl 5 (by decide) (htb _ qw_438) (fun _ h9 => h9) rfl dX6_costOf_84 ?_
            refine lv_iload_n hx hb dX6_costOf_87 rfl (lv_at hl 2 rfl) ?_
            refine qk_iald hx hb hK hP 3 0 rfl rfl (i := (200 * row + k)) (by omega) (by omega) (v := nM (s k).1) hsk.1 dX6_costOf_88 ?_
            refine lv_icmp_eq (tgt := 96) hx hb dX6_costOf_89 (by decide) (fun c2 => ?_) (fun c2 => ?_)
            · have c2 : (s j).1 = (s k).1 := (nM_eq (by omega) (by omega)).mp c2
              refine lv_iconst (v := nI 0) hx hb dX6_costOf_96 (by decide) ?_
              refine qk_topi (t := if qm_cnt (qm_rs s) (j + 1) (s k).1 = 0 then nI 1 else nI 0) (if_neg (qm_cnt_s1 (by first | exact Or.inl c1 | exact Or.inr c2))).symm ?_
              refine lv_istore (lv' := [(4, .int (if qm_cnt (qm_rs s) (j + 1) (s k).1 = 0 then nI 1 else nI 0)), (5, .int (nI j)), (3, .int (nI (200 * row + k))), (0, .ref h0), (1, .int (nI row)), (2, .int (nI k))]) hx hb dX6_costOf_97 hl (by decide) rfl (fun ls hl => ?_)
              refine lv_iinc (v := nI (j + 1)) (lv' := [(5, .int (nI (j + 1))), (4, .int (if qm_cnt (qm_rs s) (j + 1) (s k).1 = 0 then nI 1 else nI 0)), (3, .int (nI (200 * row + k))), (0, .ref h0), (1, .int (nI row)), (2, .int (nI k))]) hx hb dX6_costOf_99 hl (k := 1) rfl (nI_1 j) (by decide) rfl (fun ls hl => ?_)
              refine lv_goto (tgt := 59) hx hb dX6_costOf_102 (by decide) ?_
              exact ih (j + 1) ls (by omega) (by omega) (lv_sub hl [0, 1, 2, 3, 4, 5] rfl)
            · have c2 : ¬ ((s j).1 = (s k).1) := fun q9 => c2 ((nM_eq (by omega) (by omega)).mpr q9)
              refine lv_iconst (v := nI 1) hx hb dX6_costOf_92 (by decide) ?_
              refine lv_goto (tgt := 97) hx hb dX6_costOf_93 (by decide) ?_
              refine qk_topi (t := if qm_cnt (qm_rs s) (j + 1) (s k).1 = 0 then nI 1 else nI 0) (if_pos (qm_cnt_s0 c1 c2)).symm ?_
              refine lv_istore (lv' := [(4, .int (if qm_cnt (qm_rs s) (j + 1) (s k).1 = 0 then nI 1 else nI 0)), (5, .int (nI j)), (3, .int (nI (200 * row + k))), (0, .ref h0), (1, .int (nI row)), (2, .int (nI k))]) hx hb dX6_costOf_97 hl (by decide) rfl (fun ls hl => ?_)
              refine lv_iinc (v := nI (j + 1)) (lv' := [(5, .int (nI (j + 1))), (4, .int (if qm_cnt (qm_rs s) (j + 1) (s k).1 = 0 then nI 1 else nI 0)), (3, .int (nI (200 * row + k))), (0, .ref h0), (1, .int (nI row)), (2, .int (nI k))]) hx hb dX6_costOf_99 hl (k := 1) rfl (nI_1 j) (by decide) rfl (fun ls hl => ?_)
              refine lv_goto (tgt := 59) hx hb dX6_costOf_102 (by decide) ?_
              exact ih (j + 1) ls (by omega) (by omega) (lv_sub hl [0, 1, 2, 3, 4, 5] rfl)
    exact loop_59 (k - 0 + 1) 0 ls (by omega) (Nat.zero_le k) (lv_sub hl [0, 1, 2, 3, 4, 5] rfl)
  · have cg : (s k).1 = 0 := (nM_eq1 (by omega)).mp cg
    have cg : (s k).1 = 0 := cg
    refine lv_ldc2 (v := 1000) hx hb hown (htb _ qw_516) dX6_costOf_18 ?_
    refine qk_topl (t := lN 1000) (by decide) ?_
    refine lv_aload_n hx hb dX6_costOf_21 rfl (lv_at hl 1 rfl) ?_
    refine va_get (D := G.1) (ci := 6) (v := .ref qh) (C := "GradeRowsModel") (T := TX6) (N := 16) hx hb htb inX6 hown hK hP 0 rfl rfl 6 (by decide) (htb _ qw_439) (fun _ h9 => h9) rfl dX6_costOf_22 ?_
    refine lv_iload_n hx hb dX6_costOf_25 rfl (lv_at hl 0 rfl) ?_
    refine qk_iald hx hb hK hP 4 0 rfl rfl (i := ((200 * row) + k)) (by omega) (by omega) (v := nI (s k).2.1) hsk.2.1 dX6_costOf_26 ?_
    refine lv_i2l (v := lN (s k).2.1) hx hb dX6_costOf_27 (nI_l (by omega)) ?_
    refine lv_lmul hx hb dX6_costOf_28 ?_
    refine qk_topl (t := lN (1000 * (s k).2.1)) (lN_mul _ _) ?_
    refine lv_iload_n hx hb dX6_costOf_29 rfl (lv_at hl 3 rfl) ?_
    refine lv_if_le (tgt := 49) hx hb dX6_costOf_30 (by decide) (fun ck => ?_) (fun ck => ?_)
    · have ck : k ≤ 0 := (z0le (by omega)).mp ck
      refine lv_iconst (v := nI 1) hx hb dX6_costOf_49 (by decide) ?_
      refine lv_i2l (v := lN 1) hx hb dX6_costOf_50 (nI_l (by omega)) ?_
      refine lv_lmul hx hb dX6_costOf_51 ?_
      refine qk_topl (t := lN ((1000 * (s k).2.1) * 1)) (lN_mul _ _) ?_
      exact W.lret (v := lN ((1000 * (s k).2.1) * 1)) hx hb hr (fun t9 ht9 hW9 => ⟨_, rfl, by unfold qm_cost; rw [if_pos cg, if_neg (by omega)]; congr 1; omega, ht9⟩) (fun q h => absurd h List.not_mem_nil) dX6_costOf_52
    · have ck : ¬ (k ≤ 0) := fun q9 => ck ((z0le (by omega)).mpr q9)
      refine lv_aload_n hx hb dX6_costOf_33 rfl (lv_at hl 1 rfl) ?_
      refine va_get (D := G.1) (ci := 6) (v := .ref qb) (C := "GradeRowsModel") (T := TX6) (N := 16) hx hb htb inX6 hown hK hP 0 rfl rfl 5 (by decide) (htb _ qw_438) (fun _ h9 => h9) rfl dX6_costOf_34 ?_
      refine lv_iload_n hx hb dX6_costOf_37 rfl (lv_at hl 0 rfl) ?_
      refine lv_iconst (v := nI 1) hx hb dX6_costOf_38 (by decide) ?_
      refine lv_isub hx hb dX6_costOf_39 ?_
      refine qk_topi (t := nI (((200 * row) + k) - 1)) (pk_sub (by omega)) ?_
      have hz3 : (s (k - 1)).1 ≤ 40 := by rcases ho (k - 1) (by omega) with h | h <;> omega
      refine qk_iald hx hb hK hP 3 0 rfl rfl (i := (((200 * row) + k) - 1)) (by omega) (by omega) (v := nM (s (k - 1)).1) (by rw [show 200 * row + k - 1 = 200 * row + (k - 1) by omega]; exact (hs (k - 1) (by omega)).1) dX6_costOf_40 ?_
      refine lv_iconst (v := (-1)) hx hb dX6_costOf_41 (by decide) ?_
      refine lv_icmp_ne (tgt := 49) hx hb dX6_costOf_42 (by decide) (fun cp => ?_) (fun cp => ?_)
      · have cp : ¬ ((s (k - 1)).1 = 0) := fun q9 => cp ((nM_eq1 (by omega)).mpr q9)
        refine lv_iconst (v := nI 1) hx hb dX6_costOf_49 (by decide) ?_
        refine lv_i2l (v := lN 1) hx hb dX6_costOf_50 (nI_l (by omega)) ?_
        refine lv_lmul hx hb dX6_costOf_51 ?_
        refine qk_topl (t := lN ((1000 * (s k).2.1) * 1)) (lN_mul _ _) ?_
        exact W.lret (v := lN ((1000 * (s k).2.1) * 1)) hx hb hr (fun t9 ht9 hW9 => ⟨_, rfl, by unfold qm_cost; rw [if_pos cg, if_neg (by omega)]; congr 1; omega, ht9⟩) (fun q h => absurd h List.not_mem_nil) dX6_costOf_52
      · have cp : (s (k - 1)).1 = 0 := (nM_eq1 (by omega)).mp cp
        refine lv_iconst (v := nI 2) hx hb dX6_costOf_45 (by decide) ?_
        refine lv_goto (tgt := 50) hx hb dX6_costOf_46 (by decide) ?_
        refine lv_i2l (v := lN 2) hx hb dX6_costOf_50 (nI_l (by omega)) ?_
        refine lv_lmul hx hb dX6_costOf_51 ?_
        refine qk_topl (t := lN ((1000 * (s k).2.1) * 2)) (lN_mul _ _) ?_
        exact W.lret (v := lN ((1000 * (s k).2.1) * 2)) hx hb hr (fun t9 ht9 hW9 => ⟨_, rfl, by unfold qm_cost; rw [if_pos cg, if_pos ⟨by omega, cp⟩]; congr 1; omega, ht9⟩) (fun q h => absurd h List.not_mem_nil) dX6_costOf_52

set_option maxHeartbeats 4000000 in
set_option maxRecDepth 100000 in
/-- the reference: sumOf -/
theorem qc_M_sum (l : Launch) (G : qG) (h0 : Nat) (th : Int32) (nr : Nat) (qw : Nat) (qx : Nat) (qz : Nat) (qb : Nat) (qh : Nat) (qd : Nat) (kn : Nat) (nc : Nat) (ql : Nat) (qg : Nat) (cur : Nat) (qs : Nat) (qm : Nat) (qt : Nat) (fw : Nat → Int32) (fx : Nat → Int32) (fb : Nat → Int32) (fh : Nat → Int32) (fd : Nat → Int32) (w : Nat → Nat) (x : Nat → Nat) (row : Nat) (s : Nat → qS) (fz : Nat → Int32) (z : Nat) (n : Nat) (hrow : row ≤ 10) (hR : qm_okR nr w x) (hw : ∀ i, i < nr → fw i = nI (w i) ∧ fx i = nI (x i)) (hz : z ≤ 200) (hs : ∀ j, j < z → fb (200 * row + j) = nM (s j).1 ∧ fh (200 * row + j) = nI (s j).2.1 ∧ fd (200 * row + j) = nI (s j).2.2) (ho : ∀ j, j < z → qm_okS nr (s j)) (hzr : fz row = nI z) (hn : n < 2 ^ 31) : Met l yX6_sumOf wsX6_sumOf ({ frames := 1, cells := 0, slots := 0, locals := 26 } : Room) (va_Pc [.ref h0, .int (nI row), .int (nI n)] (qk_pre G vwCl [(h0, .inr (6, [.int th, .int (nI nr), .ref qw, .ref qx, .ref qz, .ref qb, .ref qh, .ref qd, .int (nI kn), .int (nI nc), .ref ql, .ref qg, .int (nI cur), .ref qs, .ref qm, .ref qt])), (qw, .inl (G.2.1, 40, .inl fw)), (qx, .inl (G.2.1, 40, .inl fx)), (qb, .inl (G.2.1, 2200, .inl fb)), (qh, .inl (G.2.1, 2200, .inl fh)), (qd, .inl (G.2.1, 2200, .inl fd)), (qz, .inl (G.2.1, 11, .inl fz))])) (vp_Sl (fun r => r = lN (qm_sum (qm_cost w x s) (if n < z then n else z)))) 0 0 (fun _ => False) := by
  refine Met.ofW (cc := cX6_sumOf) (maxL := 6) (ret := (some .long)) (by decide) rfl ?_
  intro p e s m args below meth c s₁ B hml hv
  obtain ⟨rfl, hP, hK, hN⟩ := hv
  have hx := B.exec
  have hb := B.bytes
  have hr := B.returns
  have hlocks := B.notSynchronized
  have hts := atoms_spec (ws := wsX6_sumOf) B.pre
  have htb := fun (w : Cond) (h : w ∈ qTb) => hts w (List.mem_cons_of_mem _ h)
  have hown : s.vm.findClass "GradeRowsModel" = some m.cls := findClass_of_methodNamed B.named
  have hP : va_P G.1 vwCl [(h0, .inr (6, [.int th, .int (nI nr), .ref qw, .ref qx, .ref qz, .ref qb, .ref qh, .ref qd, .int (nI kn), .int (nI nc), .ref ql, .ref qg, .int (nI cur), .ref qs, .ref qm, .ref qt])), (qw, .inl (G.2.1, 40, .inl fw)), (qx, .inl (G.2.1, 40, .inl fx)), (qb, .inl (G.2.1, 2200, .inl fb)), (qh, .inl (G.2.1, 2200, .inl fh)), (qd, .inl (G.2.1, 2200, .inl fd)), (qz, .inl (G.2.1, 11, .inl fz))] s.heap := hP
  have hl := lv_entry ([.ref h0, .int (nI row), .int (nI n)]) (n := 6) (Nat.le_of_ble_eq_true rfl)
  rw [lg_entry_eq]
  generalize (lg_sl ([.ref h0, .int (nI row), .int (nI n)]) ++ List.replicate (6 - (lg_sl ([.ref h0, .int (nI row), .int (nI n)])).length) Slot.unset).toArray = ls at hl ⊢
  have hl : lv_has ls 6 [(0, .ref h0), (1, .int (nI row)), (2, .int (nI n))] := hl
  refine lv_lconst (v := lN 0) hx hb dX6_sumOf_0 (by decide) ?_
  refine lv_lstore_n (lv' := [(3, .long (lN 0)), (0, .ref h0), (1, .int (nI row)), (2, .int (nI n))]) hx hb dX6_sumOf_1 rfl hl (by decide) rfl (fun ls hl => ?_)
  refine lv_iconst (v := nI 0) hx hb dX6_sumOf_2 (by decide) ?_
  refine lv_istore (lv' := [(5, .int (nI 0)), (3, .long (lN 0)), (0, .ref h0), (1, .int (nI row)), (2, .int (nI n))]) hx hb dX6_sumOf_3 hl (by decide) rfl (fun ls hl => ?_)
  have loop_5 : ∀ (N : Nat) (k : Nat) (ls : Array Slot), z - k < N → (k ≤ n ∧ k ≤ z) → lv_has ls 6 [(5, .int (nI k)), (3, .long (lN (qm_sum (qm_cost w x s) k))), (0, .ref h0), (1, .int (nI row)), (2, .int (nI n))] → W p l e (headSpec wsX6_sumOf ({ frames := 1, cells := 0, slots := 0, locals := 26 } : Room)).room s m ([.ref h0, .int (nI row), .int (nI n)] : List Value).toArray below meth c s.heap [] 0 0 (MQ below (vp_Sl (fun r => r = lN (qm_sum (qm_cost w x s) (if n < z then n else z)))) ([.ref h0, .int (nI row), .int (nI n)] : List Value).toArray s 0 0 (fun _ => False)) (F0 m 5 ls []) := by
    intro N
    induction N with
    | zero => intro k ls hm; exact absurd hm (Nat.not_lt_zero _)
    | succ N ih =>
      intro k ls hm hk hl
      refine lv_iload hx hb dX6_sumOf_5 (lv_at hl 0 rfl) ?_
      refine lv_iload_n hx hb dX6_sumOf_7 rfl (lv_at hl 4 rfl) ?_
      refine lv_icmp_ge (tgt := 38) hx hb dX6_sumOf_8 (by decide) (fun c1 => ?_) (fun c1 => ?_)
      · have c1 : n ≤ k := (nI_leI (by omega) (by omega)).mp c1
        refine lv_lload_n hx hb dX6_sumOf_38 rfl (lv_at hl 1 rfl) ?_
        exact W.lret (v := lN (qm_sum (qm_cost w x s) k)) hx hb hr (fun t9 ht9 hW9 => ⟨_, rfl, by congr 2; split <;> omega, ht9⟩) (fun q h => absurd h List.not_mem_nil) dX6_sumOf_39
      · have c1 : ¬ (n ≤ k) := fun q9 => c1 ((nI_leI (by omega) (by omega)).mpr q9)
        refine lv_iload hx hb dX6_sumOf_11 (lv_at hl 0 rfl) ?_
        refine lv_aload_n hx hb dX6_sumOf_13 rfl (lv_at hl 2 rfl) ?_
        refine va_get (D := G.1) (ci := 6) (v := .ref qz) (C := "GradeRowsModel") (T := TX6) (N := 16) hx hb htb inX6 hown hK hP 0 rfl rfl 4 (by decide) (htb _ qw_437) (fun _ h9 => h9) rfl dX6_sumOf_14 ?_
        refine lv_iload_n hx hb dX6_sumOf_17 rfl (lv_at hl 3 rfl) ?_
        refine qk_iald hx hb hK hP 6 0 rfl rfl (i := row) (by omega) (by omega) (v := nI z) hzr dX6_sumOf_18 ?_
        refine lv_icmp_ge (tgt := 38) hx hb dX6_sumOf_19 (by decide) (fun c2 => ?_) (fun c2 => ?_)
        · have c2 : z ≤ k := (nI_leI (by omega) (by omega)).mp c2
          refine lv_lload_n hx hb dX6_sumOf_38 rfl (lv_at hl 1 rfl) ?_
          exact W.lret (v := lN (qm_sum (qm_cost w x s) k)) hx hb hr (fun t9 ht9 hW9 => ⟨_, rfl, by congr 2; split <;> omega, ht9⟩) (fun q h => absurd h List.not_mem_nil) dX6_sumOf_39
        · have c2 : ¬ (z ≤ k) := fun q9 => c2 ((nI_leI (by omega) (by omega)).mpr q9)
          refine lv_lload_n hx hb dX6_sumOf_22 rfl (lv_at hl 1 rfl) ?_
          refine lv_aload_n hx hb dX6_sumOf_23 rfl (lv_at hl 2 rfl) ?_
          refine lv_iload_n hx hb dX6_sumOf_24 rfl (lv_at hl 3 rfl) ?_
          refine lv_iload hx hb dX6_sumOf_25 (lv_at hl 0 rfl) ?_
          have hPc := hP.sub (ws' := [(h0, .inr (6, [.int th, .int (nI nr), .ref qw, .ref qx, .ref qz, .ref qb, .ref qh, .ref qd, .int (nI kn), .int (nI nc), .ref ql, .ref qg, .int (nI cur), .ref qs, .ref qm, .ref qt])), (qw, .inl (G.2.1, 40, .inl fw)), (qx, .inl (G.2.1, 40, .inl fx)), (qb, .inl (G.2.1, 2200, .inl fb)), (qh, .inl (G.2.1, 2200, .inl fh)), (qd, .inl (G.2.1, 2200, .inl fd))]) [0, 1, 2, 3, 4, 5] rfl
          refine vp_callSl (va_runV (As := [.int (nI row), .int (nI k)]) (rest := [.long (lN (qm_sum (qm_cost w x s) k))]) ⟨hx, hb, hml, hown, htb⟩ (qc_M_cost l G h0 th nr qw qx qz qb qh qd kn nc ql qg cur qs qm qt fw fx fb fh fd w x row s k hrow hR hw (by omega) (fun j hj => hs j (by omega)) (fun j hj => ho j (by omega))) (cwV 2 htb (qW_V qw_512 qw_514 qw_7 qw_18 qw_515) rfl rfl rfl (by decide +kernel) ⟨Nat.le_of_ble_eq_true rfl, Nat.le_of_ble_eq_true rfl⟩) (qk_pv (ci := 6) (q0 := 0) hK hPc hN rfl rfl) rfl rfl hl.1 rfl (lv_room (Nat.le_of_ble_eq_true rfl)) dX6_sumOf_27 ⟨Nat.le_of_ble_eq_true rfl, Nat.le_of_ble_eq_true rfl⟩).run (fun r_27 e_27 => ?_)
          subst e_27
          refine lv_ladd hx hb dX6_sumOf_30 ?_
          refine qk_topl (t := lN ((qm_sum (qm_cost w x s) k) + (qm_cost w x s k))) (lN_add _ _) ?_
          refine lv_lstore_n (lv' := [(3, .long (lN ((qm_sum (qm_cost w x s) k) + (qm_cost w x s k)))), (5, .int (nI k)), (0, .ref h0), (1, .int (nI row)), (2, .int (nI n))]) hx hb dX6_sumOf_31 rfl hl (by decide) rfl (fun ls hl => ?_)
          refine lv_iinc (v := nI (k + 1)) (lv' := [(5, .int (nI (k + 1))), (3, .long (lN ((qm_sum (qm_cost w x s) k) + (qm_cost w x s k)))), (0, .ref h0), (1, .int (nI row)), (2, .int (nI n))]) hx hb dX6_sumOf_32 hl (k := 1) rfl (nI_1 k) (by decide) rfl (fun ls hl => ?_)
          refine lv_goto (tgt := 5) hx hb dX6_sumOf_35 (by decide) ?_
          exact ih (k + 1) ls (by omega) (⟨by omega, by omega⟩) (lv_sub hl [0, 1, 2, 3, 4] rfl)
  exact loop_5 (z - 0 + 1) 0 ls (by omega) (⟨Nat.zero_le n, Nat.zero_le z⟩) (lv_sub hl [0, 1, 2, 3, 4] rfl)

set_option maxHeartbeats 4000000 in
set_option maxRecDepth 100000 in
/-- the reference: all -/
theorem qc_M_all (l : Launch) (G : qG) (h0 : Nat) (th : Int32) (nr : Nat) (qw : Nat) (qx : Nat) (qz : Nat) (qb : Nat) (qh : Nat) (qd : Nat) (kn : Nat) (nc : Nat) (ql : Nat) (qg : Nat) (cur : Nat) (qs : Nat) (qm : Nat) (qt : Nat) (fw : Nat → Int32) (fx : Nat → Int32) (fb : Nat → Int32) (fh : Nat → Int32) (fd : Nat → Int32) (w : Nat → Nat) (x : Nat → Nat) (s : Nat → qS) (fz : Nat → Int32) (z : Nat) (hR : qm_okR nr w x) (hw : ∀ i, i < nr → fw i = nI (w i) ∧ fx i = nI (x i)) (hz : z ≤ 200) (hs : ∀ j, j < z → fb (2000 + j) = nM (s j).1 ∧ fh (2000 + j) = nI (s j).2.1 ∧ fd (2000 + j) = nI (s j).2.2) (ho : ∀ j, j < z → qm_okS nr (s j)) (hzr : fz 10 = nI z) : Met l yX6_all wsX6_all ({ frames := 2, cells := 0, slots := 0, locals := 51 } : Room) (va_Pc [.ref h0] (qk_pre G vwCl [(h0, .inr (6, [.int th, .int (nI nr), .ref qw, .ref qx, .ref qz, .ref qb, .ref qh, .ref qd, .int (nI kn), .int (nI nc), .ref ql, .ref qg, .int (nI cur), .ref qs, .ref qm, .ref qt])), (qw, .inl (G.2.1, 40, .inl fw)), (qx, .inl (G.2.1, 40, .inl fx)), (qb, .inl (G.2.1, 2200, .inl fb)), (qh, .inl (G.2.1, 2200, .inl fh)), (qd, .inl (G.2.1, 2200, .inl fd)), (qz, .inl (G.2.1, 11, .inl fz))])) (vp_Sl (fun r => r = lN (qm_sum (qm_cost w x s) z))) 0 0 (fun _ => False) := by
  refine Met.ofW (cc := cX6_all) (maxL := 1) (ret := (some .long)) (by decide) rfl ?_
  intro p e s m args below meth c s₁ B hml hv
  obtain ⟨rfl, hP, hK, hN⟩ := hv
  have hx := B.exec
  have hb := B.bytes
  have hr := B.returns
  have hlocks := B.notSynchronized
  have hts := atoms_spec (ws := wsX6_all) B.pre
  have htb := fun (w : Cond) (h : w ∈ qTb) => hts w (List.mem_cons_of_mem _ h)
  have hown : s.vm.findClass "GradeRowsModel" = some m.cls := findClass_of_methodNamed B.named
  have hP : va_P G.1 vwCl [(h0, .inr (6, [.int th, .int (nI nr), .ref qw, .ref qx, .ref qz, .ref qb, .ref qh, .ref qd, .int (nI kn), .int (nI nc), .ref ql, .ref qg, .int (nI cur), .ref qs, .ref qm, .ref qt])), (qw, .inl (G.2.1, 40, .inl fw)), (qx, .inl (G.2.1, 40, .inl fx)), (qb, .inl (G.2.1, 2200, .inl fb)), (qh, .inl (G.2.1, 2200, .inl fh)), (qd, .inl (G.2.1, 2200, .inl fd)), (qz, .inl (G.2.1, 11, .inl fz))] s.heap := hP
  have hl := lv_entry ([.ref h0]) (n := 1) (Nat.le_of_ble_eq_true rfl)
  rw [lg_entry_eq]
  generalize (lg_sl ([.ref h0]) ++ List.replicate (1 - (lg_sl ([.ref h0])).length) Slot.unset).toArray = ls at hl ⊢
  have hl : lv_has ls 1 [(0, .ref h0)] := hl
  refine lv_aload_n hx hb dX6_all_0 rfl (lv_at hl 0 rfl) ?_
  refine lv_bipush (v := nI 10) hx hb dX6_all_1 (by decide) ?_
  refine lv_sipush (v := nI 200) hx hb dX6_all_3 (by decide) ?_
  have hPc := hP.sub (ws' := [(h0, .inr (6, [.int th, .int (nI nr), .ref qw, .ref qx, .ref qz, .ref qb, .ref qh, .ref qd, .int (nI kn), .int (nI nc), .ref ql, .ref qg, .int (nI cur), .ref qs, .ref qm, .ref qt])), (qw, .inl (G.2.1, 40, .inl fw)), (qx, .inl (G.2.1, 40, .inl fx)), (qb, .inl (G.2.1, 2200, .inl fb)), (qh, .inl (G.2.1, 2200, .inl fh)), (qd, .inl (G.2.1, 2200, .inl fd)), (qz, .inl (G.2.1, 11, .inl fz))]) [0, 1, 2, 3, 4, 5, 6] rfl
  refine vp_callSl (va_runV (As := [.int (nI 10), .int (nI 200)]) (rest := []) ⟨hx, hb, hml, hown, htb⟩ (qc_M_sum l G h0 th nr qw qx qz qb qh qd kn nc ql qg cur qs qm qt fw fx fb fh fd w x 10 s fz z 200 (by omega) hR hw hz hs ho hzr (by omega)) (cwV 2 htb (qW_V qw_522 qw_524 qw_8 qw_18 qw_525) rfl rfl rfl (by decide +kernel) ⟨Nat.le_of_ble_eq_true rfl, Nat.le_of_ble_eq_true rfl⟩) (qk_pv (ci := 6) (q0 := 0) hK hPc hN rfl rfl) rfl rfl hl.1 rfl (lv_room (Nat.le_of_ble_eq_true rfl)) dX6_all_6 ⟨Nat.le_of_ble_eq_true rfl, Nat.le_of_ble_eq_true rfl⟩).run (fun r_6 e_6 => ?_)
  subst e_6
  refine qk_topl (t := lN (qm_sum (qm_cost w x s) z)) (by congr 2; split <;> omega) ?_
  exact W.lret (v := lN (qm_sum (qm_cost w x s) z)) hx hb hr (fun t9 ht9 hW9 => ⟨_, rfl, rfl, ht9⟩) (fun q h => absurd h List.not_mem_nil) dX6_all_9

set_option maxHeartbeats 4000000 in
set_option maxRecDepth 100000 in
/-- the reference: classOf -/
theorem qc_M_of (l : Launch) (G : qG) (h0 : Nat) (th : Int32) (nr : Nat) (qw : Nat) (qx : Nat) (qz : Nat) (qb : Nat) (qh : Nat) (qd : Nat) (kn : Nat) (nc : Nat) (ql : Nat) (qg : Nat) (cur : Nat) (qs : Nat) (qm : Nat) (qt : Nat) (lo : Nat → Int64) (hi : Nat → Int64) (v : Int64) (hn : nc ≤ 20) : Met l yX6_classOf wsX6_classOf ({ frames := 0, cells := 0, slots := 0, locals := 0 } : Room) (va_Pc [.ref h0, .long v] (qk_pre G vwCl [(h0, .inr (6, [.int th, .int (nI nr), .ref qw, .ref qx, .ref qz, .ref qb, .ref qh, .ref qd, .int (nI kn), .int (nI nc), .ref ql, .ref qg, .int (nI cur), .ref qs, .ref qm, .ref qt])), (ql, .inl (G.2.2.1, 20, .inr (.inl lo))), (qg, .inl (G.2.2.1, 20, .inr (.inl hi)))])) (vp_Si (fun r => r = qm_ans nc (qm_cof lo hi v nc 0))) 0 0 (fun _ => False) := by
  refine Met.ofW (cc := cX6_classOf) (maxL := 4) (ret := (some .int)) (by decide) rfl ?_
  intro p e s m args below meth c s₁ B hml hv
  obtain ⟨rfl, hP, hK, hN⟩ := hv
  have hx := B.exec
  have hb := B.bytes
  have hr := B.returns
  have hlocks := B.notSynchronized
  have hts := atoms_spec (ws := wsX6_classOf) B.pre
  have htb := fun (w : Cond) (h : w ∈ qTb) => hts w (List.mem_cons_of_mem _ h)
  have hown : s.vm.findClass "GradeRowsModel" = some m.cls := findClass_of_methodNamed B.named
  have hP : va_P G.1 vwCl [(h0, .inr (6, [.int th, .int (nI nr), .ref qw, .ref qx, .ref qz, .ref qb, .ref qh, .ref qd, .int (nI kn), .int (nI nc), .ref ql, .ref qg, .int (nI cur), .ref qs, .ref qm, .ref qt])), (ql, .inl (G.2.2.1, 20, .inr (.inl lo))), (qg, .inl (G.2.2.1, 20, .inr (.inl hi)))] s.heap := hP
  have hl := lv_entry ([.ref h0, .long v]) (n := 4) (Nat.le_of_ble_eq_true rfl)
  rw [lg_entry_eq]
  generalize (lg_sl ([.ref h0, .long v]) ++ List.replicate (4 - (lg_sl ([.ref h0, .long v])).length) Slot.unset).toArray = ls at hl ⊢
  have hl : lv_has ls 4 [(0, .ref h0), (1, .long v)] := hl
  refine lv_iconst (v := nI 0) hx hb dX6_classOf_0 (by decide) ?_
  refine lv_istore_n (lv' := [(3, .int (nI 0)), (0, .ref h0), (1, .long v)]) hx hb dX6_classOf_1 rfl hl (by decide) rfl (fun ls hl => ?_)
  have loop_2 : ∀ (N : Nat) (i : Nat) (ls : Array Slot), nc - i < N → (i ≤ nc) → (qm_cof lo hi v nc 0 = qm_cof lo hi v (nc - i) i) → lv_has ls 4 [(3, .int (nI i)), (0, .ref h0), (1, .long v)] → W p l e (headSpec wsX6_classOf ({ frames := 0, cells := 0, slots := 0, locals := 0 } : Room)).room s m ([.ref h0, .long v] : List Value).toArray below meth c s.heap [] 0 0 (MQ below (vp_Si (fun r => r = qm_ans nc (qm_cof lo hi v nc 0))) ([.ref h0, .long v] : List Value).toArray s 0 0 (fun _ => False)) (F0 m 2 ls []) := by
    intro N
    induction N with
    | zero => intro i ls hm; exact absurd hm (Nat.not_lt_zero _)
    | succ N ih =>
      intro i ls hm hi1 hq hl
      refine lv_iload_n hx hb dX6_classOf_2 rfl (lv_at hl 0 rfl) ?_
      refine lv_aload_n hx hb dX6_classOf_3 rfl (lv_at hl 1 rfl) ?_
      refine va_get (D := G.1) (ci := 6) (v := .int (nI nc)) (C := "GradeRowsModel") (T := TX6) (N := 16) hx hb htb inX6 hown hK hP 0 rfl rfl 9 (by decide) (htb _ qw_442) (fun _ h9 => h9) rfl dX6_classOf_4 ?_
      refine lv_icmp_ge (tgt := 40) hx hb dX6_classOf_7 (by decide) (fun c_1 => ?_) (fun c_1 => ?_)
      · have c_1 : nc ≤ i := (nI_leI (by omega) (by omega)).mp c_1
        refine lv_iconst (v := (-1)) hx hb dX6_classOf_40 (by decide) ?_
        exact W.iret (v := (-1)) hx hb hr (fun t9 ht9 hW9 => ⟨_, rfl, (qm_cof_end hq (by omega) hi1).symm, ht9⟩) (fun q h => absurd h List.not_mem_nil) dX6_classOf_41
      · have c_1 : ¬ (nc ≤ i) := fun q9 => c_1 ((nI_leI (by omega) (by omega)).mpr q9)
        refine lv_lload_n hx hb dX6_classOf_10 rfl (lv_at hl 2 rfl) ?_
        refine lv_aload_n hx hb dX6_classOf_11 rfl (lv_at hl 1 rfl) ?_
        refine va_get (D := G.1) (ci := 6) (v := .ref ql) (C := "GradeRowsModel") (T := TX6) (N := 16) hx hb htb inX6 hown hK hP 0 rfl rfl 10 (by decide) (htb _ qw_443) (fun _ h9 => h9) rfl dX6_classOf_12 ?_
        refine lv_iload_n hx hb dX6_classOf_15 rfl (lv_at hl 0 rfl) ?_
        refine qk_lald hx hb hK hP 1 1 rfl rfl (i := i) (by omega) (by omega) (v := lo i) rfl dX6_classOf_16 ?_
        refine W.lcmp hx hb dX6_classOf_17 ?_
        refine lv_if_lt (tgt := 34) hx hb dX6_classOf_18 (by decide) (fun c1 => ?_) (fun c1 => ?_)
        · have c1 : v < (lo i) := (lg_cmp_lt _ _).mp c1
          have c1n : ¬ lo i ≤ v := by rw [Int64.lt_iff_toInt_lt] at c1; rw [Int64.le_iff_toInt_le]; omega
          refine lv_iinc (v := nI (i + 1)) (lv' := [(3, .int (nI (i + 1))), (0, .ref h0), (1, .long v)]) hx hb dX6_classOf_34 hl (k := 0) rfl (nI_1 i) (by decide) rfl (fun ls hl => ?_)
          refine lv_goto (tgt := 2) hx hb dX6_classOf_37 (by decide) ?_
          exact ih (i + 1) ls (by omega) (by omega) (hq.trans (qm_cof_next (by omega) (by first | (intro h; exact c1n h.1) | (intro h; exact c2n h.2)))) (lv_sub hl [0, 1, 2] rfl)
        · have c1 : ¬ (v < (lo i)) := fun q9 => c1 ((lg_cmp_lt _ _).mpr q9)
          refine lv_lload_n hx hb dX6_classOf_21 rfl (lv_at hl 2 rfl) ?_
          refine lv_aload_n hx hb dX6_classOf_22 rfl (lv_at hl 1 rfl) ?_
          refine va_get (D := G.1) (ci := 6) (v := .ref qg) (C := "GradeRowsModel") (T := TX6) (N := 16) hx hb htb inX6 hown hK hP 0 rfl rfl 11 (by decide) (htb _ qw_444) (fun _ h9 => h9) rfl dX6_classOf_23 ?_
          refine lv_iload_n hx hb dX6_classOf_26 rfl (lv_at hl 0 rfl) ?_
          refine qk_lald hx hb hK hP 2 1 rfl rfl (i := i) (by omega) (by omega) (v := hi i) rfl dX6_classOf_27 ?_
          refine W.lcmp hx hb dX6_classOf_28 ?_
          refine lv_if_gt (tgt := 34) hx hb dX6_classOf_29 (by decide) (fun c2 => ?_) (fun c2 => ?_)
          · have c2 : (hi i) < v := (lg_cmp_gt _ _).mp c2
            have c2n : ¬ v ≤ hi i := by rw [Int64.lt_iff_toInt_lt] at c2; rw [Int64.le_iff_toInt_le]; omega
            refine lv_iinc (v := nI (i + 1)) (lv' := [(3, .int (nI (i + 1))), (0, .ref h0), (1, .long v)]) hx hb dX6_classOf_34 hl (k := 0) rfl (nI_1 i) (by decide) rfl (fun ls hl => ?_)
            refine lv_goto (tgt := 2) hx hb dX6_classOf_37 (by decide) ?_
            exact ih (i + 1) ls (by omega) (by omega) (hq.trans (qm_cof_next (by omega) (by first | (intro h; exact c1n h.1) | (intro h; exact c2n h.2)))) (lv_sub hl [0, 1, 2] rfl)
          · have c2 : ¬ ((hi i) < v) := fun q9 => c2 ((lg_cmp_gt _ _).mpr q9)
            refine lv_iload_n hx hb dX6_classOf_32 rfl (lv_at hl 0 rfl) ?_
            exact W.iret (v := nI i) hx hb hr (fun t9 ht9 hW9 => ⟨_, rfl, (qm_cof_hit hq (by omega) (qm_lnlt c1) (qm_lnlt c2)).symm, ht9⟩) (fun q h => absurd h List.not_mem_nil) dX6_classOf_33
  exact loop_2 (nc - 0 + 1) 0 ls (by omega) (Nat.zero_le nc) rfl (lv_sub hl [0, 1, 2] rfl)

set_option maxHeartbeats 4000000 in
set_option maxRecDepth 100000 in
/-- the reference: like -/
theorem qc_M_like (l : Launch) (G : qG) (h0 : Nat) (th : Int32) (nr : Nat) (qw : Nat) (qx : Nat) (qz : Nat) (qb : Nat) (qh : Nat) (qd : Nat) (kn : Nat) (nc : Nat) (ql : Nat) (qg : Nat) (cur : Nat) (qs : Nat) (qm : Nat) (qt : Nat) (fz : Nat → Int32) (fb : Nat → Int32) (fh : Nat → Int32) (fd : Nat → Int32) (row : Nat) (s : Nat → qS) (z : Nat) (t0 : qS) (k : Nat) (hrow : row ≤ 10) (hz : z ≤ 200) (hk : k < 200) (hzr : fz row = nI z) (hs : ∀ j, j < z → fb (200 * row + j) = nM (s j).1 ∧ fh (200 * row + j) = nI (s j).2.1 ∧ fd (200 * row + j) = nI (s j).2.2) (ho : ∀ j, j < z → qm_okS nr (s j)) (ht : fb (2000 + k) = nM t0.1 ∧ fh (2000 + k) = nI t0.2.1 ∧ fd (2000 + k) = nI t0.2.2) (ho2 : qm_okS nr t0) (hr40 : nr ≤ 40) : Met l yX6_like wsX6_like ({ frames := 0, cells := 0, slots := 0, locals := 0 } : Room) (va_Pc [.ref h0, .int (nI row), .int (nI k)] (qk_pre G vwCl [(h0, .inr (6, [.int th, .int (nI nr), .ref qw, .ref qx, .ref qz, .ref qb, .ref qh, .ref qd, .int (nI kn), .int (nI nc), .ref ql, .ref qg, .int (nI cur), .ref qs, .ref qm, .ref qt])), (qz, .inl (G.2.1, 11, .inl fz)), (qb, .inl (G.2.1, 2200, .inl fb)), (qh, .inl (G.2.1, 2200, .inl fh)), (qd, .inl (G.2.1, 2200, .inl fd))])) (vp_Si (fun r => r = nI (qm_cnt s z t0))) 0 0 (fun _ => False) := by
  refine Met.ofW (cc := cX6_like) (maxL := 6) (ret := (some .int)) (by decide) rfl ?_
  intro p e s m args below meth c s₁ B hml hv
  obtain ⟨rfl, hP, hK, hN⟩ := hv
  have hx := B.exec
  have hb := B.bytes
  have hr := B.returns
  have hlocks := B.notSynchronized
  have hts := atoms_spec (ws := wsX6_like) B.pre
  have htb := fun (w : Cond) (h : w ∈ qTb) => hts w (List.mem_cons_of_mem _ h)
  have hown : s.vm.findClass "GradeRowsModel" = some m.cls := findClass_of_methodNamed B.named
  have hP : va_P G.1 vwCl [(h0, .inr (6, [.int th, .int (nI nr), .ref qw, .ref qx, .ref qz, .ref qb, .ref qh, .ref qd, .int (nI kn), .int (nI nc), .ref ql, .ref qg, .int (nI cur), .ref qs, .ref qm, .ref qt])), (qz, .inl (G.2.1, 11, .inl fz)), (qb, .inl (G.2.1, 2200, .inl fb)), (qh, .inl (G.2.1, 2200, .inl fh)), (qd, .inl (G.2.1, 2200, .inl fd))] s.heap := hP
  have hl := lv_entry ([.ref h0, .int (nI row), .int (nI k)]) (n := 6) (Nat.le_of_ble_eq_true rfl)
  rw [lg_entry_eq]
  generalize (lg_sl ([.ref h0, .int (nI row), .int (nI k)]) ++ List.replicate (6 - (lg_sl ([.ref h0, .int (nI row), .int (nI k)])).length) Slot.unset).toArray = ls at hl ⊢
  have hl : lv_has ls 6 [(0, .ref h0), (1, .int (nI row)), (2, .int (nI k))] := hl
  refine lv_iconst (v := nI 0) hx hb dX6_like_0 (by decide) ?_
  refine lv_istore_n (lv' := [(3, .int (nI 0)), (0, .ref h0), (1, .int (nI row)), (2, .int (nI k))]) hx hb dX6_like_1 rfl hl (by decide) rfl (fun ls hl => ?_)
  refine lv_sipush (v := nI 2000) hx hb dX6_like_2 (by decide) ?_
  refine lv_iload_n hx hb dX6_like_5 rfl (lv_at hl 3 rfl) ?_
  refine lv_iadd hx hb dX6_like_6 ?_
  refine qk_topi (t := nI (2000 + k)) (nI_add _ _) ?_
  refine lv_istore (lv' := [(4, .int (nI (2000 + k))), (3, .int (nI 0)), (0, .ref h0), (1, .int (nI row)), (2, .int (nI k))]) hx hb dX6_like_7 hl (by decide) rfl (fun ls hl => ?_)
  refine lv_sipush (v := nI 200) hx hb dX6_like_9 (by decide) ?_
  refine lv_iload_n hx hb dX6_like_12 rfl (lv_at hl 3 rfl) ?_
  refine lv_imul hx hb dX6_like_13 ?_
  refine qk_topi (t := nI (200 * row)) (pk_mul _ _) ?_
  refine lv_istore (lv' := [(5, .int (nI (200 * row))), (4, .int (nI (2000 + k))), (3, .int (nI 0)), (0, .ref h0), (1, .int (nI row)), (2, .int (nI k))]) hx hb dX6_like_14 hl (by decide) rfl (fun ls hl => ?_)
  have loop_16 : ∀ (N : Nat) (j : Nat) (a : Nat) (ls : Array Slot), z - j < N → (j ≤ z) → (a ≤ j) → (qm_cnt s j t0 = a) → lv_has ls 6 [(5, .int (nI (200 * row + j))), (4, .int (nI (2000 + k))), (3, .int (nI a)), (0, .ref h0), (1, .int (nI row)), (2, .int (nI k))] → W p l e (headSpec wsX6_like ({ frames := 0, cells := 0, slots := 0, locals := 0 } : Room)).room s m ([.ref h0, .int (nI row), .int (nI k)] : List Value).toArray below meth c s.heap [] 0 0 (MQ below (vp_Si (fun r => r = nI (qm_cnt s z t0))) ([.ref h0, .int (nI row), .int (nI k)] : List Value).toArray s 0 0 (fun _ => False)) (F0 m 16 ls []) := by
    intro N
    induction N with
    | zero => intro j a ls hm; exact absurd hm (Nat.not_lt_zero _)
    | succ N ih =>
      intro j a ls hm hj ha hq hl
      refine lv_iload hx hb dX6_like_16 (lv_at hl 0 rfl) ?_
      refine lv_sipush (v := nI 200) hx hb dX6_like_18 (by decide) ?_
      refine lv_iload_n hx hb dX6_like_21 rfl (lv_at hl 4 rfl) ?_
      refine lv_imul hx hb dX6_like_22 ?_
      refine qk_topi (t := nI (200 * row)) (pk_mul _ _) ?_
      refine lv_aload_n hx hb dX6_like_23 rfl (lv_at hl 3 rfl) ?_
      refine va_get (D := G.1) (ci := 6) (v := .ref qz) (C := "GradeRowsModel") (T := TX6) (N := 16) hx hb htb inX6 hown hK hP 0 rfl rfl 4 (by decide) (htb _ qw_437) (fun _ h9 => h9) rfl dX6_like_24 ?_
      refine lv_iload_n hx hb dX6_like_27 rfl (lv_at hl 4 rfl) ?_
      refine qk_iald hx hb hK hP 1 0 rfl rfl (i := row) (by omega) (by omega) (v := nI z) hzr dX6_like_28 ?_
      refine lv_iadd hx hb dX6_like_29 ?_
      refine qk_topi (t := nI ((200 * row) + z)) (nI_add _ _) ?_
      refine lv_icmp_ge (tgt := 98) hx hb dX6_like_30 (by decide) (fun c_1 => ?_) (fun c_1 => ?_)
      · have c_1 : ((200 * row) + z) ≤ (200 * row + j) := (nI_leI (by omega) (by omega)).mp c_1
        refine lv_iload_n hx hb dX6_like_98 rfl (lv_at hl 2 rfl) ?_
        exact W.iret (v := nI a) hx hb hr (fun t9 ht9 hW9 => ⟨_, rfl, by rw [← hq, show j = z by omega], ht9⟩) (fun q h => absurd h List.not_mem_nil) dX6_like_99
      · have c_1 : ¬ (((200 * row) + z) ≤ (200 * row + j)) := fun q9 => c_1 ((nI_leI (by omega) (by omega)).mpr q9)
        refine lv_iload_n hx hb dX6_like_33 rfl (lv_at hl 2 rfl) ?_
        refine lv_aload_n hx hb dX6_like_34 rfl (lv_at hl 3 rfl) ?_
        refine va_get (D := G.1) (ci := 6) (v := .ref qb) (C := "GradeRowsModel") (T := TX6) (N := 16) hx hb htb inX6 hown hK hP 0 rfl rfl 5 (by decide) (htb _ qw_438) (fun _ h9 => h9) rfl dX6_like_35 ?_
        refine lv_iload hx hb dX6_like_38 (lv_at hl 0 rfl) ?_
        have hoj := ho j (by omega)
        have hsj := hs j (by omega)
        have hj1 : (s j).1 ≤ 40 := by rcases hoj with h | h <;> omega
        have hj2 : (s j).2.1 ≤ 255 := by rcases hoj with h | h <;> omega
        have hj3 : (s j).2.2 ≤ 9 := by rcases hoj with h | h <;> omega
        have ht1 : t0.1 ≤ 40 := by rcases ho2 with h | h <;> omega
        have ht2 : t0.2.1 ≤ 255 := by rcases ho2 with h | h <;> omega
        have ht3 : t0.2.2 ≤ 9 := by rcases ho2 with h | h <;> omega
        refine qk_iald hx hb hK hP 2 0 rfl rfl (i := (200 * row + j)) (by omega) (by omega) (v := nM (s j).1) hsj.1 dX6_like_40 ?_
        refine lv_aload_n hx hb dX6_like_41 rfl (lv_at hl 3 rfl) ?_
        refine va_get (D := G.1) (ci := 6) (v := .ref qb) (C := "GradeRowsModel") (T := TX6) (N := 16) hx hb htb inX6 hown hK hP 0 rfl rfl 5 (by decide) (htb _ qw_438) (fun _ h9 => h9) rfl dX6_like_42 ?_
        refine lv_iload hx hb dX6_like_45 (lv_at hl 1 rfl) ?_
        refine qk_iald hx hb hK hP 2 0 rfl rfl (i := (2000 + k)) (by omega) (by omega) (v := nM t0.1) ht.1 dX6_like_47 ?_
        refine lv_icmp_ne (tgt := 89) hx hb dX6_like_48 (by decide) (fun c1 => ?_) (fun c1 => ?_)
        · have c1 : ¬ ((s j).1 = t0.1) := fun q9 => c1 ((nM_eq (by omega) (by omega)).mpr q9)
          refine lv_iconst (v := nI 0) hx hb dX6_like_89 (by decide) ?_
          refine lv_iadd hx hb dX6_like_90 ?_
          refine qk_topi (t := nI a) (by rw [nI_add]) ?_
          refine lv_istore_n (lv' := [(3, .int (nI a)), (5, .int (nI (200 * row + j))), (4, .int (nI (2000 + k))), (0, .ref h0), (1, .int (nI row)), (2, .int (nI k))]) hx hb dX6_like_91 rfl hl (by decide) rfl (fun ls hl => ?_)
          refine lv_iinc (v := nI ((200 * row + j) + 1)) (lv' := [(5, .int (nI ((200 * row + j) + 1))), (3, .int (nI a)), (4, .int (nI (2000 + k))), (0, .ref h0), (1, .int (nI row)), (2, .int (nI k))]) hx hb dX6_like_92 hl (k := 1) rfl (nI_1 (200 * row + j)) (by decide) rfl (fun ls hl => ?_)
          refine lv_goto (tgt := 16) hx hb dX6_like_95 (by decide) ?_
          exact ih (j + 1) a ls (by omega) (by omega) (by omega) (qm_cnt_miss hq (by intro h; subst h; first | exact c1 rfl | exact c2 rfl | exact c3 rfl)) (lv_sub hl [0, 2, 1, 3, 4, 5] rfl)
        · have c1 : (s j).1 = t0.1 := (nM_eq (by omega) (by omega)).mp c1
          refine lv_aload_n hx hb dX6_like_51 rfl (lv_at hl 3 rfl) ?_
          refine va_get (D := G.1) (ci := 6) (v := .ref qh) (C := "GradeRowsModel") (T := TX6) (N := 16) hx hb htb inX6 hown hK hP 0 rfl rfl 6 (by decide) (htb _ qw_439) (fun _ h9 => h9) rfl dX6_like_52 ?_
          refine lv_iload hx hb dX6_like_55 (lv_at hl 0 rfl) ?_
          refine qk_iald hx hb hK hP 3 0 rfl rfl (i := (200 * row + j)) (by omega) (by omega) (v := nI (s j).2.1) hsj.2.1 dX6_like_57 ?_
          refine lv_aload_n hx hb dX6_like_58 rfl (lv_at hl 3 rfl) ?_
          refine va_get (D := G.1) (ci := 6) (v := .ref qh) (C := "GradeRowsModel") (T := TX6) (N := 16) hx hb htb inX6 hown hK hP 0 rfl rfl 6 (by decide) (htb _ qw_439) (fun _ h9 => h9) rfl dX6_like_59 ?_
          refine lv_iload hx hb dX6_like_62 (lv_at hl 1 rfl) ?_
          refine qk_iald hx hb hK hP 3 0 rfl rfl (i := (2000 + k)) (by omega) (by omega) (v := nI t0.2.1) ht.2.1 dX6_like_64 ?_
          refine lv_icmp_ne (tgt := 89) hx hb dX6_like_65 (by decide) (fun c2 => ?_) (fun c2 => ?_)
          · have c2 : ¬ ((s j).2.1 = t0.2.1) := fun q9 => c2 ((nI_eq (by omega) (by omega)).mpr q9)
            refine lv_iconst (v := nI 0) hx hb dX6_like_89 (by decide) ?_
            refine lv_iadd hx hb dX6_like_90 ?_
            refine qk_topi (t := nI a) (by rw [nI_add]) ?_
            refine lv_istore_n (lv' := [(3, .int (nI a)), (5, .int (nI (200 * row + j))), (4, .int (nI (2000 + k))), (0, .ref h0), (1, .int (nI row)), (2, .int (nI k))]) hx hb dX6_like_91 rfl hl (by decide) rfl (fun ls hl => ?_)
            refine lv_iinc (v := nI ((200 * row + j) + 1)) (lv' := [(5, .int (nI ((200 * row + j) + 1))), (3, .int (nI a)), (4, .int (nI (2000 + k))), (0, .ref h0), (1, .int (nI row)), (2, .int (nI k))]) hx hb dX6_like_92 hl (k := 1) rfl (nI_1 (200 * row + j)) (by decide) rfl (fun ls hl => ?_)
            refine lv_goto (tgt := 16) hx hb dX6_like_95 (by decide) ?_
            exact ih (j + 1) a ls (by omega) (by omega) (by omega) (qm_cnt_miss hq (by intro h; subst h; first | exact c1 rfl | exact c2 rfl | exact c3 rfl)) (lv_sub hl [0, 2, 1, 3, 4, 5] rfl)
          · have c2 : (s j).2.1 = t0.2.1 := (nI_eq (by omega) (by omega)).mp c2
            refine lv_aload_n hx hb dX6_like_68 rfl (lv_at hl 3 rfl) ?_
            refine va_get (D := G.1) (ci := 6) (v := .ref qd) (C := "GradeRowsModel") (T := TX6) (N := 16) hx hb htb inX6 hown hK hP 0 rfl rfl 7 (by decide) (htb _ qw_440) (fun _ h9 => h9) rfl dX6_like_69 ?_
            refine lv_iload hx hb dX6_like_72 (lv_at hl 0 rfl) ?_
            refine qk_iald hx hb hK hP 4 0 rfl rfl (i := (200 * row + j)) (by omega) (by omega) (v := nI (s j).2.2) hsj.2.2 dX6_like_74 ?_
            refine lv_aload_n hx hb dX6_like_75 rfl (lv_at hl 3 rfl) ?_
            refine va_get (D := G.1) (ci := 6) (v := .ref qd) (C := "GradeRowsModel") (T := TX6) (N := 16) hx hb htb inX6 hown hK hP 0 rfl rfl 7 (by decide) (htb _ qw_440) (fun _ h9 => h9) rfl dX6_like_76 ?_
            refine lv_iload hx hb dX6_like_79 (lv_at hl 1 rfl) ?_
            refine qk_iald hx hb hK hP 4 0 rfl rfl (i := (2000 + k)) (by omega) (by omega) (v := nI t0.2.2) ht.2.2 dX6_like_81 ?_
            refine lv_icmp_ne (tgt := 89) hx hb dX6_like_82 (by decide) (fun c3 => ?_) (fun c3 => ?_)
            · have c3 : ¬ ((s j).2.2 = t0.2.2) := fun q9 => c3 ((nI_eq (by omega) (by omega)).mpr q9)
              refine lv_iconst (v := nI 0) hx hb dX6_like_89 (by decide) ?_
              refine lv_iadd hx hb dX6_like_90 ?_
              refine qk_topi (t := nI a) (by rw [nI_add]) ?_
              refine lv_istore_n (lv' := [(3, .int (nI a)), (5, .int (nI (200 * row + j))), (4, .int (nI (2000 + k))), (0, .ref h0), (1, .int (nI row)), (2, .int (nI k))]) hx hb dX6_like_91 rfl hl (by decide) rfl (fun ls hl => ?_)
              refine lv_iinc (v := nI ((200 * row + j) + 1)) (lv' := [(5, .int (nI ((200 * row + j) + 1))), (3, .int (nI a)), (4, .int (nI (2000 + k))), (0, .ref h0), (1, .int (nI row)), (2, .int (nI k))]) hx hb dX6_like_92 hl (k := 1) rfl (nI_1 (200 * row + j)) (by decide) rfl (fun ls hl => ?_)
              refine lv_goto (tgt := 16) hx hb dX6_like_95 (by decide) ?_
              exact ih (j + 1) a ls (by omega) (by omega) (by omega) (qm_cnt_miss hq (by intro h; subst h; first | exact c1 rfl | exact c2 rfl | exact c3 rfl)) (lv_sub hl [0, 2, 1, 3, 4, 5] rfl)
            · have c3 : (s j).2.2 = t0.2.2 := (nI_eq (by omega) (by omega)).mp c3
              refine lv_iconst (v := nI 1) hx hb dX6_like_85 (by decide) ?_
              refine lv_goto (tgt := 90) hx hb dX6_like_86 (by decide) ?_
              refine lv_iadd hx hb dX6_like_90 ?_
              refine qk_topi (t := nI (a + 1)) (nI_add _ _) ?_
              refine lv_istore_n (lv' := [(3, .int (nI (a + 1))), (5, .int (nI (200 * row + j))), (4, .int (nI (2000 + k))), (0, .ref h0), (1, .int (nI row)), (2, .int (nI k))]) hx hb dX6_like_91 rfl hl (by decide) rfl (fun ls hl => ?_)
              refine lv_iinc (v := nI ((200 * row + j) + 1)) (lv' := [(5, .int (nI ((200 * row + j) + 1))), (3, .int (nI (a + 1))), (4, .int (nI (2000 + k))), (0, .ref h0), (1, .int (nI row)), (2, .int (nI k))]) hx hb dX6_like_92 hl (k := 1) rfl (nI_1 (200 * row + j)) (by decide) rfl (fun ls hl => ?_)
              refine lv_goto (tgt := 16) hx hb dX6_like_95 (by decide) ?_
              exact ih (j + 1) (a + 1) ls (by omega) (by omega) (by omega) (qm_cnt_hit hq (qm_same3 c1 c2 c3)) (lv_sub hl [0, 2, 1, 3, 4, 5] rfl)
  exact loop_16 (z - 0 + 1) 0 0 ls (by omega) (Nat.zero_le z) (Nat.le_refl 0) rfl (lv_sub hl [0, 1, 2, 3, 4, 5] rfl)
end
