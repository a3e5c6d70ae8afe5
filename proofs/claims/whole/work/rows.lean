section
-- ===== PART A: goes FIRST, ahead of the names: the tables' words, and 'selects' of the private methods out of them =====
/-- a private method of a class that the tables say can be made, by its rows of tables_1 -/
def lw_okq (q : MethodName × Nat) : Prop := (q.1.cls ≠ "java/lang/invoke/MethodHandle" ∧ q.1.cls ≠ "java/lang/invoke/VarHandle") ∧ Cond.instantiable q.1.cls q.2 ∈ tables_1 ∧ Cond.privateMethod q.1 ∈ tables_1 ∧ Cond.instanceMethod q.1 ∈ tables_1
theorem lw_p0 : lw_okq (⟨"GradeRows$Steps", "wasNarrowAt", "(I)Z"⟩, 9) := ⟨⟨by decide +kernel, by decide +kernel⟩, List.mem_of_getElem? (i := 44) (by decide +kernel), List.mem_of_getElem? (i := 167) (by decide +kernel), List.mem_of_getElem? (i := 168) (by decide +kernel)⟩
theorem lw_p1 : lw_okq (⟨"GradeRows$Classes", "hasOneOf", "(JJ)Z"⟩, 3) := ⟨⟨by decide +kernel, by decide +kernel⟩, List.mem_of_getElem? (i := 92) (by decide +kernel), List.mem_of_getElem? (i := 253) (by decide +kernel), List.mem_of_getElem? (i := 254) (by decide +kernel)⟩
theorem lw_p2 : lw_okq (⟨"GradeRows", "hintOfGuess", "(I)I"⟩, 6) := ⟨⟨by decide +kernel, by decide +kernel⟩, List.mem_of_getElem? (i := 12) (by decide +kernel), List.mem_of_getElem? (i := 320) (by decide +kernel), List.mem_of_getElem? (i := 321) (by decide +kernel)⟩
theorem lw_p3 : lw_okq (⟨"GradeRows", "hintOfRuleStep", "(I)I"⟩, 6) := ⟨⟨by decide +kernel, by decide +kernel⟩, List.mem_of_getElem? (i := 12) (by decide +kernel), List.mem_of_getElem? (i := 328) (by decide +kernel), List.mem_of_getElem? (i := 329) (by decide +kernel)⟩
theorem lw_p4 : lw_okq (⟨"GradeRows", "keptAt", "(I)LGradeRows$Row;"⟩, 6) := ⟨⟨by decide +kernel, by decide +kernel⟩, List.mem_of_getElem? (i := 12) (by decide +kernel), List.mem_of_getElem? (i := 387) (by decide +kernel), List.mem_of_getElem? (i := 388) (by decide +kernel)⟩
theorem lw_p5 : lw_okq (⟨"GradeRowsModel", "count", "()I"⟩, 16) := ⟨⟨by decide +kernel, by decide +kernel⟩, List.mem_of_getElem? (i := 416) (by decide +kernel), List.mem_of_getElem? (i := 480) (by decide +kernel), List.mem_of_getElem? (i := 481) (by decide +kernel)⟩
theorem lw_p6 : lw_okq (⟨"GradeRowsModel", "add", "(III)I"⟩, 16) := ⟨⟨by decide +kernel, by decide +kernel⟩, List.mem_of_getElem? (i := 416) (by decide +kernel), List.mem_of_getElem? (i := 484) (by decide +kernel), List.mem_of_getElem? (i := 485) (by decide +kernel)⟩
theorem lw_p7 : lw_okq (⟨"GradeRowsModel", "costOf", "(II)J"⟩, 16) := ⟨⟨by decide +kernel, by decide +kernel⟩, List.mem_of_getElem? (i := 416) (by decide +kernel), List.mem_of_getElem? (i := 501) (by decide +kernel), List.mem_of_getElem? (i := 502) (by decide +kernel)⟩
theorem lw_p8 : lw_okq (⟨"GradeRowsModel", "sumOf", "(II)J"⟩, 16) := ⟨⟨by decide +kernel, by decide +kernel⟩, List.mem_of_getElem? (i := 416) (by decide +kernel), List.mem_of_getElem? (i := 511) (by decide +kernel), List.mem_of_getElem? (i := 512) (by decide +kernel)⟩
theorem lw_p9 : lw_okq (⟨"GradeRowsModel", "all", "()J"⟩, 16) := ⟨⟨by decide +kernel, by decide +kernel⟩, List.mem_of_getElem? (i := 416) (by decide +kernel), List.mem_of_getElem? (i := 524) (by decide +kernel), List.mem_of_getElem? (i := 525) (by decide +kernel)⟩
theorem lw_p10 : lw_okq (⟨"GradeRowsModel", "classOf", "(J)I"⟩, 16) := ⟨⟨by decide +kernel, by decide +kernel⟩, List.mem_of_getElem? (i := 416) (by decide +kernel), List.mem_of_getElem? (i := 528) (by decide +kernel), List.mem_of_getElem? (i := 529) (by decide +kernel)⟩
theorem lw_p11 : lw_okq (⟨"GradeRowsModel", "like", "(II)I"⟩, 16) := ⟨⟨by decide +kernel, by decide +kernel⟩, List.mem_of_getElem? (i := 416) (by decide +kernel), List.mem_of_getElem? (i := 575) (by decide +kernel), List.mem_of_getElem? (i := 576) (by decide +kernel)⟩
def lw_privs_1 : List (MethodName × Nat) := [(⟨"GradeRows$Steps", "wasNarrowAt", "(I)Z"⟩, 9), (⟨"GradeRows$Classes", "hasOneOf", "(JJ)Z"⟩, 3), (⟨"GradeRows", "hintOfGuess", "(I)I"⟩, 6), (⟨"GradeRows", "hintOfRuleStep", "(I)I"⟩, 6), (⟨"GradeRows", "keptAt", "(I)LGradeRows$Row;"⟩, 6), (⟨"GradeRowsModel", "count", "()I"⟩, 16), (⟨"GradeRowsModel", "add", "(III)I"⟩, 16), (⟨"GradeRowsModel", "costOf", "(II)J"⟩, 16), (⟨"GradeRowsModel", "sumOf", "(II)J"⟩, 16), (⟨"GradeRowsModel", "all", "()J"⟩, 16), (⟨"GradeRowsModel", "classOf", "(J)I"⟩, 16), (⟨"GradeRowsModel", "like", "(II)I"⟩, 16)]
theorem lw_r1 : ∀ q ∈ lw_privs_1, lw_okq q := List.forall_mem_cons.mpr ⟨lw_p0, List.forall_mem_cons.mpr ⟨lw_p1, List.forall_mem_cons.mpr ⟨lw_p2, List.forall_mem_cons.mpr ⟨lw_p3, List.forall_mem_cons.mpr ⟨lw_p4, List.forall_mem_cons.mpr ⟨lw_p5, List.forall_mem_cons.mpr ⟨lw_p6, List.forall_mem_cons.mpr ⟨lw_p7, List.forall_mem_cons.mpr ⟨lw_p8, List.forall_mem_cons.mpr ⟨lw_p9, List.forall_mem_cons.mpr ⟨lw_p10, List.forall_mem_cons.mpr ⟨lw_p11, fun _ h => absurd h List.not_mem_nil⟩⟩⟩⟩⟩⟩⟩⟩⟩⟩⟩⟩
def lw_privs : List (MethodName × Nat) := lw_privs_1
def lw_tbl : List Cond := k2_sels lw_privs ++ tables_1
theorem lw_privs_ok : ∀ q ∈ lw_privs, lw_okq q := lw_r1
end
section
/-! THE MATHEMATICS: counting, sorted rows, orders by the greatest; what both sides answer. No machine here. -/
theorem qm_le_refl (a : Int32) : a ≤ a := by rw [Int32.le_iff_toInt_le]; exact Int.le_refl _
theorem qm_le_trans {a b c : Int32} (h : a ≤ b) (k : b ≤ c) : a ≤ c := by rw [Int32.le_iff_toInt_le] at *; exact Int.le_trans h k
theorem qm_lt_le {a b : Int32} (h : a < b) : a ≤ b := by rw [Int32.le_iff_toInt_le]; rw [Int32.lt_iff_toInt_lt] at h; omega
theorem qm_nle {a b : Int32} (h : ¬ a ≤ b) : b < a := by rw [Int32.le_iff_toInt_le] at h; rw [Int32.lt_iff_toInt_lt]; omega
theorem qm_nlt {a b : Int32} (h : ¬ a < b) : b ≤ a := by rw [Int32.lt_iff_toInt_lt] at h; rw [Int32.le_iff_toInt_le]; omega
theorem qm_le_lt {a b c : Int32} (h : a ≤ b) (k : b < c) : a < c := by rw [Int32.le_iff_toInt_le] at h; rw [Int32.lt_iff_toInt_lt] at *; omega
theorem qm_lt_ne {a b : Int32} (h : a < b) : ¬ a = b := by intro e; rw [Int32.lt_iff_toInt_lt, e] at h; omega
theorem qm_tri (a b : Int32) : a < b ∨ a = b ∨ b < a := by
  rw [Int32.lt_iff_toInt_lt, Int32.lt_iff_toInt_lt, ← Int32.toInt_inj]; omega
/-- how often v stands among f 0 .. f (n-1) -/
def qm_cnt {α : Type} [DecidableEq α] (f : Nat → α) : Nat → α → Nat
  | 0, _ => 0
  | n + 1, v => qm_cnt f n v + (if f n = v then 1 else 0)
theorem qm_cnt_congr {α : Type} [DecidableEq α] {f g : Nat → α} {v : α} : ∀ {n : Nat}, (∀ k, k < n → f k = g k) → qm_cnt f n v = qm_cnt g n v
  | 0, _ => rfl
  | n + 1, h => by
    simp only [qm_cnt]
    rw [qm_cnt_congr (n := n) (fun k hk => h k (by omega)), h n (by omega)]
theorem qm_cnt_add {α : Type} [DecidableEq α] (f : Nat → α) (a : Nat) (v : α) : ∀ b, qm_cnt f (a + b) v = qm_cnt f a v + qm_cnt (fun k => f (a + k)) b v
  | 0 => rfl
  | b + 1 => by
    show qm_cnt f (a + b) v + (if f (a + b) = v then 1 else 0) = qm_cnt f a v + (qm_cnt (fun k => f (a + k)) b v + (if f (a + b) = v then 1 else 0))
    rw [qm_cnt_add f a v b, Nat.add_assoc]
theorem qm_cnt_pos {α : Type} [DecidableEq α] {f : Nat → α} {v : α} : ∀ {n : Nat}, 0 < qm_cnt f n v → ∃ k, k < n ∧ f k = v
  | 0, h => absurd h (Nat.lt_irrefl 0)
  | n + 1, h => by
    by_cases e : f n = v
    · exact ⟨n, by omega, e⟩
    · have h2 : 0 < qm_cnt f n v := by
        have h3 : qm_cnt f (n + 1) v = qm_cnt f n v + 0 := by show _ + (if f n = v then 1 else 0) = _; rw [if_neg e]
        omega
      obtain ⟨k, a, b⟩ := qm_cnt_pos h2
      exact ⟨k, by omega, b⟩
theorem qm_cnt_of {α : Type} [DecidableEq α] {f : Nat → α} {v : α} : ∀ {n k : Nat}, k < n → f k = v → 0 < qm_cnt f n v
  | 0, k, h, _ => absurd h (Nat.not_lt_zero k)
  | n + 1, k, h, e => by
    show 0 < qm_cnt f n v + (if f n = v then 1 else 0)
    by_cases q : k = n
    · subst q; rw [if_pos e]; omega
    · have := qm_cnt_of (n := n) (k := k) (by omega) e
      omega
theorem qm_cnt_zero {α : Type} [DecidableEq α] {f : Nat → α} {v : α} {n : Nat} (h : ∀ k, k < n → ¬ f k = v) : qm_cnt f n v = 0 := by
  rcases Nat.eq_zero_or_pos (qm_cnt f n v) with q | q
  · exact q
  · obtain ⟨k, a, b⟩ := qm_cnt_pos q; exact absurd b (h k a)
/-- a map that keeps the elements apart keeps the counts -/
theorem qm_cnt_map {α β : Type} [DecidableEq α] [DecidableEq β] {f : Nat → α} {g : Nat → β} {v : α} {w : β} : ∀ {n : Nat}, (∀ k, k < n → (f k = v ↔ g k = w)) → qm_cnt f n v = qm_cnt g n w
  | 0, _ => rfl
  | n + 1, h => by
    show qm_cnt f n v + (if f n = v then 1 else 0) = qm_cnt g n w + (if g n = w then 1 else 0)
    rw [qm_cnt_map (n := n) (fun k hk => h k (by omega))]
    by_cases e : f n = v
    · rw [if_pos e, if_pos ((h n (by omega)).mp e)]
    · rw [if_neg e, if_neg (fun q => e ((h n (by omega)).mpr q))]
/-- one comes in at j -/
theorem qm_ins_cnt {α : Type} [DecidableEq α] {f u : Nat → α} {n j : Nat} {x : α} (hj : j ≤ n) (h1 : ∀ k, k < j → u k = f k) (h2 : u j = x) (h3 : ∀ k, j ≤ k → k < n → u (k + 1) = f k) (v : α) : qm_cnt u (n + 1) v = qm_cnt f n v + (if x = v then 1 else 0) := by
  obtain ⟨d, rfl⟩ : ∃ d, n = j + d := ⟨n - j, by omega⟩
  have e1 : qm_cnt u (j + 1 + d) v = qm_cnt u (j + 1) v + qm_cnt (fun k => u (j + 1 + k)) d v := qm_cnt_add u (j + 1) v d
  have e2 : qm_cnt u (j + 1) v = qm_cnt f j v + (if x = v then 1 else 0) := by
    show qm_cnt u j v + (if u j = v then 1 else 0) = _
    rw [h2, qm_cnt_congr (g := f) h1]
  have e3 : qm_cnt (fun k => u (j + 1 + k)) d v = qm_cnt (fun k => f (j + k)) d v := qm_cnt_congr (fun k hk => by
    show u (j + 1 + k) = f (j + k)
    have q := h3 (j + k) (by omega) (by omega)
    rw [show j + 1 + k = j + k + 1 by omega]; exact q)
  rw [show j + d + 1 = j + 1 + d by omega, e1, e2, e3, qm_cnt_add f j v d, Nat.add_right_comm]
/-- from the least to the greatest -/
def qm_srt (f : Nat → Int32) (n : Nat) : Prop := ∀ i j, i ≤ j → j < n → f i ≤ f j
theorem qm_srt_0 (f : Nat → Int32) : qm_srt f 0 := fun _ j _ h => absurd h (Nat.not_lt_zero j)
theorem qm_srt_congr {f g : Nat → Int32} {n : Nat} (h : qm_srt f n) (e : ∀ k, k < n → g k = f k) : qm_srt g n := fun i j a b => by
  rw [e i (by omega), e j b]; exact h i j a b
/-- u is f with x put in its place -/
def qm_ins (f : Nat → Int32) (n : Nat) (x : Int32) (u : Nat → Int32) : Prop := ∃ j, j ≤ n ∧ (∀ k, k < j → u k = f k) ∧ u j = x ∧ (∀ k, j ≤ k → k < n → u (k + 1) = f k) ∧ (0 < j → f (j - 1) ≤ x) ∧ (j < n → x ≤ f j)
theorem qm_ins_srt {f u : Nat → Int32} {n : Nat} {x : Int32} (h : qm_ins f n x u) (hs : qm_srt f n) : qm_srt u (n + 1) := by
  obtain ⟨j, hj, h1, h2, h3, h4, h5⟩ := h
  intro a b hab hb
  rcases Nat.lt_trichotomy a j with ha | ha | ha
  · rw [h1 a ha]
    rcases Nat.lt_trichotomy b j with hb1 | hb1 | hb1
    · rw [h1 b hb1]; exact hs a b hab (by omega)
    · rw [hb1, h2]; exact qm_le_trans (hs a (j - 1) (by omega) (by omega)) (h4 (by omega))
    · obtain ⟨c, hc⟩ : ∃ c, b = c + 1 := ⟨b - 1, by omega⟩
      rw [hc, h3 c (by omega) (by omega)]; exact hs a c (by omega) (by omega)
  · rw [ha, h2]
    rcases Nat.lt_or_ge j b with hb1 | hb1
    · obtain ⟨c, hc⟩ : ∃ c, b = c + 1 := ⟨b - 1, by omega⟩
      rw [hc, h3 c (by omega) (by omega)]; exact qm_le_trans (h5 (by omega)) (hs j c (by omega) (by omega))
    · rw [show b = j by omega, h2]; exact qm_le_refl _
  · obtain ⟨c, hc⟩ : ∃ c, b = c + 1 := ⟨b - 1, by omega⟩
    obtain ⟨d, hd⟩ : ∃ d, a = d + 1 := ⟨a - 1, by omega⟩
    rw [hc, hd, h3 c (by omega) (by omega), h3 d (by omega) (by omega)]; exact hs d c (by omega) (by omega)
theorem qm_ins_c {f u : Nat → Int32} {n : Nat} {x : Int32} (h : qm_ins f n x u) (v : Int32) : qm_cnt u (n + 1) v = qm_cnt f n v + (if x = v then 1 else 0) := by
  obtain ⟨j, hj, h1, h2, h3, -, -⟩ := h
  exact qm_ins_cnt hj h1 h2 h3 v
/-- u is f without the first x -/
def qm_del (f : Nat → Int32) (n : Nat) (x : Int32) (u : Nat → Int32) : Prop := ∃ j, j ≤ n ∧ f j = x ∧ (∀ k, k < j → u k = f k) ∧ (∀ k, j ≤ k → k < n → u k = f (k + 1))
theorem qm_del_srt {f u : Nat → Int32} {n : Nat} {x : Int32} (h : qm_del f n x u) (hs : qm_srt f (n + 1)) : qm_srt u n := by
  obtain ⟨j, hj, h1, h2, h3⟩ := h
  intro a b hab hb
  rcases Nat.lt_or_ge a j with ha | ha
  · rw [h2 a ha]
    rcases Nat.lt_or_ge b j with hb1 | hb1
    · rw [h2 b hb1]; exact hs a b hab (by omega)
    · rw [h3 b hb1 hb]; exact hs a (b + 1) (by omega) (by omega)
  · rw [h3 a ha (by omega), h3 b (by omega) hb]; exact hs (a + 1) (b + 1) (by omega) (by omega)
theorem qm_del_c {f u : Nat → Int32} {n : Nat} {x : Int32} (h : qm_del f n x u) (v : Int32) : qm_cnt f (n + 1) v = qm_cnt u n v + (if x = v then 1 else 0) := by
  obtain ⟨j, hj, h1, h2, h3⟩ := h
  exact qm_ins_cnt hj (fun k hk => (h2 k hk).symm) h1 (fun k a b => (h3 k a b).symm) v
/-- f, in order, holds what g holds -/
def qm_of (f g : Nat → Int32) (n : Nat) : Prop := qm_srt f n ∧ ∀ v, qm_cnt f n v = qm_cnt g n v
theorem qm_of_ins {f g u : Nat → Int32} {n : Nat} (h : qm_of f g n) (hi : qm_ins f n (g n) u) : qm_of u g (n + 1) :=
  ⟨qm_ins_srt hi h.1, fun v => by rw [qm_ins_c hi v, h.2 v]; rfl⟩
theorem qm_of_del {f g u : Nat → Int32} {n : Nat} (h : qm_of f g (n + 1)) (hi : qm_del f n (g n) u) : qm_of u g n :=
  ⟨qm_del_srt hi h.1, fun v => by
    have a := qm_del_c hi v
    have b : qm_cnt f (n + 1) v = qm_cnt g n v + (if g n = v then 1 else 0) := h.2 v
    omega⟩
theorem qm_of_congr {f g k : Nat → Int32} {n : Nat} (h : qm_of f g n) (e : ∀ j, j < n → g j = k j) : qm_of f k n :=
  ⟨h.1, fun v => by rw [h.2 v]; exact qm_cnt_congr e⟩
theorem qm_of_has {f g : Nat → Int32} {n k : Nat} (h : qm_of f g n) (hk : k < n) : ∃ j, j < n ∧ f j = g k := by
  have a : 0 < qm_cnt f n (g k) := by rw [h.2]; exact qm_cnt_of hk rfl
  exact qm_cnt_pos a
/-- the order of two bags by their greatest: what is more is greater -/
def qm_ord {α : Type} (lt : α → α → Prop) (cA cB : α → Nat) (r : Int32) : Prop :=
  (r = nI 0 ∧ ∀ v, cA v = cB v) ∨ (r = nI 1 ∧ ∃ v, (∀ u, lt v u → cA u = cB u) ∧ cB v < cA v) ∨ (r = -1 ∧ ∃ v, (∀ u, lt v u → cA u = cB u) ∧ cA v < cB v)
theorem qm_ord_one {α : Type} {lt : α → α → Prop} (tri : ∀ a b, lt a b ∨ a = b ∨ lt b a) {cA cB : α → Nat} {r q : Int32} (h : qm_ord lt cA cB r) (k : qm_ord lt cA cB q) : r = q := by
  rcases h with ⟨e, a⟩ | ⟨e, v, a, b⟩ | ⟨e, v, a, b⟩ <;> rcases k with ⟨e2, a2⟩ | ⟨e2, v2, a2, b2⟩ | ⟨e2, v2, a2, b2⟩
  · rw [e, e2]
  · have := a v2; omega
  · have := a v2; omega
  · have := a2 v; omega
  · rw [e, e2]
  · rcases tri v v2 with q | q | q
    · have := a v2 q; omega
    · subst q; omega
    · have := a2 v q; omega
  · have := a2 v; omega
  · rcases tri v v2 with q | q | q
    · have := a v2 q; omega
    · subst q; omega
    · have := a2 v q; omega
  · rw [e, e2]
/-- two rows in order, alike in their last i: the tops of both are one -/
theorem qm_top {f g : Nat → Int32} {n i : Nat} (hi : i ≤ n) (he : ∀ k, n - i ≤ k → k < n → f k = g k) (v : Int32) (hf : ∀ k, k < n - i → ¬ f k = v) (hg : ∀ k, k < n - i → ¬ g k = v) : qm_cnt f n v = qm_cnt g n v := by
  obtain ⟨d, hd⟩ : ∃ d, n = d + i := ⟨n - i, by omega⟩
  subst hd
  rw [qm_cnt_add f d v i, qm_cnt_add g d v i, qm_cnt_zero (fun k hk => hf k (by omega)), qm_cnt_zero (fun k hk => hg k (by omega))]
  rw [qm_cnt_congr (g := fun k => g (d + k)) (fun k hk => he (d + k) (by omega) (by omega))]
/-- the first place from above at which two rows in order differ -/
theorem qm_diff {f g : Nat → Int32} {n i : Nat} (hf : qm_srt f n) (hg : qm_srt g n) (hi : i < n) (he : ∀ k, n - i ≤ k → k < n → f k = g k) (hl : f (n - (i + 1)) < g (n - (i + 1))) :
    ∃ v, (∀ u, v < u → qm_cnt f n u = qm_cnt g n u) ∧ qm_cnt f n v < qm_cnt g n v := by
  have a1 : ∀ k, k < n - i → f k < g (n - (i + 1)) := fun k hk => qm_le_lt (hf k (n - (i + 1)) (by omega) (by omega)) hl
  refine ⟨g (n - (i + 1)), fun u hu => ?_, ?_⟩
  · refine qm_top (i := i) (by omega) he u (fun k hk => ?_) (fun k hk => ?_)
    · intro e
      have q := a1 k hk
      rw [e, Int32.lt_iff_toInt_lt] at q
      rw [Int32.lt_iff_toInt_lt] at hu
      omega
    · exact qm_lt_ne (qm_le_lt (hg k (n - (i + 1)) (by omega) (by omega)) hu)
  · obtain ⟨d, hd⟩ : ∃ d, n = d + i := ⟨n - i, by omega⟩
    have ed : d + i - (i + 1) = d - 1 := by omega
    subst hd
    rw [ed] at *
    rw [qm_cnt_add f d _ i, qm_cnt_add g d _ i, qm_cnt_zero (f := f) (n := d) (fun k hk => qm_lt_ne (a1 k (by omega)))]
    rw [qm_cnt_congr (f := fun k => f (d + k)) (g := fun k => g (d + k)) (fun k hk => he (d + k) (by omega) (by omega))]
    have p : 0 < qm_cnt g d (g (d - 1)) := qm_cnt_of (k := d - 1) (by omega) rfl
    omega
/-- the sign of an order -/
def qm_sg (x y : Int64) (r : Int32) : Prop := (x < y ∧ r = -1) ∨ (x = y ∧ r = nI 0) ∨ (y < x ∧ r = nI 1)
theorem qm_sg_0 {x y : Int64} {r : Int32} (h : qm_sg x y r) (e : r = 0) : x = y := by
  rcases h with ⟨-, h⟩ | ⟨h, -⟩ | ⟨-, h⟩
  · rw [h] at e; exact absurd e (by decide)
  · exact h
  · rw [h] at e; exact absurd e (by decide)
theorem qm_sg_one {x y : Int64} {r q : Int32} (h : qm_sg x y r) (k : qm_sg x y q) : r = q := by
  rcases h with ⟨a, e⟩ | ⟨a, e⟩ | ⟨a, e⟩ <;> rcases k with ⟨b, e2⟩ | ⟨b, e2⟩ | ⟨b, e2⟩ <;> first | (exfalso; simp only [Int64.lt_iff_toInt_lt, ← Int64.toInt_inj] at a b; omega) | (rw [e, e2]; done)
theorem qm_l_inj {a b : Int32} (h : a.toInt64 = b.toInt64) : a = b := by
  have q := congrArg Int64.toInt h
  rw [Int32.toInt_toInt64, Int32.toInt_toInt64] at q
  exact Int32.toInt_inj.mp q
theorem qm_l_lt {a b : Int32} (h : a.toInt64 < b.toInt64) : a < b := by
  rw [Int64.lt_iff_toInt_lt, Int32.toInt_toInt64, Int32.toInt_toInt64] at h
  rw [Int32.lt_iff_toInt_lt]; exact h
theorem qm_ord_of {f g : Nat → Int32} {n i : Nat} {r : Int32} (hf : qm_srt f n) (hg : qm_srt g n) (hi : i < n) (he : ∀ k, n - i ≤ k → k < n → f k = g k) (h : qm_sg (f (n - (i + 1))).toInt64 (g (n - (i + 1))).toInt64 r) (hr : ¬ r = 0) : qm_ord (fun a b : Int32 => a < b) (qm_cnt f n) (qm_cnt g n) r := by
  rcases h with ⟨a, e⟩ | ⟨a, e⟩ | ⟨a, e⟩
  · exact Or.inr (Or.inr ⟨e, qm_diff hf hg hi he (qm_l_lt a)⟩)
  · rw [e] at hr; exact absurd nI_0 hr
  · obtain ⟨v, p, q⟩ := qm_diff hg hf hi (fun k x y => (he k x y).symm) (qm_l_lt a)
    exact Or.inr (Or.inl ⟨e, v, fun u hu => (p u hu).symm, q⟩)
/-- a number between two is a Nat's -/
theorem qm_within {x : Int32} {a b : Nat} (h : nI a ≤ x ∧ x ≤ nI b) (ha : a < 2 ^ 31) (hb : b < 2 ^ 31) : ∃ k, a ≤ k ∧ k ≤ b ∧ x = nI k := by
  have h1 := h.1
  have h2 := h.2
  rw [Int32.le_iff_toInt_le, nI_toInt ha] at h1
  rw [Int32.le_iff_toInt_le, nI_toInt hb] at h2
  refine ⟨x.toInt.toNat, by omega, by omega, ?_⟩
  rw [← Int32.toInt_inj, nI_toInt (by omega)]; omega
theorem qm_below {x : Int32} {b : Nat} (h : ¬ x < 0 ∧ x < nI b) (hb : b < 2 ^ 31) : ∃ k, k < b ∧ x = nI k := by
  have h1 := h.1
  have h2 := h.2
  rw [Int32.lt_iff_toInt_lt, Int32.toInt_zero] at h1
  rw [Int32.lt_iff_toInt_lt, nI_toInt hb] at h2
  refine ⟨x.toInt.toNat, by omega, ?_⟩
  rw [← Int32.toInt_inj, nI_toInt (by omega)]; omega
theorem qm_lt_nle {a b : Int32} (h : a < b) : ¬ b ≤ a := by rw [Int32.lt_iff_toInt_lt] at h; rw [Int32.le_iff_toInt_le]; omega
theorem qm_next {f : Nat → Int32} {n j : Nat} {x : Int32} (hf : ∃ k, k < n + 1 ∧ f k = x) (h1 : ∀ k, k < j → ¬ f k = x) (cj : ¬ f j = x) : j + 1 ≤ n := by
  obtain ⟨k, a, b⟩ := hf
  rcases Nat.lt_trichotomy k j with z | z | z
  · exact absurd b (h1 k z)
  · rw [z] at b; exact absurd b cj
  · omega
theorem qm_till {f : Nat → Int32} {j : Nat} {x : Int32} (h1 : ∀ k, k < j → ¬ f k = x) (cj : ¬ f j = x) : ∀ k, k < j + 1 → ¬ f k = x := fun k hk => by
  rcases Nat.lt_or_ge k j with z | z
  · exact h1 k z
  · rw [show k = j by omega]; exact cj
theorem qm_down {f g : Nat → Int32} {n i : Nat} (he : ∀ k, n - i ≤ k → k < n → f k = g k) (e : f (n - (i + 1)) = g (n - (i + 1))) (hi : i < n) : ∀ k, n - (i + 1) ≤ k → k < n → f k = g k := fun k a b => by
  rcases Nat.lt_or_ge k (n - i) with z | z
  · rw [show k = n - (i + 1) by omega]; exact e
  · exact he k z b
theorem qm_le_nlt0 {a : Int32} (h : 0 ≤ a) : ¬ a < 0 := by rw [Int32.le_iff_toInt_le] at h; rw [Int32.lt_iff_toInt_lt]; omega
theorem qm_lt_nle0 {a : Int32} (h : a < 0) : ¬ nI 0 ≤ a := by rw [nI_0]; exact qm_lt_nle h
end
section
/-! WRAPPERS: rows of the kit in the words of this claim: numbers by their Nat, arrays by a Nat place, worlds by one G. -/
/-- the classes' numbers and slots, and the numbers of the array classes int[], long[], boolean[], Row[] -/
abbrev qG : Type := va_G × ClassId × ClassId × ClassId × ClassId
abbrev qTy (G : qG) : List (ClassId × FieldType) := [(G.2.1, .int), (G.2.2.1, .long), (G.2.2.2.1, .boolean), (G.2.2.2.2, .object "GradeRows$Row")]
/-- a rule's number one up, 0 for none -/
def nM (n : Nat) : Int32 := nI n - 1
theorem nM_0 : nM 0 = -1 := by decide
theorem nM_s (n : Nat) : nM (n + 1) = nI n := nI_pred n
theorem nM_p {n : Nat} (h : 0 < n) : nM n = nI (n - 1) := by
  obtain ⟨k, rfl⟩ : ∃ k, n = k + 1 := ⟨n - 1, by omega⟩
  exact nM_s k
theorem nM_toInt {n : Nat} (h : n < 2 ^ 31) : (nM n).toInt = (n : Int) - 1 := by
  rcases Nat.eq_zero_or_pos n with q | q
  · subst q; rw [nM_0]; decide
  · rw [nM_p q, nI_toInt (by omega)]; omega
theorem nM_eq {a b : Nat} (ha : a < 2 ^ 31) (hb : b < 2 ^ 31) : nM a = nM b ↔ a = b := by
  rw [← Int32.toInt_inj, nM_toInt ha, nM_toInt hb]; omega
theorem nM_eq1 {a : Nat} (ha : a < 2 ^ 31) : nM a = -1 ↔ a = 0 := by
  rw [← nM_0]; exact nM_eq ha (by omega)
theorem nM_eqI {a b : Nat} (ha : a < 2 ^ 31) (hb : b < 2 ^ 31) : nM a = nI b ↔ a = b + 1 := by
  rw [← nM_s b, ← Int32.toInt_inj, nM_toInt ha]
  rw [nM_s b, nI_toInt hb]; omega
/-- a long one up, 0 for -1 -/
def lM (n : Nat) : Int64 := lN n - 1
theorem lM_toInt {n : Nat} (h : n < 2 ^ 31) : (lM n).toInt = (n : Int) - 1 := by
  rcases Nat.eq_zero_or_pos n with q | q
  · subst q; decide
  · obtain ⟨k, rfl⟩ : ∃ k, n = k + 1 := ⟨n - 1, by omega⟩
    have e : lM (k + 1) = lN k := by unfold lM; rw [← lN_1 k]; exact Int64.add_sub_cancel _ _
    rw [e, lN_toInt (by omega)]; omega
theorem lM_0 : lM 0 = -1 := by decide
theorem lM_s (n : Nat) : lM (n + 1) = lN n := by unfold lM; rw [← lN_1 n]; exact Int64.add_sub_cancel _ _
theorem lM_lt {a b : Nat} (ha : a < 2 ^ 31) (hb : b < 2 ^ 31) : lM a < lM b ↔ a < b := by
  rw [Int64.lt_iff_toInt_lt, lM_toInt ha, lM_toInt hb]; omega
theorem lM_le {a b : Nat} (ha : a < 2 ^ 31) (hb : b < 2 ^ 31) : lM a ≤ lM b ↔ a ≤ b := by
  rw [Int64.le_iff_toInt_le, lM_toInt ha, lM_toInt hb]; omega
theorem lM_eq {a b : Nat} (ha : a < 2 ^ 31) (hb : b < 2 ^ 31) : lM a = lM b ↔ a = b := by
  rw [← Int64.toInt_inj, lM_toInt ha, lM_toInt hb]; omega
theorem z0lt {a : Nat} (h : a < 2 ^ 31) : nI a < 0 ↔ a < 0 := by rw [← nI_0]; exact nI_ltI h (by omega)
theorem z0le {a : Nat} (h : a < 2 ^ 31) : nI a ≤ 0 ↔ a ≤ 0 := by rw [← nI_0]; exact nI_leI h (by omega)
theorem z0ge {a : Nat} (h : a < 2 ^ 31) : 0 ≤ nI a ↔ 0 ≤ a := by rw [← nI_0]; exact nI_leI (by omega) h
theorem z0gt {a : Nat} (h : a < 2 ^ 31) : 0 < nI a ↔ 0 < a := by rw [← nI_0]; exact nI_ltI (by omega) h
theorem z0eq {a : Nat} (h : a < 2 ^ 31) : nI a = 0 ↔ a = 0 := by rw [← nI_0]; exact nI_eq h (by omega)
/-- a truth value, not 0 -/
theorem qk_ite0 {P : Prop} [Decidable P] : (¬ (if P then nI 1 else nI 0) = 0) ↔ P := by
  by_cases h : P
  · rw [if_pos h]; exact ⟨fun _ => h, fun _ => by decide⟩
  · rw [if_neg h]; exact ⟨fun q => absurd nI_0 q, fun q => absurd q h⟩
section QW
variable {p : Program} {l : Launch} {e : Env} {R : Room} {s : State} {m : MethodId} {args : Array Value} {below : List Frame} {meth : Method} {c : Code} {H : Heap} {locs : List Loc} {cells slots : Nat} {Q : State → Prop}
variable {cc : ByteArray} {pc : Nat} {ls : Array Slot} {rest : List Value} {D : va_G} {cl : List vw_C} {A : Nat → Prop} {a : Nat} {tys : List (ClassId × FieldType)} {ws : va_W} {H0 : Heap}
theorem qk_topi {x t : Int32} (h : x = t) (k : W p l e R s m args below meth c H locs cells slots Q (F0 m pc ls (.int t :: rest))) : W p l e R s m args below meth c H locs cells slots Q (F0 m pc ls (.int x :: rest)) := by subst h; exact k
theorem qk_topl {x t : Int64} (h : x = t) (k : W p l e R s m args below meth c H locs cells slots Q (F0 m pc ls (.long t :: rest))) : W p l e R s m args below meth c H locs cells slots Q (F0 m pc ls (.long x :: rest)) := by subst h; exact k
theorem qk_iald (hexec : p.tables.exec = Jvm.exec) (hb : c.code = cc) (hK : va_K D cl tys s) (hP : va_P D cl ws H) (q0 t0 : Nat) {cA : ClassId} {n : Nat} {f : Nat → Int32} (ha : ws[q0]? = some (a, .inl (cA, n, .inl f))) (ht : tys[t0]? = some (cA, .int)) {i : Nat} (hi : i < n) (hn : n < 2 ^ 31) {v : Int32} (hv : f i = v) (hdg : decode cc pc = .ok (.iaload, 1))
    (kk : W p l e R s m args below meth c H locs cells slots Q (F0 m (pc + 1) ls (.int v :: rest))) : W p l e R s m args below meth c H locs cells slots Q (F0 m pc ls (.int (nI i) :: .ref a :: rest)) := by
  refine va_iald hexec hb hK hP q0 t0 ha ht (vp_in_nI hi hn) hdg ?_
  rw [nI_clamp (by omega), hv]; exact kk
theorem qk_zald (hexec : p.tables.exec = Jvm.exec) (hb : c.code = cc) (hK : va_K D cl tys s) (hP : va_P D cl ws H) (q0 t0 : Nat) {cA : ClassId} {n : Nat} {f : Nat → Int32} (ha : ws[q0]? = some (a, .inl (cA, n, .inl f))) (ht : tys[t0]? = some (cA, .boolean)) {i : Nat} (hi : i < n) (hn : n < 2 ^ 31) {v : Int32} (hv : f i = v) (hdg : decode cc pc = .ok (.baload, 1))
    (kk : W p l e R s m args below meth c H locs cells slots Q (F0 m (pc + 1) ls (.int v :: rest))) : W p l e R s m args below meth c H locs cells slots Q (F0 m pc ls (.int (nI i) :: .ref a :: rest)) := by
  refine va_zald hexec hb hK hP q0 t0 ha ht (vp_in_nI hi hn) hdg ?_
  rw [nI_clamp (by omega), hv]; exact kk
theorem qk_lald (hexec : p.tables.exec = Jvm.exec) (hb : c.code = cc) (hK : va_K D cl tys s) (hP : va_P D cl ws H) (q0 t0 : Nat) {cA : ClassId} {n : Nat} {f : Nat → Int64} (ha : ws[q0]? = some (a, .inl (cA, n, .inr (.inl f)))) (ht : tys[t0]? = some (cA, .long)) {i : Nat} (hi : i < n) (hn : n < 2 ^ 31) {v : Int64} (hv : f i = v) (hdg : decode cc pc = .ok (.laload, 1))
    (kk : W p l e R s m args below meth c H locs cells slots Q (F0 m (pc + 1) ls (.long v :: rest))) : W p l e R s m args below meth c H locs cells slots Q (F0 m pc ls (.int (nI i) :: .ref a :: rest)) := by
  refine va_lald hexec hb hK hP q0 t0 ha ht (vp_in_nI hi hn) hdg ?_
  rw [nI_clamp (by omega), hv]; exact kk
theorem qk_aald (hexec : p.tables.exec = Jvm.exec) (hb : c.code = cc) (hK : va_K D cl tys s) (hP : va_P D cl ws H) (q0 t0 : Nat) {cA : ClassId} {C : String} {n : Nat} {f : Nat → Option Nat} (ha : ws[q0]? = some (a, .inl (cA, n, .inr (.inr (.inr (.inr f)))))) (ht : tys[t0]? = some (cA, .object C)) {i : Nat} (hi : i < n) (hn : n < 2 ^ 31) {v : Nat} (hv : f i = some v) (hdg : decode cc pc = .ok (.aaload, 1))
    (kk : W p l e R s m args below meth c H locs cells slots Q (F0 m (pc + 1) ls (.ref v :: rest))) : W p l e R s m args below meth c H locs cells slots Q (F0 m pc ls (.int (nI i) :: .ref a :: rest)) := by
  refine va_aldq hexec hb hK hP q0 t0 ha ht (vp_in_nI hi hn) hdg ?_
  rw [nI_clamp (by omega), hv]; exact kk
theorem qk_iast (hexec : p.tables.exec = Jvm.exec) (hb : c.code = cc) (hK : va_K D cl tys s) (hP : va_P D cl ws H) (hD : va_D A ws) (hS : va_S A H0 H locs) (q0 t0 : Nat) {cA : ClassId} {n : Nat} {f : Nat → Int32} (ha : ws[q0]? = some (a, .inl (cA, n, .inl f))) (ht : tys[t0]? = some (cA, .int)) {i : Nat} {x : Int32} (hi : i < n) (hn : n < 2 ^ 31) (hdg : decode cc pc = .ok (.iastore, 1))
    (kk : ∀ (H1 : Heap) (locs1 : List Loc), va_P D cl (ws.set q0 (a, .inl (cA, n, .inl (upd f i x)))) H1 → va_D A (ws.set q0 (a, .inl (cA, n, .inl (upd f i x)))) → va_S A H0 H1 locs1 → W p l e R s m args below meth c H1 locs1 cells slots Q (F0 m (pc + 1) ls rest)) : W p l e R s m args below meth c H locs cells slots Q (F0 m pc ls (.int x :: .int (nI i) :: .ref a :: rest)) := by
  have e : (nI i).toNatClampNeg = i := nI_clamp (by omega)
  refine va_iast hexec hb hK hP hD hS q0 t0 ha ht (vp_in_nI hi hn) hdg ?_
  rw [e]; exact kk
theorem qk_zast (hexec : p.tables.exec = Jvm.exec) (hb : c.code = cc) (hK : va_K D cl tys s) (hP : va_P D cl ws H) (hD : va_D A ws) (hS : va_S A H0 H locs) (q0 t0 : Nat) {cA : ClassId} {n : Nat} {f : Nat → Int32} (ha : ws[q0]? = some (a, .inl (cA, n, .inl f))) (ht : tys[t0]? = some (cA, .boolean)) {i : Nat} {x : Int32} (hx : vp_nar .boolean x = x) (hi : i < n) (hn : n < 2 ^ 31) (hdg : decode cc pc = .ok (.bastore, 1))
    (kk : ∀ (H1 : Heap) (locs1 : List Loc), va_P D cl (ws.set q0 (a, .inl (cA, n, .inl (upd f i x)))) H1 → va_D A (ws.set q0 (a, .inl (cA, n, .inl (upd f i x)))) → va_S A H0 H1 locs1 → W p l e R s m args below meth c H1 locs1 cells slots Q (F0 m (pc + 1) ls rest)) : W p l e R s m args below meth c H locs cells slots Q (F0 m pc ls (.int x :: .int (nI i) :: .ref a :: rest)) := by
  have e : (nI i).toNatClampNeg = i := nI_clamp (by omega)
  refine va_zast hexec hb hK hP hD hS q0 t0 ha ht (vp_in_nI hi hn) hdg ?_
  rw [e, hx]; exact kk
theorem qk_last (hexec : p.tables.exec = Jvm.exec) (hb : c.code = cc) (hK : va_K D cl tys s) (hP : va_P D cl ws H) (hD : va_D A ws) (hS : va_S A H0 H locs) (q0 t0 : Nat) {cA : ClassId} {n : Nat} {f : Nat → Int64} (ha : ws[q0]? = some (a, .inl (cA, n, .inr (.inl f)))) (ht : tys[t0]? = some (cA, .long)) {i : Nat} {x : Int64} (hi : i < n) (hn : n < 2 ^ 31) (hdg : decode cc pc = .ok (.lastore, 1))
    (kk : ∀ (H1 : Heap) (locs1 : List Loc), va_P D cl (ws.set q0 (a, .inl (cA, n, .inr (.inl (vp_updL f i x))))) H1 → va_D A (ws.set q0 (a, .inl (cA, n, .inr (.inl (vp_updL f i x))))) → va_S A H0 H1 locs1 → W p l e R s m args below meth c H1 locs1 cells slots Q (F0 m (pc + 1) ls rest)) : W p l e R s m args below meth c H locs cells slots Q (F0 m pc ls (.long x :: .int (nI i) :: .ref a :: rest)) := by
  have e : (nI i).toNatClampNeg = i := nI_clamp (by omega)
  refine va_last hexec hb hK hP hD hS q0 t0 ha ht (vp_in_nI hi hn) hdg ?_
  rw [e]; exact kk
end QW
/-- what a reading method takes: the cells that it reads -/
def qk_pre (G : qG) (cl : List vw_C) (ws : va_W) : State → Prop := fun U => va_P G.1 cl ws U.heap ∧ va_K G.1 cl (qTy G) U
/-- what a writing method takes -/
def qk_prw (G : qG) (cl : List vw_C) (ws : va_W) (sz : Nat) : State → Prop := fun U => U.heap.size = sz ∧ va_P G.1 cl ws U.heap ∧ va_K G.1 cl (qTy G) U ∧ va_D (fun _ => True) ws
/-- what a writing method leaves -/
def qk_B {S : Type} (G : qG) (cl : List vw_C) (A : Nat → Prop) (w : S → va_W) : S → State → Prop := fun u t => va_P G.1 cl (w u) t.heap ∧ va_K G.1 cl (qTy G) t ∧ va_D A (w u)
theorem qk_blind (G : qG) (cl : List vw_C) (ws : va_W) (av : List Value) : FrameBlind (va_Pc av (qk_pre G cl ws)) := fun a U g mk q => ⟨q.1, q.2.1, va_K.moved (u := U) (U := U.calling g mk a) (Vm.Alike.refl U.vm) q.2.2⟩
theorem qk_blindw (G : qG) (cl : List vw_C) (ws : va_W) (sz : Nat) (av : List Value) : FrameBlind (va_Pc av (qk_prw G cl ws sz)) := fun a U g mk q => ⟨q.1, q.2.1, q.2.2.1, va_K.moved (u := U) (U := U.calling g mk a) (Vm.Alike.refl U.vm) q.2.2.2.1, q.2.2.2.2⟩
theorem qk_pv {G : qG} {cl : List vw_C} {ws : va_W} {s : State} {H : Heap} {b q0 ci : Nat} {fs : List Value} {As : List Value} {r : vw_C} (hK : va_K G.1 cl (qTy G) s) (hP : va_P G.1 cl ws H) (hc : cl[ci]? = some r) (he : ws[q0]? = some (b, .inr (ci, fs))) : PreV s H r.1 b (va_Pc (.ref b :: As) (qk_pre G cl ws)) As :=
  ⟨qk_blind G cl ws _, va_recv hK hP hc he, fun U hU hW => ⟨rfl, by rw [hU]; exact hP, va_K.moved hW.alike hK⟩⟩
theorem qk_ps {G : qG} {cl : List vw_C} {ws : va_W} {s : State} {H : Heap} {As : List Value} (hK : va_K G.1 cl (qTy G) s) (hP : va_P G.1 cl ws H) : PreS s H (va_Pc As (qk_pre G cl ws)) As :=
  ⟨qk_blind G cl ws _, fun U hU hW => ⟨rfl, by rw [hU]; exact hP, va_K.moved hW.alike hK⟩⟩
theorem qk_pvw {G : qG} {cl : List vw_C} {ws : va_W} {s : State} {H : Heap} {A : Nat → Prop} {b q0 ci : Nat} {fs : List Value} {As : List Value} {r : vw_C} (hK : va_K G.1 cl (qTy G) s) (hP : va_P G.1 cl ws H) (hD : va_D A ws) (hc : cl[ci]? = some r) (he : ws[q0]? = some (b, .inr (ci, fs))) : PreV s H r.1 b (va_Pc (.ref b :: As) (qk_prw G cl ws H.size)) As :=
  ⟨qk_blindw G cl ws _ _, va_recv hK hP hc he, fun U hU hW => ⟨rfl, by rw [hU], by rw [hU]; exact hP, va_K.moved hW.alike hK, hD.weaken (fun _ _ _ _ => trivial)⟩⟩
theorem qk_psw {G : qG} {cl : List vw_C} {ws : va_W} {s : State} {H : Heap} {A : Nat → Prop} {As : List Value} (hK : va_K G.1 cl (qTy G) s) (hP : va_P G.1 cl ws H) (hD : va_D A ws) : PreS s H (va_Pc As (qk_prw G cl ws H.size)) As :=
  ⟨qk_blindw G cl ws _ _, fun U hU hW => ⟨rfl, by rw [hU], by rw [hU]; exact hP, va_K.moved hW.alike hK, hD.weaken (fun _ _ _ _ => trivial)⟩⟩
/-- cells out of a world, by membership -/
theorem qk_mem {D : va_G} {cl : List vw_C} {ws wc : va_W} {H : Heap} (h : va_P D cl ws H) (hm : ∀ q ∈ wc, q ∈ ws) : va_P D cl wc H := fun k q hk => by
  obtain ⟨j, hj⟩ := List.getElem?_of_mem (hm q (List.mem_of_getElem? hk))
  exact h j q hj
/-- one array class a type -/
theorem qk_one {D : va_G} {cl : List vw_C} {tys : List (ClassId × FieldType)} {s : State} (hK : va_K D cl tys s) {i j : Nat} {c1 c2 : ClassId} {ty : FieldType} (h1 : tys[i]? = some (c1, ty)) (h2 : tys[j]? = some (c2, ty)) : c1 = c2 := by
  have a := (hK.2 i _ h1).2
  have b := (hK.2 j _ h2).2
  unfold va_RA at a b
  cases ty <;> simp only at a b
  all_goals first
    | exact Option.some.inj (a.symm.trans b)
    | (obtain ⟨_, _, _, _, _, a⟩ := a; obtain ⟨_, _, _, _, _, b⟩ := b; exact Option.some.inj (a.symm.trans b))
end
section
/-! WHAT THE CALLS ANSWER, of numbers alone. A step is (r, a, b): by rule r - 1 at place a with width b; (0, d, 0) is a guess of depth d. -/
abbrev qS : Type := Nat × Nat × Nat
def qm_rs (s : Nat → qS) : Nat → Nat := fun j => (s j).1
/-- what a step costs -/
def qm_cost (w x : Nat → Nat) (s : Nat → qS) (k : Nat) : Nat :=
  if (s k).1 = 0 then (if 0 < k ∧ (s (k - 1)).1 = 0 then 2000 * (s k).2.1 else 1000 * (s k).2.1)
  else w ((s k).1 - 1) * (12 - (s k).2.2) / 4 + (if qm_cnt (qm_rs s) k (s k).1 = 0 then x ((s k).1 - 1) else 0)
def qm_okS (nr : Nat) (z : qS) : Prop := (z.1 = 0 ∧ 1 ≤ z.2.1 ∧ z.2.1 ≤ 20 ∧ z.2.2 = 0) ∨ (1 ≤ z.1 ∧ z.1 ≤ nr ∧ z.2.1 ≤ 255 ∧ 1 ≤ z.2.2 ∧ z.2.2 ≤ 9)
def qm_okR (nr : Nat) (w x : Nat → Nat) : Prop := nr ≤ 40 ∧ ∀ i, i < nr → w i ≤ 10000 ∧ x i ≤ 100000
theorem qm_okS_mono {nr nr2 : Nat} {z : qS} (h : qm_okS nr z) (h2 : nr ≤ nr2) : qm_okS nr2 z := by
  rcases h with h | h
  · exact Or.inl h
  · exact Or.inr ⟨h.1, by omega, h.2.2⟩
theorem qm_w_le {nr : Nat} {w x : Nat → Nat} (hR : qm_okR nr w x) {r b : Nat} (h1 : 1 ≤ r) (h2 : r ≤ nr) : w (r - 1) * (12 - b) ≤ 120000 :=
  Nat.le_trans (Nat.mul_le_mul (hR.2 (r - 1) (by omega)).1 (show 12 - b ≤ 12 by omega)) (by decide)
theorem qm_cost_le {nr : Nat} {w x : Nat → Nat} {s : Nat → qS} {k : Nat} (hR : qm_okR nr w x) (hs : qm_okS nr (s k)) : qm_cost w x s k ≤ 130000 := by
  unfold qm_cost
  rcases hs with h | h
  · rw [if_pos h.1]
    split <;> omega
  · rw [if_neg (by omega)]
    have a : w ((s k).1 - 1) * (12 - (s k).2.2) / 4 ≤ 30000 := by
      have := qm_w_le hR (b := (s k).2.2) h.1 h.2.1
      omega
    have b := (hR.2 ((s k).1 - 1) (by omega)).2
    split <;> omega
theorem qm_cost_congr {nr : Nat} {w x w2 x2 : Nat → Nat} {s s2 : Nat → qS} {k : Nat} (hs : qm_okS nr (s k)) (hw : ∀ i, i < nr → w2 i = w i ∧ x2 i = x i) (he : ∀ j, j ≤ k → s2 j = s j) : qm_cost w2 x2 s2 k = qm_cost w x s k := by
  unfold qm_cost
  have e1 : qm_cnt (qm_rs s2) k (s k).1 = qm_cnt (qm_rs s) k (s k).1 := qm_cnt_congr (fun j hj => by unfold qm_rs; rw [he j (by omega)])
  rw [he k (Nat.le_refl k), he (k - 1) (by omega), e1]
  rcases hs with h | h
  · rw [if_pos h.1, if_pos h.1]
  · have e0 : ¬ (s k).1 = 0 := by omega
    rw [if_neg e0, if_neg e0, (hw ((s k).1 - 1) (by omega)).1, (hw ((s k).1 - 1) (by omega)).2]
def qm_sum (c : Nat → Nat) : Nat → Nat
  | 0 => 0
  | n + 1 => qm_sum c n + c n
theorem qm_sum_le {c : Nat → Nat} {B : Nat} : ∀ {n : Nat}, (∀ k, k < n → c k ≤ B) → qm_sum c n ≤ n * B
  | 0, _ => by simp [qm_sum]
  | n + 1, h => by
    have a := qm_sum_le (n := n) (fun k hk => h k (by omega))
    have b := h n (by omega)
    show qm_sum c n + c n ≤ (n + 1) * B
    rw [Nat.add_mul, Nat.one_mul]; omega
theorem qm_sum_congr {c d : Nat → Nat} : ∀ {n : Nat}, (∀ k, k < n → c k = d k) → qm_sum c n = qm_sum d n
  | 0, _ => rfl
  | n + 1, h => by
    show qm_sum c n + c n = qm_sum d n + d n
    rw [qm_sum_congr (n := n) (fun k hk => h k (by omega)), h n (by omega)]
/-- what the steps by rule r cost together -/
def qm_sp (s : Nat → qS) (c : Nat → Nat) (r : Nat) : Nat → Nat
  | 0 => 0
  | n + 1 => qm_sp s c r n + (if (s n).1 = r + 1 then c n else 0)
theorem qm_sp_le {s : Nat → qS} {c : Nat → Nat} {r B : Nat} : ∀ {n : Nat}, (∀ k, k < n → c k ≤ B) → qm_sp s c r n ≤ n * B
  | 0, _ => by simp [qm_sp]
  | n + 1, h => by
    have a := qm_sp_le (s := s) (r := r) (n := n) (fun k hk => h k (by omega))
    have b := h n (by omega)
    show qm_sp s c r n + (if (s n).1 = r + 1 then c n else 0) ≤ (n + 1) * B
    rw [Nat.add_mul, Nat.one_mul]
    split <;> omega
theorem qm_sp_congr {s t : Nat → qS} {c d : Nat → Nat} {r : Nat} : ∀ {n : Nat}, (∀ k, k < n → c k = d k ∧ s k = t k) → qm_sp s c r n = qm_sp t d r n
  | 0, _ => rfl
  | n + 1, h => by
    show qm_sp s c r n + (if (s n).1 = r + 1 then c n else 0) = qm_sp t d r n + (if (t n).1 = r + 1 then d n else 0)
    rw [qm_sp_congr (n := n) (fun k hk => h k (by omega)), (h n (by omega)).1, (h n (by omega)).2]
theorem qm_cnt_le {α : Type} [DecidableEq α] {f : Nat → α} {v : α} : ∀ {n : Nat}, qm_cnt f n v ≤ n
  | 0 => Nat.le_refl 0
  | n + 1 => by
    have a := qm_cnt_le (f := f) (v := v) (n := n)
    show qm_cnt f n v + (if f n = v then 1 else 0) ≤ n + 1
    split <;> omega
/-- a step of width 1 by a rule; whether one at p was before n; whether k is the first at its place -/
def qm_nar (s : Nat → qS) (k : Nat) : Bool := decide (¬ (s k).1 = 0) && decide ((s k).2.2 = 1)
def qm_was (s : Nat → qS) (p : Nat) : Nat → Bool
  | 0 => false
  | n + 1 => qm_was s p n || (qm_nar s n && decide ((s n).2.1 = p))
def qm_fn (s : Nat → qS) (k : Nat) : Bool := qm_nar s k && !(qm_was s (s k).2.1 k)
def qm_wasF (s : Nat → qS) (p : Nat) : Nat → Bool
  | 0 => false
  | n + 1 => qm_wasF s p n || (qm_fn s n && decide ((s n).2.1 = p))
theorem qm_was_F (s : Nat → qS) (p : Nat) : ∀ n, qm_wasF s p n = qm_was s p n
  | 0 => rfl
  | n + 1 => by
    show (qm_wasF s p n || (qm_fn s n && decide ((s n).2.1 = p))) = (qm_was s p n || (qm_nar s n && decide ((s n).2.1 = p)))
    rw [qm_was_F s p n]
    by_cases e : (s n).2.1 = p
    · unfold qm_fn; rw [e]
      cases qm_was s p n <;> cases qm_nar s n <;> simp
    · simp [e]
theorem qm_was_congr {s t : Nat → qS} {p : Nat} : ∀ {n : Nat}, (∀ k, k < n → s k = t k) → qm_was s p n = qm_was t p n
  | 0, _ => rfl
  | n + 1, h => by
    show (qm_was s p n || (qm_nar s n && decide ((s n).2.1 = p))) = (qm_was t p n || (qm_nar t n && decide ((t n).2.1 = p)))
    unfold qm_nar
    rw [qm_was_congr (n := n) (fun k hk => h k (by omega)), h n (by omega)]
theorem qm_fn_congr {s t : Nat → qS} {k : Nat} (h : ∀ j, j ≤ k → s j = t j) : qm_fn s k = qm_fn t k := by
  unfold qm_fn qm_nar
  rw [h k (Nat.le_refl k), qm_was_congr (t := t) (fun j hj => h j (by omega))]
/-- the k-th first narrow place, from step i on, p passed so far -/
def qm_stk (s : Nat → qS) (k : Int32) : Nat → Nat → Nat → Int32
  | 0, _, _ => -1
  | f + 1, i, p => if qm_fn s i = true then (if nI p = k then nI (s i).2.1 else qm_stk s k f (i + 1) (p + 1)) else qm_stk s k f (i + 1) p
/-- the run's length behind n steps, and the longest -/
def qm_run (c : Nat → Nat) : Nat → Nat × Nat
  | 0 => (0, 0)
  | n + 1 => (if 0 < n ∧ c (n - 1) ≤ c n then (qm_run c n).1 + 1 else 1, if (qm_run c n).2 < (if 0 < n ∧ c (n - 1) ≤ c n then (qm_run c n).1 + 1 else 1) then (if 0 < n ∧ c (n - 1) ≤ c n then (qm_run c n).1 + 1 else 1) else (qm_run c n).2)
theorem qm_run_le (c : Nat → Nat) : ∀ n, (qm_run c n).1 ≤ n ∧ (qm_run c n).2 ≤ n
  | 0 => ⟨Nat.le_refl 0, Nat.le_refl 0⟩
  | n + 1 => by
    have a := qm_run_le c n
    have b : (if 0 < n ∧ c (n - 1) ≤ c n then (qm_run c n).1 + 1 else 1) ≤ n + 1 := by split <;> omega
    refine ⟨b, ?_⟩
    show (if (qm_run c n).2 < (if 0 < n ∧ c (n - 1) ≤ c n then (qm_run c n).1 + 1 else 1) then (if 0 < n ∧ c (n - 1) ≤ c n then (qm_run c n).1 + 1 else 1) else (qm_run c n).2) ≤ n + 1
    generalize (if 0 < n ∧ c (n - 1) ≤ c n then (qm_run c n).1 + 1 else 1) = q at b ⊢
    split <;> omega
theorem qm_run_congr {c d : Nat → Nat} : ∀ {n : Nat}, (∀ k, k < n → c k = d k) → qm_run c n = qm_run d n
  | 0, _ => rfl
  | n + 1, h => by
    have a := qm_run_congr (n := n) (fun k hk => h k (by omega))
    unfold qm_run
    rw [a, h n (by omega)]
    rcases Nat.eq_zero_or_pos n with q | q
    · subst q; simp
    · rw [h (n - 1) (by omega)]
/-- (the dearest rule, one up; what it costs, one up) of the first n rules; 0 for none -/
def qm_hd (u sp : Nat → Nat) : Nat → Nat × Nat
  | 0 => (0, 0)
  | n + 1 => if 0 < u n ∧ (qm_hd u sp n).2 < sp n + 1 then (n + 1, sp n + 1) else qm_hd u sp n
theorem qm_hd_le (u sp : Nat → Nat) {B : Nat} : ∀ n, (∀ k, k < n → sp k ≤ B) → (qm_hd u sp n).1 ≤ n ∧ (qm_hd u sp n).2 ≤ B + 1
  | 0, _ => ⟨Nat.le_refl 0, Nat.zero_le _⟩
  | n + 1, h => by
    have a := qm_hd_le u sp (B := B) n (fun k hk => h k (by omega))
    have b := h n (by omega)
    show (if 0 < u n ∧ (qm_hd u sp n).2 < sp n + 1 then (n + 1, sp n + 1) else qm_hd u sp n).1 ≤ n + 1 ∧ (if 0 < u n ∧ (qm_hd u sp n).2 < sp n + 1 then (n + 1, sp n + 1) else qm_hd u sp n).2 ≤ B + 1
    split
    · exact ⟨Nat.le_refl _, by omega⟩
    · exact ⟨by omega, a.2⟩
/-- classes of sums: the first that has v, from i on, i + fuel if none has it -/
def qm_cof (lo hi : Nat → Int64) (v : Int64) : Nat → Nat → Nat
  | 0, i => i
  | f + 1, i => if lo i ≤ v ∧ v ≤ hi i then i else qm_cof lo hi v f (i + 1)
theorem qm_cof_le (lo hi : Nat → Int64) (v : Int64) : ∀ f i, qm_cof lo hi v f i ≤ i + f
  | 0, i => Nat.le_refl _
  | f + 1, i => by
    have a := qm_cof_le lo hi v f (i + 1)
    show (if lo i ≤ v ∧ v ≤ hi i then i else qm_cof lo hi v f (i + 1)) ≤ i + (f + 1)
    split <;> omega
theorem qm_cof_in {lo hi : Nat → Int64} {v : Int64} : ∀ {f i : Nat}, qm_cof lo hi v f i < i + f → lo (qm_cof lo hi v f i) ≤ v ∧ v ≤ hi (qm_cof lo hi v f i)
  | 0, i, h => absurd h (Nat.lt_irrefl _)
  | f + 1, i, h => by
    by_cases q : lo i ≤ v ∧ v ≤ hi i
    · have e : qm_cof lo hi v (f + 1) i = i := if_pos q
      rw [e]; exact q
    · have e : qm_cof lo hi v (f + 1) i = qm_cof lo hi v f (i + 1) := if_neg q
      rw [e] at h ⊢
      exact qm_cof_in (by omega)
def qm_ans (n i : Nat) : Int32 := if i < n then nI i else -1
def qm_ovl (lo hi : Nat → Int64) (a b : Int64) : Nat → Nat → Bool
  | 0, _ => false
  | f + 1, i => if lo i ≤ b ∧ a ≤ hi i then true else qm_ovl lo hi a b f (i + 1)
def qm_bel (hi : Nat → Int64) (v : Int64) : Nat → Nat
  | 0 => 0
  | n + 1 => qm_bel hi v n + (if hi n < v then 1 else 0)
theorem qm_bel_le (hi : Nat → Int64) (v : Int64) : ∀ n, qm_bel hi v n ≤ n
  | 0 => Nat.le_refl 0
  | n + 1 => by
    have a := qm_bel_le hi v n
    show qm_bel hi v n + (if hi n < v then 1 else 0) ≤ n + 1
    split <;> omega
/-- how many of the first n classes reach v or beyond -/
def qm_up (hi : Nat → Int64) (v : Int64) : Nat → Nat
  | 0 => 0
  | n + 1 => qm_up hi v n + (if v ≤ hi n then 1 else 0)
theorem qm_up_le (hi : Nat → Int64) (v : Int64) : ∀ n, qm_up hi v n ≤ n
  | 0 => Nat.le_refl 0
  | n + 1 => by
    have a := qm_up_le hi v n
    show qm_up hi v n + (if v ≤ hi n then 1 else 0) ≤ n + 1
    split <;> omega
theorem qm_up_mono (hi : Nat → Int64) {v w : Int64} (h : v ≤ w) : ∀ n, qm_up hi w n ≤ qm_up hi v n
  | 0 => Nat.le_refl 0
  | n + 1 => by
    have a := qm_up_mono hi h n
    show qm_up hi w n + (if w ≤ hi n then 1 else 0) ≤ qm_up hi v n + (if v ≤ hi n then 1 else 0)
    by_cases q : w ≤ hi n
    · have q2 : v ≤ hi n := by rw [Int64.le_iff_toInt_le] at *; omega
      rw [if_pos q, if_pos q2]; omega
    · rw [if_neg q]; omega
theorem qm_up_lt (hi : Nat → Int64) {v w : Int64} (h : v ≤ w) {k : Nat} (h1 : v ≤ hi k) (h2 : ¬ w ≤ hi k) : ∀ n, k < n → qm_up hi w n < qm_up hi v n
  | 0, hk => absurd hk (Nat.not_lt_zero k)
  | n + 1, hk => by
    show qm_up hi w n + (if w ≤ hi n then 1 else 0) < qm_up hi v n + (if v ≤ hi n then 1 else 0)
    by_cases e : k = n
    · subst e
      have a := qm_up_mono hi h k
      rw [if_pos h1, if_neg h2]; omega
    · have a := qm_up_lt hi h h1 h2 n (by omega)
      by_cases q : w ≤ hi n
      · have q2 : v ≤ hi n := by rw [Int64.le_iff_toInt_le] at *; omega
        rw [if_pos q, if_pos q2]; omega
      · rw [if_neg q]; omega
/-- the least sum from v on that no class has, by at most f steps -/
def qm_gap (lo hi : Nat → Int64) (n : Nat) : Nat → Int64 → Int64
  | 0, v => v
  | f + 1, v => if qm_cof lo hi v n 0 < n then qm_gap lo hi n f (hi (qm_cof lo hi v n 0) + lN 1) else v
theorem qm_hd_yes {u sp : Nat → Nat} {n : Nat} (h : 0 < u n ∧ (qm_hd u sp n).2 < sp n + 1) : qm_hd u sp (n + 1) = (n + 1, sp n + 1) := if_pos h
theorem qm_hd_no {u sp : Nat → Nat} {n : Nat} (h : ¬ (0 < u n ∧ (qm_hd u sp n).2 < sp n + 1)) : qm_hd u sp (n + 1) = qm_hd u sp n := if_neg h
theorem qm_lnlt {a b : Int64} (h : ¬ a < b) : b ≤ a := by rw [Int64.lt_iff_toInt_lt] at h; rw [Int64.le_iff_toInt_le]; omega
theorem qm_lnle {a b : Int64} (h : ¬ a ≤ b) : b < a := by rw [Int64.le_iff_toInt_le] at h; rw [Int64.lt_iff_toInt_lt]; omega
theorem qm_lle_nlt {a b : Int64} (h : a ≤ b) : ¬ b < a := by rw [Int64.le_iff_toInt_le] at h; rw [Int64.lt_iff_toInt_lt]; omega
theorem qm_ans_ge {n i : Nat} (hn : n < 2 ^ 31) : 0 ≤ qm_ans n i ↔ i < n := by
  unfold qm_ans
  by_cases h : i < n
  · rw [if_pos h]; exact ⟨fun _ => h, fun _ => nI_pos' (by omega)⟩
  · rw [if_neg h]; exact ⟨fun q => absurd q (by decide), fun q => absurd q h⟩
theorem qm_ans_m1 {n i : Nat} (hn : n < 2 ^ 31) : qm_ans n i = -1 ↔ ¬ i < n := by
  unfold qm_ans
  by_cases h : i < n
  · rw [if_pos h]
    refine ⟨fun q => ?_, fun q => absurd h q⟩
    have e := congrArg Int32.toInt q
    rw [nI_toInt (by omega), show (-1 : Int32).toInt = -1 from by decide] at e
    omega
  · rw [if_neg h]; exact ⟨fun _ => h, fun _ => rfl⟩
theorem qm_cof_next {lo hi : Nat → Int64} {v : Int64} {n i : Nat} (h : i < n) (hn : ¬ (lo i ≤ v ∧ v ≤ hi i)) : qm_cof lo hi v (n - i) i = qm_cof lo hi v (n - (i + 1)) (i + 1) := by
  obtain ⟨d, hd⟩ : ∃ d, n - i = d + 1 := ⟨n - i - 1, by omega⟩
  rw [hd, show n - (i + 1) = d by omega]
  exact if_neg hn
theorem qm_cof_hit {lo hi : Nat → Int64} {v : Int64} {n i : Nat} (hq : qm_cof lo hi v n 0 = qm_cof lo hi v (n - i) i) (h : i < n) (h1 : lo i ≤ v) (h2 : v ≤ hi i) : qm_ans n (qm_cof lo hi v n 0) = nI i := by
  obtain ⟨d, hd⟩ : ∃ d, n - i = d + 1 := ⟨n - i - 1, by omega⟩
  rw [hd] at hq
  have e : qm_cof lo hi v (d + 1) i = i := if_pos ⟨h1, h2⟩
  rw [hq, e]; exact if_pos h
theorem qm_cof_end {lo hi : Nat → Int64} {v : Int64} {n i : Nat} (hq : qm_cof lo hi v n 0 = qm_cof lo hi v (n - i) i) (h : n ≤ i) (h2 : i ≤ n) : qm_ans n (qm_cof lo hi v n 0) = -1 := by
  rw [show n - i = 0 by omega] at hq
  have e : qm_cof lo hi v 0 i = i := rfl
  rw [hq, e]; exact if_neg (by omega)
theorem qm_gap_next {lo hi : Nat → Int64} {n t : Nat} {f : Int64} (h : t < n) (hc : qm_cof lo hi f n 0 < n) : qm_gap lo hi n (n - t) f = qm_gap lo hi n (n - (t + 1)) (hi (qm_cof lo hi f n 0) + lN 1) := by
  obtain ⟨d, hd⟩ : ∃ d, n - t = d + 1 := ⟨n - t - 1, by omega⟩
  rw [hd, show n - (t + 1) = d by omega]
  exact if_pos hc
theorem qm_gap_stop {lo hi : Nat → Int64} {n f : Nat} {v : Int64} (hc : ¬ qm_cof lo hi v n 0 < n) : qm_gap lo hi n f v = v := by
  cases f with
  | zero => rfl
  | succ d => exact if_neg hc
theorem qm_ovl_next {lo hi : Nat → Int64} {a b : Int64} {n i : Nat} (h : i < n) (hn : ¬ (lo i ≤ b ∧ a ≤ hi i)) : qm_ovl lo hi a b (n - i) i = qm_ovl lo hi a b (n - (i + 1)) (i + 1) := by
  obtain ⟨d, hd⟩ : ∃ d, n - i = d + 1 := ⟨n - i - 1, by omega⟩
  rw [hd, show n - (i + 1) = d by omega]
  exact if_neg hn
theorem qm_ovl_hit {lo hi : Nat → Int64} {a b : Int64} {n i : Nat} (hq : qm_ovl lo hi a b n 0 = qm_ovl lo hi a b (n - i) i) (h : i < n) (h1 : lo i ≤ b) (h2 : a ≤ hi i) : qm_ovl lo hi a b n 0 = true := by
  obtain ⟨d, hd⟩ : ∃ d, n - i = d + 1 := ⟨n - i - 1, by omega⟩
  rw [hd] at hq
  have e : qm_ovl lo hi a b (d + 1) i = true := if_pos ⟨h1, h2⟩
  rw [hq, e]
theorem qm_ovl_end {lo hi : Nat → Int64} {a b : Int64} {n i : Nat} (hq : qm_ovl lo hi a b n 0 = qm_ovl lo hi a b (n - i) i) (h : n ≤ i) : ¬ qm_ovl lo hi a b n 0 = true := by
  rw [show n - i = 0 by omega] at hq
  rw [hq]; exact Bool.false_ne_true
/-- a step's place and width as the class holds them; its code -/
def qm_pl (z : qS) : Nat := if z.1 = 0 then 0 else z.2.1
def qm_wd (z : qS) : Nat := if z.1 = 0 then z.2.1 else z.2.2
def qm_code (x y z : Int32) : Int32 := (x * nI 256 + y) * nI 32 + z
theorem qm_fn_pl {s : Nat → qS} {i : Nat} (h : qm_fn s i = true) : qm_pl (s i) = (s i).2.1 := by
  unfold qm_fn qm_nar at h
  unfold qm_pl
  by_cases e : (s i).1 = 0
  · simp [e] at h
  · rw [if_neg e]
theorem qm_wasF_no {s : Nat → qS} {p i : Nat} (hq : qm_wasF s p i = false) (h : ¬ (qm_fn s i = true ∧ (qm_fn s i = true → qm_pl (s i) = p))) : qm_wasF s p (i + 1) = false := by
  show (qm_wasF s p i || (qm_fn s i && decide ((s i).2.1 = p))) = false
  rw [hq, Bool.false_or]
  by_cases e : qm_fn s i = true
  · have e2 : ¬ (s i).2.1 = p := fun q => h ⟨e, fun _ => by rw [qm_fn_pl e]; exact q⟩
    simp [e2]
  · rw [Bool.not_eq_true] at e
    rw [e, Bool.false_and]
theorem qm_wasF_yes {s : Nat → qS} {p : Nat} : ∀ {n i : Nat}, i < n → qm_fn s i = true → qm_pl (s i) = p → qm_wasF s p n = true
  | 0, i, h, _, _ => absurd h (Nat.not_lt_zero i)
  | n + 1, i, h, h1, h2 => by
    show (qm_wasF s p n || (qm_fn s n && decide ((s n).2.1 = p))) = true
    by_cases e : i = n
    · subst e
      rw [qm_fn_pl h1] at h2
      rw [h1, h2]; simp
    · rw [qm_wasF_yes (n := n) (i := i) (by omega) h1 h2, Bool.true_or]
theorem qm_stk_pass {s : Nat → qS} {k : Int32} {n i a : Nat} (h : i < n) (h1 : qm_fn s i = true) (h2 : ¬ nI a = k) : qm_stk s k (n - i) i a = qm_stk s k (n - (i + 1)) (i + 1) (a + 1) := by
  obtain ⟨d, hd⟩ : ∃ d, n - i = d + 1 := ⟨n - i - 1, by omega⟩
  rw [hd, show n - (i + 1) = d by omega]
  show (if qm_fn s i = true then (if nI a = k then nI (s i).2.1 else qm_stk s k d (i + 1) (a + 1)) else qm_stk s k d (i + 1) a) = _
  rw [if_pos h1, if_neg h2]
theorem qm_stk_no {s : Nat → qS} {k : Int32} {n i a : Nat} (h : i < n) (h1 : ¬ qm_fn s i = true) : qm_stk s k (n - i) i a = qm_stk s k (n - (i + 1)) (i + 1) a := by
  obtain ⟨d, hd⟩ : ∃ d, n - i = d + 1 := ⟨n - i - 1, by omega⟩
  rw [hd, show n - (i + 1) = d by omega]
  show (if qm_fn s i = true then (if nI a = k then nI (s i).2.1 else qm_stk s k d (i + 1) (a + 1)) else qm_stk s k d (i + 1) a) = _
  rw [if_neg h1]
theorem qm_stk_hit {s : Nat → qS} {k : Int32} {n i a : Nat} (h : i < n) (h1 : qm_fn s i = true) (h2 : nI a = k) : qm_stk s k (n - i) i a = nI (qm_pl (s i)) := by
  obtain ⟨d, hd⟩ : ∃ d, n - i = d + 1 := ⟨n - i - 1, by omega⟩
  rw [hd, qm_fn_pl h1]
  show (if qm_fn s i = true then (if nI a = k then nI (s i).2.1 else qm_stk s k d (i + 1) (a + 1)) else qm_stk s k d (i + 1) a) = _
  rw [if_pos h1, if_pos h2]
theorem qm_run_up {c : Nat → Nat} {i le lo : Nat} (hq : qm_run c i = (le, lo)) (h : 0 < i ∧ c (i - 1) ≤ c i) : qm_run c (i + 1) = (le + 1, if lo < le + 1 then le + 1 else lo) := by
  show (if 0 < i ∧ c (i - 1) ≤ c i then (qm_run c i).1 + 1 else 1, if (qm_run c i).2 < (if 0 < i ∧ c (i - 1) ≤ c i then (qm_run c i).1 + 1 else 1) then (if 0 < i ∧ c (i - 1) ≤ c i then (qm_run c i).1 + 1 else 1) else (qm_run c i).2) = _
  rw [if_pos h, hq]
theorem qm_run_new {c : Nat → Nat} {i le lo : Nat} (hq : qm_run c i = (le, lo)) (h : ¬ (0 < i ∧ c (i - 1) ≤ c i)) : qm_run c (i + 1) = (1, if lo < 1 then 1 else lo) := by
  show (if 0 < i ∧ c (i - 1) ≤ c i then (qm_run c i).1 + 1 else 1, if (qm_run c i).2 < (if 0 < i ∧ c (i - 1) ≤ c i then (qm_run c i).1 + 1 else 1) then (if 0 < i ∧ c (i - 1) ≤ c i then (qm_run c i).1 + 1 else 1) else (qm_run c i).2) = _
  rw [if_neg h, hq]
theorem nI_max {a b : Nat} (ha : a < 2 ^ 31) (hb : b < 2 ^ 31) : (if nI a < nI b then nI b else nI a) = nI (if a < b then b else a) := by
  by_cases h : a < b
  · rw [if_pos h, if_pos ((nI_ltI ha hb).mpr h)]
  · rw [if_neg h, if_neg (fun q => h ((nI_ltI ha hb).mp q))]
theorem nI_min {a b : Nat} (ha : a < 2 ^ 31) (hb : b < 2 ^ 31) : (if nI b < nI a then nI b else nI a) = nI (if b < a then b else a) := by
  by_cases h : b < a
  · rw [if_pos h, if_pos ((nI_ltI hb ha).mpr h)]
  · rw [if_neg h, if_neg (fun q => h ((nI_ltI hb ha).mp q))]
theorem qm_cnt_s0 {s : Nat → qS} {j v : Nat} (h1 : qm_cnt (qm_rs s) j v = 0) (h2 : ¬ (s j).1 = v) : qm_cnt (qm_rs s) (j + 1) v = 0 := by
  show qm_cnt (qm_rs s) j v + (if (s j).1 = v then 1 else 0) = 0
  rw [if_neg h2, h1]
theorem qm_cnt_s1 {s : Nat → qS} {j v : Nat} (h : (¬ qm_cnt (qm_rs s) j v = 0) ∨ (s j).1 = v) : ¬ qm_cnt (qm_rs s) (j + 1) v = 0 := by
  show ¬ qm_cnt (qm_rs s) j v + (if (s j).1 = v then 1 else 0) = 0
  rcases h with h | h
  · omega
  · rw [if_pos h]; omega
theorem qm_cnt_hit {s : Nat → qS} {j a : Nat} {t0 : qS} (hq : qm_cnt s j t0 = a) (e : s j = t0) : qm_cnt s (j + 1) t0 = a + 1 := by
  show qm_cnt s j t0 + (if s j = t0 then 1 else 0) = a + 1
  rw [if_pos e, hq]
theorem qm_cnt_miss {s : Nat → qS} {j a : Nat} {t0 : qS} (hq : qm_cnt s j t0 = a) (e : ¬ s j = t0) : qm_cnt s (j + 1) t0 = a := by
  show qm_cnt s j t0 + (if s j = t0 then 1 else 0) = a
  rw [if_neg e, hq]; rfl
theorem qm_same3 {z t : qS} (h1 : z.1 = t.1) (h2 : z.2.1 = t.2.1) (h3 : z.2.2 = t.2.2) : z = t := by
  obtain ⟨a, b, c⟩ := z
  obtain ⟨d, e, f⟩ := t
  simp only at h1 h2 h3
  rw [h1, h2, h3]
theorem qm_stk_neg {s : Nat → qS} {k : Int32} (hk : k < 0) {n : Nat} : ∀ {f i p : Nat}, i + f ≤ n → p ≤ i → n ≤ 200 → qm_stk s k f i p = -1
  | 0, _, _, _, _, _ => rfl
  | f + 1, i, p, h, hp, hn => by
    show (if qm_fn s i = true then (if nI p = k then nI (s i).2.1 else qm_stk s k f (i + 1) (p + 1)) else qm_stk s k f (i + 1) p) = -1
    have e : ¬ nI p = k := fun q => by rw [← q] at hk; exact nI_pos (by omega) hk
    rw [if_neg e, qm_stk_neg (f := f) hk (by omega) (by omega) hn, qm_stk_neg (f := f) hk (by omega) (by omega) hn]
    split <;> rfl
end
section
/-! THE CALLS AS FUNCTIONS of one state: rules (number, weights, extras), rows (sizes, steps; row 10 is the one at work, 0 .. 9 are kept), classes (number, lows, highs), how many rows are kept, the cursor. -/
abbrev qZ : Type := (Nat × (Nat → Nat) × (Nat → Nat)) × ((Nat → Nat) × (Nat → Nat → qS)) × (Nat × (Nat → Int64) × (Nat → Int64)) × Nat × Nat
def qu {α : Type} (f : Nat → α) (k : Nat) (v : α) : Nat → α := fun j => if j = k then v else f j
theorem qu_s {α : Type} (f : Nat → α) (k : Nat) (v : α) : qu f k v k = v := if_pos rfl
theorem qu_n {α : Type} (f : Nat → α) {k j : Nat} (v : α) (h : ¬ j = k) : qu f k v j = f j := if_neg h
abbrev qZt (nr : Nat) (w x : Nat → Nat) (sz : Nat → Nat) (st : Nat → Nat → qS) (nc : Nat) (lo hi : Nat → Int64) (kn cur : Nat) : qZ := ((nr, w, x), (sz, st), (nc, lo, hi), kn, cur)
/-- what holds of every state that is reached -/
def qm_ok (nr : Nat) (w x : Nat → Nat) (sz : Nat → Nat) (st : Nat → Nat → qS) (nc : Nat) (lo hi : Nat → Int64) (kn cur : Nat) : Prop :=
  qm_okR nr w x ∧ kn ≤ 10 ∧ (∀ r, (r < kn ∨ r = 10) → sz r ≤ 200 ∧ ∀ j, j < sz r → qm_okS nr (st r j)) ∧ cur ≤ sz 10 ∧ nc ≤ 20 ∧ ∀ i, i < nc → lN 0 ≤ lo i ∧ lo i ≤ hi i ∧ hi i ≤ lN 100000000
def qm_okz (z : qZ) : Prop := qm_ok z.1.1 z.1.2.1 z.1.2.2 z.2.1.1 z.2.1.2 z.2.2.1.1 z.2.2.1.2.1 z.2.2.1.2.2 z.2.2.2.1 z.2.2.2.2
/-- one step more -/
def qo_push (z : qZ) (t : qS) : qZ := (z.1, (qu z.2.1.1 10 (z.2.1.1 10 + 1), qu z.2.1.2 10 (qu (z.2.1.2 10) (z.2.1.1 10) t)), z.2.2)
def qo_rule (z : qZ) (a b : Int32) : Int32 × qZ :=
  if (nI 0 ≤ a ∧ a ≤ nI 10000) ∧ (nI 0 ≤ b ∧ b ≤ nI 100000) ∧ z.1.1 < 40 then (nI z.1.1, ((z.1.1 + 1, qu z.1.2.1 z.1.1 a.toNatClampNeg, qu z.1.2.2 z.1.1 b.toNatClampNeg), z.2)) else (-1, z)
def qo_used (z : qZ) (r p w : Int32) : Int32 × qZ :=
  if (¬ r < 0 ∧ r < nI z.1.1) ∧ (nI 0 ≤ p ∧ p ≤ nI 255) ∧ (nI 1 ≤ w ∧ w ≤ nI 9) ∧ z.2.1.1 10 < 200 then (nI (z.2.1.1 10), qo_push z (r.toNatClampNeg + 1, p.toNatClampNeg, w.toNatClampNeg)) else (-1, z)
def qo_guess (z : qZ) (d : Int32) : Int32 × qZ :=
  if (nI 1 ≤ d ∧ d ≤ nI 20) ∧ z.2.1.1 10 < 200 then (nI (z.2.1.1 10), qo_push z (0, d.toNatClampNeg, 0)) else (-1, z)
def qo_drop (z : qZ) : Int32 × qZ :=
  if 0 < z.2.1.1 10 then (nI 1, (z.1, (qu z.2.1.1 10 (z.2.1.1 10 - 1), z.2.1.2), z.2.2.1, z.2.2.2.1, if z.2.2.2.2 = z.2.1.1 10 then z.2.2.2.2 - 1 else z.2.2.2.2)) else (nI 0, z)
abbrev qo_c (z : qZ) : Nat → Nat := qm_cost z.1.2.1 z.1.2.2 (z.2.1.2 10)
def qo_cost (z : qZ) (k : Int32) : Int64 := if ¬ k < 0 ∧ k < nI (z.2.1.1 10) then lN (qo_c z k.toNatClampNeg) else -1
def qo_sum (z : qZ) (n : Int32) : Int64 := if n < 0 then -1 else lN (qm_sum (qo_c z) (if n.toNatClampNeg < z.2.1.1 10 then n.toNatClampNeg else z.2.1.1 10))
def qo_all (z : qZ) : Int64 := lN (qm_sum (qo_c z) (z.2.1.1 10))
def qo_cls (z : qZ) (a b : Int64) : Int32 × qZ :=
  if ¬ a < lN 0 ∧ ¬ b < a ∧ ¬ lN 100000000 < b ∧ z.2.2.1.1 < 20 ∧ ¬ qm_ovl z.2.2.1.2.1 z.2.2.1.2.2 a b z.2.2.1.1 0 = true then (nI z.2.2.1.1, (z.1, z.2.1, (z.2.2.1.1 + 1, vp_updL z.2.2.1.2.1 z.2.2.1.1 a, vp_updL z.2.2.1.2.2 z.2.2.1.1 b), z.2.2.2)) else (-1, z)
def qo_of (z : qZ) : Nat := qm_cof z.2.2.1.2.1 z.2.2.1.2.2 (qo_all z) z.2.2.1.1 0
def qo_grade (z : qZ) : Int32 := qm_ans z.2.2.1.1 (qo_of z)
def qo_rank (z : qZ) : Int32 := if qo_of z < z.2.2.1.1 then nI (qm_bel z.2.2.1.2.2 (qo_all z) z.2.2.1.1) else -1
def qo_gap (z : qZ) (v : Int64) : Int64 := if v < lN 0 then -1 else qm_gap z.2.2.1.2.1 z.2.2.1.2.2 z.2.2.1.1 z.2.2.1.1 v
def qo_stuck (z : qZ) (k : Int32) : Int32 := qm_stk (z.2.1.2 10) k (z.2.1.1 10) 0 0
def qo_run (z : qZ) : Int32 := nI (qm_run (qo_c z) (z.2.1.1 10)).2
def qo_u (z : qZ) : Nat → Nat := fun r => qm_cnt (qm_rs (z.2.1.2 10)) (z.2.1.1 10) (r + 1)
def qo_sp (z : qZ) : Nat → Nat := fun r => qm_sp (z.2.1.2 10) (qo_c z) r (z.2.1.1 10)
def qo_hard (z : qZ) : Int32 := nM (qm_hd (qo_u z) (qo_sp z) z.1.1).1
def qo_go (z : qZ) (k : Int32) : Int32 × qZ := if ¬ k < 0 ∧ k ≤ nI (z.2.1.1 10) then (nI 1, (z.1, z.2.1, z.2.2.1, z.2.2.2.1, k.toNatClampNeg)) else (nI 0, z)
def qo_hint (z : qZ) (d : Int32) : Int32 × qZ :=
  if (nI 1 ≤ d ∧ d ≤ nI 4) ∧ z.2.2.2.2 < z.2.1.1 10 then
    (if (z.2.1.2 10 z.2.2.2.2).1 = 0 then (if d = nI 4 then nI (z.2.1.2 10 z.2.2.2.2).2.1 else -2)
      else if d = nI 1 then nI ((z.2.1.2 10 z.2.2.2.2).2.1 / 16) else if d = nI 2 then nI (z.2.1.2 10 z.2.2.2.2).2.1 else if d = nI 3 then nM (z.2.1.2 10 z.2.2.2.2).1 else nI (z.2.1.2 10 z.2.2.2.2).2.2,
     (z.1, z.2.1, z.2.2.1, z.2.2.2.1, if d = nI 4 then z.2.2.2.2 + 1 else z.2.2.2.2))
  else (-1, z)
def qo_keep (z : qZ) : Int32 × qZ :=
  if z.2.2.2.1 < 10 then (nI z.2.2.2.1, (z.1, (qu z.2.1.1 z.2.2.2.1 (z.2.1.1 10), qu z.2.1.2 z.2.2.2.1 (z.2.1.2 10)), z.2.2.1, z.2.2.2.1 + 1, z.2.2.2.2)) else (-1, z)
/-- compare: what the answer is known by -/
def qo_cmp (z : qZ) (k : Int32) (r : Int32) : Prop :=
  if ¬ k < 0 ∧ k < nI z.2.2.2.1 then
    (∃ q, qm_sg (qo_all z) (lN (qm_sum (qm_cost z.1.2.1 z.1.2.2 (z.2.1.2 k.toNatClampNeg)) (z.2.1.1 k.toNatClampNeg))) q ∧ ((¬ q = 0 ∧ r = q) ∨ (q = 0 ∧
      ∃ q2, qm_sg (lN (z.2.1.1 10)) (lN (z.2.1.1 k.toNatClampNeg)) q2 ∧ ((¬ q2 = 0 ∧ r = q2) ∨ (q2 = 0 ∧
        qm_ord (fun a b : Nat => a < b) (qm_cnt (qo_c z) (z.2.1.1 10)) (qm_cnt (qm_cost z.1.2.1 z.1.2.2 (z.2.1.2 k.toNatClampNeg)) (z.2.1.1 10)) r)))))
  else r = -2
/-- same: what the answer is known by -/
def qo_same (z : qZ) (k : Int32) (r : Int32) : Prop :=
  ((¬ k < 0 ∧ k < nI z.2.2.2.1) ∧ z.2.1.1 k.toNatClampNeg = z.2.1.1 10 ∧ (∀ v, qm_cnt (z.2.1.2 k.toNatClampNeg) (z.2.1.1 10) v = qm_cnt (z.2.1.2 10) (z.2.1.1 10) v) ∧ r = nI 1) ∨
  (¬ ((¬ k < 0 ∧ k < nI z.2.2.2.1) ∧ z.2.1.1 k.toNatClampNeg = z.2.1.1 10 ∧ (∀ v, qm_cnt (z.2.1.2 k.toNatClampNeg) (z.2.1.1 10) v = qm_cnt (z.2.1.2 10) (z.2.1.1 10) v)) ∧ r = nI 0)
theorem qo_cmp_one {z : qZ} {k r q : Int32} (h : qo_cmp z k r) (h2 : qo_cmp z k q) : r = q := by
  unfold qo_cmp at h h2
  by_cases c : ¬ k < 0 ∧ k < nI z.2.2.2.1
  · rw [if_pos c] at h h2
    obtain ⟨a, ha, h⟩ := h
    obtain ⟨b, hb, h2⟩ := h2
    have e := qm_sg_one ha hb
    subst e
    rcases h with ⟨n1, e1⟩ | ⟨n1, h⟩ <;> rcases h2 with ⟨n2, e2⟩ | ⟨n2, h2⟩
    · rw [e1, e2]
    · exact absurd n2 n1
    · exact absurd n1 n2
    · obtain ⟨a2, ha2, h⟩ := h
      obtain ⟨b2, hb2, h2⟩ := h2
      have e := qm_sg_one ha2 hb2
      subst e
      rcases h with ⟨m1, e1⟩ | ⟨m1, h⟩ <;> rcases h2 with ⟨m2, e2⟩ | ⟨m2, h2⟩
      · rw [e1, e2]
      · exact absurd m2 m1
      · exact absurd m1 m2
      · exact qm_ord_one (fun a b => by omega) h h2
  · rw [if_neg c] at h h2
    rw [h, h2]
theorem qo_same_one {z : qZ} {k r q : Int32} (h : qo_same z k r) (h2 : qo_same z k q) : r = q := by
  rcases h with ⟨a, b, c, e⟩ | ⟨a, e⟩ <;> rcases h2 with ⟨a2, b2, c2, e2⟩ | ⟨a2, e2⟩
  · rw [e, e2]
  · exact absurd ⟨a, b, c⟩ a2
  · exact absurd ⟨a2, b2, c2⟩ a
  · rw [e, e2]
end
section
/-! LEMMAS of the reference's loops and states -/
def qz_0 : qZ := qZt 0 (fun _ => 0) (fun _ => 0) (fun _ => 0) (fun _ _ => (0, 0, 0)) 0 (fun _ => 0) (fun _ => 0) 0 0
theorem qk_loc {ls : Array Slot} {nL : Nat} {l : List (Nat × Value)} {k i : Nat} {v0 v : Value} (hl : lv_has ls nL l) (hk : l[k]? = some (i, v0)) (e : v0 = v) : lv_has ls nL (l.set k (i, v)) := by
  subst e
  refine ⟨hl.1, hl.2.1, fun q hq => ?_⟩
  rcases List.mem_or_eq_of_mem_set hq with h | h
  · exact hl.2.2 q h
  · rw [h]; exact hl.2.2 _ (List.mem_of_getElem? hk)
theorem qm_ord_0 {α : Type} {lt : α → α → Prop} {cA cB : α → Nat} {r : Int32} (h : qm_ord lt cA cB r) (e : r = 0) : ∀ v, cA v = cB v := by
  rcases h with ⟨-, h⟩ | ⟨h, -⟩ | ⟨h, -⟩
  · exact h
  · rw [h] at e; exact absurd e (by decide)
  · rw [h] at e; exact absurd e (by decide)
theorem qm_ord_z {α : Type} {lt : α → α → Prop} {cA cB : α → Nat} {r : Int32} (h : qm_ord lt cA cB r) (e : ∀ v, cA v = cB v) : r = 0 := by
  rcases h with ⟨h, -⟩ | ⟨-, v, -, h⟩ | ⟨-, v, -, h⟩
  · rw [h]; exact nI_0
  · have := e v; omega
  · have := e v; omega
theorem qm_two {nr : Nat} {w x : Nat → Nat} {fw fx : Nat → Int32} {a b : Nat} (hw : ∀ i, i < nr → fw i = nI (w i) ∧ fx i = nI (x i)) {i : Nat} (hi : i < nr + 1) : upd fw nr (nI a) i = nI (qu w nr a i) ∧ upd fx nr (nI b) i = nI (qu x nr b i) := by
  by_cases e : i = nr
  · rw [e, pk_us, pk_us, qu_s, qu_s]; exact ⟨rfl, rfl⟩
  · rw [pk_un e, pk_un e, qu_n _ _ e, qu_n _ _ e]; exact hw i (by omega)
/-- the reference's rows -/
def qm_rw (kn : Nat) (sz0 : Nat → Nat) (st : Nat → Nat → qS) (fz fb fh fd : Nat → Int32) : Prop :=
  ∀ r, (r < kn ∨ r = 10) → fz r = nI (sz0 r) ∧ ∀ j, j < sz0 r → fb (200 * r + j) = nM (st r j).1 ∧ fh (200 * r + j) = nI (st r j).2.1 ∧ fd (200 * r + j) = nI (st r j).2.2
theorem qm_pushed {nr kn : Nat} {sz0 : Nat → Nat} {st : Nat → Nat → qS} {fz fb fh fd : Nat → Int32} {t : qS} (hkn : kn ≤ 10) (hn : sz0 10 < 200) (hrows : ∀ r, (r < kn ∨ r = 10) → sz0 r ≤ 200 ∧ ∀ j, j < sz0 r → qm_okS nr (st r j)) (hrw : qm_rw kn sz0 st fz fb fh fd) :
    qm_rw kn (qu sz0 10 (sz0 10 + 1)) (qu st 10 (qu (st 10) (sz0 10) t)) (upd fz 10 (nI (sz0 10 + 1))) (upd fb (2000 + sz0 10) (nM t.1)) (upd fh (2000 + sz0 10) (nI t.2.1)) (upd fd (2000 + sz0 10) (nI t.2.2)) := by
  intro r hr
  have q := hrw r hr
  by_cases e : r = 10
  · subst e
    refine ⟨by rw [pk_us, qu_s], fun j hj => ?_⟩
    rw [qu_s] at hj
    rw [qu_s]
    by_cases e2 : j = sz0 10
    · rw [e2, qu_s]
      exact ⟨pk_us, pk_us, pk_us⟩
    · rw [qu_n _ _ e2, pk_un (by omega), pk_un (by omega), pk_un (by omega)]
      exact q.2 j (by omega)
  · refine ⟨by rw [pk_un e, qu_n _ _ e]; exact q.1, fun j hj => ?_⟩
    rw [qu_n _ _ e] at hj
    have h1 := (hrows r hr).1
    rw [qu_n _ _ e, pk_un (by omega), pk_un (by omega), pk_un (by omega)]
    exact q.2 j hj
theorem qm_dropped {kn : Nat} {sz0 : Nat → Nat} {st : Nat → Nat → qS} {fz fb fh fd : Nat → Int32} (hrw : qm_rw kn sz0 st fz fb fh fd) :
    qm_rw kn (qu sz0 10 (sz0 10 - 1)) st (upd fz 10 (nI (sz0 10 - 1))) fb fh fd := by
  intro r hr
  have q := hrw r hr
  by_cases e : r = 10
  · subst e
    refine ⟨by rw [pk_us, qu_s], fun j hj => ?_⟩
    rw [qu_s] at hj
    exact q.2 j (by omega)
  · refine ⟨by rw [pk_un e, qu_n _ _ e]; exact q.1, fun j hj => ?_⟩
    rw [qu_n _ _ e] at hj
    exact q.2 j hj
/-- a row copied from place 2000 on to place a on, k of it -/
def qm_cp (f : Nat → Int32) (a k : Nat) : Nat → Int32 := fun i => if a ≤ i ∧ i < a + k then f (2000 + (i - a)) else f i
theorem qm_cp_0 (f : Nat → Int32) (a : Nat) : ∀ i, f i = qm_cp f a 0 i := fun i => by unfold qm_cp; rw [if_neg (by omega)]
theorem qm_cp_hi {f : Nat → Int32} {a k i : Nat} (h : a + k ≤ i) : qm_cp f a k i = f i := by unfold qm_cp; rw [if_neg (by omega)]
theorem qm_cp_s {f g : Nat → Int32} {a k : Nat} (h : ∀ i, g i = qm_cp f a k i) : ∀ i, upd g (a + k) (f (2000 + k)) i = qm_cp f a (k + 1) i := fun i => by
  by_cases e : i = a + k
  · rw [e, pk_us]; unfold qm_cp; rw [if_pos (by omega), show a + k - a = k by omega]
  · rw [pk_un e, h i]
    unfold qm_cp
    by_cases c : a ≤ i ∧ i < a + k
    · rw [if_pos c, if_pos (by omega)]
    · rw [if_neg c, if_neg (by omega)]
theorem qm_kept {nr kn k : Nat} {sz0 : Nat → Nat} {st : Nat → Nat → qS} {fz fb fh fd gb gh gd : Nat → Int32} (hk : kn < 10) (hk2 : k = 200) (hrows : ∀ r, (r < kn ∨ r = 10) → sz0 r ≤ 200 ∧ ∀ j, j < sz0 r → qm_okS nr (st r j)) (hb : ∀ i, gb i = qm_cp fb (200 * kn) k i) (hh : ∀ i, gh i = qm_cp fh (200 * kn) k i) (hd : ∀ i, gd i = qm_cp fd (200 * kn) k i) (hrw : qm_rw kn sz0 st fz fb fh fd) :
    qm_rw (kn + 1) (qu sz0 kn (sz0 10)) (qu st kn (st 10)) (upd fz kn (nI (sz0 10))) gb gh gd := by
  intro r hr
  have q10 := hrw 10 (Or.inr rfl)
  have z10 := (hrows 10 (Or.inr rfl)).1
  by_cases e : r = kn
  · subst e
    refine ⟨by rw [pk_us, qu_s], fun j hj => ?_⟩
    rw [qu_s] at hj
    rw [qu_s, hb, hh, hd]
    unfold qm_cp
    rw [if_pos (by omega), if_pos (by omega), if_pos (by omega), show 200 * r + j - 200 * r = j by omega]
    exact q10.2 j hj
  · have hr2 : r < kn ∨ r = 10 := by omega
    have q := hrw r hr2
    have z := (hrows r hr2).1
    refine ⟨by rw [pk_un e, qu_n _ _ e]; exact q.1, fun j hj => ?_⟩
    rw [qu_n _ _ e] at hj
    rw [qu_n _ _ e, hb, hh, hd]
    unfold qm_cp
    rw [if_neg (by omega), if_neg (by omega), if_neg (by omega)]
    exact q.2 j hj
theorem qm_gap_f {lo hi : Nat → Int64} {n f : Nat} {v : Int64} (h : 0 < f) (hc : qm_cof lo hi v n 0 < n) : qm_gap lo hi n f v = qm_gap lo hi n (f - 1) (hi (qm_cof lo hi v n 0) + lN 1) := by
  obtain ⟨d, rfl⟩ : ∃ d, f = d + 1 := ⟨f - 1, by omega⟩
  exact if_pos hc
theorem qm_ladd1 {a : Int64} (h1 : lN 0 ≤ a) (h2 : a ≤ lN 100000000) : (a + lN 1).toInt = a.toInt + 1 := by
  have e0 : (lN 0).toInt = 0 := by decide
  have e1 : (lN 100000000).toInt = 100000000 := by decide
  rw [Int64.le_iff_toInt_le] at h1 h2
  obtain ⟨k, hk, rfl⟩ := pk_lOf (x := a) (by rw [Int64.lt_iff_toInt_lt, show (0 : Int64).toInt = 0 from by decide]; omega)
  rw [pk_lT hk] at *
  rw [lN_add, pk_lT (by omega)]; omega
theorem qm_gap_up {lo hi : Nat → Int64} {n : Nat} {v : Int64} (hcl : ∀ i, i < n → lN 0 ≤ lo i ∧ lo i ≤ hi i ∧ hi i ≤ lN 100000000) (hc : qm_cof lo hi v n 0 < n) : qm_up hi (hi (qm_cof lo hi v n 0) + lN 1) n < qm_up hi v n := by
  have a := qm_cof_in (lo := lo) (hi := hi) (v := v) (f := n) (i := 0) (by omega)
  have b := hcl _ hc
  have e := qm_ladd1 (a := hi (qm_cof lo hi v n 0)) (by have h1 := b.1; have h2 := b.2.1; rw [Int64.le_iff_toInt_le] at *; omega) b.2.2
  refine qm_up_lt hi ?_ a.2 ?_ n hc
  · have h := a.2; rw [Int64.le_iff_toInt_le] at *; omega
  · rw [Int64.le_iff_toInt_le]; omega
theorem qm_fill {g : Nat → Int32} {i : Nat} (hg : ∀ j, j < i → g j = nI 0) : ∀ j, j < i + 1 → upd g i (nI 0) j = nI 0 := fun j hj => by
  by_cases e : j = i
  · rw [e, pk_us]
  · rw [pk_un e]; exact hg j (by omega)
theorem qm_nar_no1 {s : Nat → qS} {j : Nat} (h : (s j).1 = 0) : ¬ qm_nar s j = true := by unfold qm_nar; simp [h]
theorem qm_nar_no2 {s : Nat → qS} {j : Nat} (h : ¬ (s j).2.2 = 1) : ¬ qm_nar s j = true := by unfold qm_nar; simp [h]
theorem qm_nar_yes {s : Nat → qS} {j : Nat} (h : ¬ (s j).1 = 0) (h2 : (s j).2.2 = 1) : qm_nar s j = true := by unfold qm_nar; simp [h, h2]
theorem qm_fn_no {s : Nat → qS} {j : Nat} (h : ¬ qm_nar s j = true) : ¬ qm_fn s j = true := by unfold qm_fn; rw [Bool.not_eq_true] at h; rw [h]; simp
theorem qm_fn_yes {s : Nat → qS} {j : Nat} (h : qm_nar s j = true) (h2 : ¬ qm_was s (s j).2.1 j = true) : qm_fn s j = true := by unfold qm_fn; rw [Bool.not_eq_true] at h2; rw [h, h2]; rfl
theorem qm_fn_was {s : Nat → qS} {j : Nat} (h : qm_was s (s j).2.1 j = true) : ¬ qm_fn s j = true := by unfold qm_fn; rw [h]; simp
theorem qm_was_new {s : Nat → qS} {j : Nat} {g : Nat → Int32} (hg : ∀ i, i < 256 → g i = if qm_was s i j = true then nI 1 else nI 0) (hna : qm_nar s j = true) : ∀ i, i < 256 → upd g (s j).2.1 (nI 1) i = if qm_was s i (j + 1) = true then nI 1 else nI 0 := fun i hi => by
  show _ = if (qm_was s i j || (qm_nar s j && decide ((s j).2.1 = i))) = true then nI 1 else nI 0
  rw [hna, Bool.true_and]
  by_cases e : i = (s j).2.1
  · rw [e, pk_us, if_pos (by simp)]
  · rw [pk_un e, hg i hi, decide_eq_false (fun q => e q.symm), Bool.or_false]
theorem qm_was_old {s : Nat → qS} {j : Nat} {g : Nat → Int32} (hg : ∀ i, i < 256 → g i = if qm_was s i j = true then nI 1 else nI 0) (h : (¬ qm_nar s j = true) ∨ qm_was s (s j).2.1 j = true) : ∀ i, i < 256 → g i = if qm_was s i (j + 1) = true then nI 1 else nI 0 := fun i hi => by
  have e : qm_was s i (j + 1) = qm_was s i j := by
    show (qm_was s i j || (qm_nar s j && decide ((s j).2.1 = i))) = _
    rcases h with h | h
    · rw [Bool.not_eq_true] at h
      rw [h, Bool.false_and, Bool.or_false]
    · by_cases q : (s j).2.1 = i
      · rw [q] at h; rw [h, Bool.true_or]
      · rw [decide_eq_false q, Bool.and_false, Bool.or_false]
  rw [hg i hi, e]
/-- what the steps of a rule cost together, one up; 0 when it has none -/
def qm_su (s : Nat → qS) (c : Nat → Nat) (r k : Nat) : Nat := if qm_cnt (qm_rs s) k (r + 1) = 0 then 0 else qm_sp s c r k + 1
theorem qm_sp_none {s : Nat → qS} {c : Nat → Nat} {r : Nat} : ∀ {k : Nat}, qm_cnt (qm_rs s) k (r + 1) = 0 → qm_sp s c r k = 0
  | 0, _ => rfl
  | k + 1, h => by
    have h1 : qm_cnt (qm_rs s) k (r + 1) + (if (s k).1 = r + 1 then 1 else 0) = 0 := h
    show qm_sp s c r k + (if (s k).1 = r + 1 then c k else 0) = 0
    by_cases e : (s k).1 = r + 1
    · rw [if_pos e] at h1; omega
    · rw [if_neg e] at h1 ⊢; rw [qm_sp_none (k := k) (by omega)]
theorem qm_su_no {s : Nat → qS} {c : Nat → Nat} {r k : Nat} (h : ¬ (s k).1 = r + 1) : qm_su s c r (k + 1) = qm_su s c r k := by
  unfold qm_su
  have e1 : qm_cnt (qm_rs s) (k + 1) (r + 1) = qm_cnt (qm_rs s) k (r + 1) := by show _ + (if (s k).1 = r + 1 then 1 else 0) = _; rw [if_neg h]; rfl
  have e2 : qm_sp s c r (k + 1) = qm_sp s c r k := by show _ + (if (s k).1 = r + 1 then c k else 0) = _; rw [if_neg h]; rfl
  rw [e1, e2]
theorem qm_su_yes {s : Nat → qS} {c : Nat → Nat} {r k : Nat} (h : (s k).1 = r + 1) : lM (qm_su s c r (k + 1)) = lN (qm_sp s c r k + c k) := by
  unfold qm_su
  have e1 : qm_cnt (qm_rs s) (k + 1) (r + 1) = qm_cnt (qm_rs s) k (r + 1) + 1 := by show _ + (if (s k).1 = r + 1 then 1 else 0) = _; rw [if_pos h]
  have e2 : qm_sp s c r (k + 1) = qm_sp s c r k + c k := by show _ + (if (s k).1 = r + 1 then c k else 0) = _; rw [if_pos h]
  rw [e1, e2, if_neg (by omega)]; exact lM_s _
theorem qm_su_0 {s : Nat → qS} {c : Nat → Nat} {r k : Nat} (h : ¬ 1 ≤ qm_su s c r k) : qm_sp s c r k = 0 := by
  unfold qm_su at h
  by_cases e : qm_cnt (qm_rs s) k (r + 1) = 0
  · exact qm_sp_none e
  · rw [if_neg e] at h; omega
theorem qm_su_1 {s : Nat → qS} {c : Nat → Nat} {r k : Nat} (h : 1 ≤ qm_su s c r k) : lM (qm_su s c r k) = lN (qm_sp s c r k) := by
  unfold qm_su at *
  by_cases e : qm_cnt (qm_rs s) k (r + 1) = 0
  · rw [if_pos e] at h; omega
  · rw [if_neg e]; exact lM_s _
theorem qm_su_le {nr : Nat} {w x : Nat → Nat} {s : Nat → qS} {r k : Nat} (hR : qm_okR nr w x) (ho : ∀ j, j < k → qm_okS nr (s j)) (hk : k ≤ 200) : qm_su s (qm_cost w x s) r k ≤ 26000001 := by
  unfold qm_su
  have a := qm_sp_le (s := s) (c := qm_cost w x s) (r := r) (B := 130000) (n := k) (fun j hj => qm_cost_le hR (ho j hj))
  have b := Nat.mul_le_mul_right 130000 hk
  split <;> omega
theorem qm_su_hit {z : qZ} {r mo : Nat} (h : mo < qm_su (z.2.1.2 10) (qo_c z) r (z.2.1.1 10)) : 0 < qo_u z r ∧ mo < qo_sp z r + 1 := by
  unfold qm_su at h
  unfold qo_u qo_sp
  by_cases e : qm_cnt (qm_rs (z.2.1.2 10)) (z.2.1.1 10) (r + 1) = 0
  · rw [if_pos e] at h; omega
  · rw [if_neg e] at h; exact ⟨by omega, h⟩
theorem qm_su_val {z : qZ} {r mo : Nat} (h : mo < qm_su (z.2.1.2 10) (qo_c z) r (z.2.1.1 10)) : qm_su (z.2.1.2 10) (qo_c z) r (z.2.1.1 10) = qo_sp z r + 1 := by
  unfold qm_su at *
  unfold qo_sp
  by_cases e : qm_cnt (qm_rs (z.2.1.2 10)) (z.2.1.1 10) (r + 1) = 0
  · rw [if_pos e] at h; omega
  · rw [if_neg e]
theorem qm_su_miss {z : qZ} {r mo : Nat} (h : ¬ mo < qm_su (z.2.1.2 10) (qo_c z) r (z.2.1.1 10)) : ¬ (0 < qo_u z r ∧ mo < qo_sp z r + 1) := by
  unfold qm_su at h
  unfold qo_u qo_sp
  by_cases e : qm_cnt (qm_rs (z.2.1.2 10)) (z.2.1.1 10) (r + 1) = 0
  · omega
  · rw [if_neg e] at h; omega
end
section
/-! LEMMAS of the reference's compare (the greatest taken one by one) and same (like counts) -/
theorem qm_cnt_all {α : Type} [DecidableEq α] {f : Nat → α} {v : α} : ∀ {n : Nat}, (∀ j, j < n → f j = v) → qm_cnt f n v = n
  | 0, _ => rfl
  | n + 1, h => by
    show qm_cnt f n v + (if f n = v then 1 else 0) = n + 1
    rw [qm_cnt_all (n := n) (fun j hj => h j (by omega)), if_pos (h n (by omega))]
theorem qm_cnt_full {α : Type} [DecidableEq α] {f : Nat → α} {v : α} : ∀ {n : Nat}, qm_cnt f n v = n → ∀ j, j < n → f j = v
  | 0, _, j, hj => absurd hj (Nat.not_lt_zero j)
  | n + 1, h, j, hj => by
    have h1 : qm_cnt f n v + (if f n = v then 1 else 0) = n + 1 := h
    have h2 := qm_cnt_le (f := f) (v := v) (n := n)
    by_cases e : f n = v
    · rw [if_pos e] at h1
      by_cases q : j = n
      · rw [q]; exact e
      · exact qm_cnt_full (n := n) (by omega) j (by omega)
    · rw [if_neg e] at h1; omega
theorem qm_cnt_qu {α : Type} [DecidableEq α] {f : Nat → α} {x v : α} {a : Nat} : ∀ {n : Nat}, a < n → qm_cnt (qu f a x) n v + (if f a = v then 1 else 0) = qm_cnt f n v + (if x = v then 1 else 0)
  | 0, h => absurd h (Nat.not_lt_zero a)
  | n + 1, h => by
    show qm_cnt (qu f a x) n v + (if qu f a x n = v then 1 else 0) + (if f a = v then 1 else 0) = qm_cnt f n v + (if f n = v then 1 else 0) + (if x = v then 1 else 0)
    by_cases e : a = n
    · subst e
      rw [qu_s, qm_cnt_congr (f := qu f a x) (g := f) (fun k hk => qu_n _ _ (by omega))]
      omega
    · have q := qm_cnt_qu (f := f) (x := x) (v := v) (a := a) (n := n) (by omega)
      rw [qu_n _ _ (fun z => e z.symm)]
      omega
def qm_sel (c d : Nat → Nat) (n t : Nat) (A B : Nat → Nat) : Prop := (∀ j, j < n → A j ≤ 130001 ∧ B j ≤ 130001) ∧ (qm_cnt A n 0 = t ∧ qm_cnt B n 0 = t) ∧ ∃ R : Nat → Nat, ∀ v, qm_cnt c n v = qm_cnt A n (v + 1) + R v ∧ qm_cnt d n v = qm_cnt B n (v + 1) + R v
theorem qm_sel_0 {c d : Nat → Nat} {n : Nat} (hc : ∀ j, j < n → c j ≤ 130000 ∧ d j ≤ 130000) : qm_sel c d n 0 (fun j => c j + 1) (fun j => d j + 1) := by
  refine ⟨fun j hj => ⟨by have := hc j hj; show c j + 1 ≤ 130001; omega, by have := hc j hj; show d j + 1 ≤ 130001; omega⟩, ⟨qm_cnt_zero (fun k _ => Nat.succ_ne_zero _), qm_cnt_zero (fun k _ => Nat.succ_ne_zero _)⟩, fun _ => 0, fun v => ⟨?_, ?_⟩⟩
  · exact qm_cnt_map (fun k _ => ⟨fun h => by rw [h], fun h => Nat.succ.inj h⟩)
  · exact qm_cnt_map (fun k _ => ⟨fun h => by rw [h], fun h => Nat.succ.inj h⟩)
theorem qm_sel_pos {c d : Nat → Nat} {n t : Nat} {A B : Nat → Nat} (h : qm_sel c d n t A B) (ht : t < n) {a b : Nat} (hm : ∀ j, j < n → A j ≤ A a ∧ B j ≤ B b) : 0 < A a := by
  rcases Nat.eq_zero_or_pos (A a) with q | q
  · have := qm_cnt_all (f := A) (v := 0) (n := n) (fun j hj => by have := (hm j hj).1; omega)
    have := h.2.1.1
    omega
  · exact q
theorem qm_sel_next {c d : Nat → Nat} {n t : Nat} {A B : Nat → Nat} (h : qm_sel c d n t A B) (ht : t < n) {a b : Nat} (ha : a < n ∧ b < n) (hm : ∀ j, j < n → A j ≤ A a ∧ B j ≤ B b) (e : A a = B b) : qm_sel c d n (t + 1) (qu A a 0) (qu B b 0) := by
  have hp := qm_sel_pos h ht hm
  obtain ⟨hb, ⟨h1, h2⟩, R, hR⟩ := h
  refine ⟨fun j hj => ⟨?_, ?_⟩, ⟨?_, ?_⟩, fun v => R v + (if A a = v + 1 then 1 else 0), fun v => ⟨?_, ?_⟩⟩
  · by_cases q : j = a
    · rw [q, qu_s]; omega
    · rw [qu_n _ _ q]; exact (hb j hj).1
  · by_cases q : j = b
    · rw [q, qu_s]; omega
    · rw [qu_n _ _ q]; exact (hb j hj).2
  · have q := qm_cnt_qu (f := A) (x := 0) (v := 0) ha.1
    rw [if_neg (by omega), if_pos rfl] at q; omega
  · have q := qm_cnt_qu (f := B) (x := 0) (v := 0) ha.2
    rw [if_neg (by omega), if_pos rfl] at q; omega
  · have q := qm_cnt_qu (f := A) (x := 0) (v := v + 1) ha.1
    rw [if_neg (show ¬ 0 = v + 1 by omega)] at q
    have := (hR v).1
    show _ = _ + (R v + (if A a = v + 1 then 1 else 0))
    omega
  · have q := qm_cnt_qu (f := B) (x := 0) (v := v + 1) ha.2
    rw [if_neg (show ¬ 0 = v + 1 by omega), ← e] at q
    have := (hR v).2
    show _ = _ + (R v + (if A a = v + 1 then 1 else 0))
    omega
theorem qm_sel_end {c d : Nat → Nat} {n t : Nat} {A B : Nat → Nat} (h : qm_sel c d n t A B) (ht : t = n) : qm_ord (fun a b : Nat => a < b) (qm_cnt c n) (qm_cnt d n) (nI 0) := by
  obtain ⟨-, ⟨h1, h2⟩, R, hR⟩ := h
  refine Or.inl ⟨rfl, fun v => ?_⟩
  rw [(hR v).1, (hR v).2, qm_cnt_zero (f := A) (fun k hk => by rw [qm_cnt_full (h1.trans ht) k hk]; omega), qm_cnt_zero (f := B) (fun k hk => by rw [qm_cnt_full (h2.trans ht) k hk]; omega)]
theorem qm_sel_diff {c d : Nat → Nat} {n t : Nat} {A B : Nat → Nat} {r : Int32} (h : qm_sel c d n t A B) {a b : Nat} (ha : a < n ∧ b < n) (hm : ∀ j, j < n → A j ≤ A a ∧ B j ≤ B b) (e : ¬ A a = B b) (sg : qm_sg (lM (A a)) (lM (B b)) r) : qm_ord (fun a b : Nat => a < b) (qm_cnt c n) (qm_cnt d n) r := by
  obtain ⟨hb, -, R, hR⟩ := h
  have b1 := (hb a ha.1).1
  have b2 := (hb b ha.2).2
  rcases sg with ⟨g, er⟩ | ⟨g, er⟩ | ⟨g, er⟩
  · rw [lM_lt (by omega) (by omega)] at g
    refine Or.inr (Or.inr ⟨er, B b - 1, fun u hu => ?_, ?_⟩)
    · rw [(hR u).1, (hR u).2, qm_cnt_zero (f := A) (fun k hk => by have := (hm k hk).1; omega), qm_cnt_zero (f := B) (fun k hk => by have := (hm k hk).2; omega)]
    · rw [(hR _).1, (hR _).2, qm_cnt_zero (f := A) (fun k hk => by have := (hm k hk).1; omega)]
      have p : 0 < qm_cnt B n (B b - 1 + 1) := qm_cnt_of ha.2 (by omega)
      omega
  · exact absurd ((lM_eq (by omega) (by omega)).mp g) e
  · rw [lM_lt (by omega) (by omega)] at g
    refine Or.inr (Or.inl ⟨er, A a - 1, fun u hu => ?_, ?_⟩)
    · rw [(hR u).1, (hR u).2, qm_cnt_zero (f := A) (fun k hk => by have := (hm k hk).1; omega), qm_cnt_zero (f := B) (fun k hk => by have := (hm k hk).2; omega)]
    · rw [(hR _).1, (hR _).2, qm_cnt_zero (f := B) (fun k hk => by have := (hm k hk).2; omega)]
      have p : 0 < qm_cnt A n (A a - 1 + 1) := qm_cnt_of ha.1 (by omega)
      omega
theorem qm_updLM {g : Nat → Int64} {A : Nat → Nat} {n a : Nat} (hg : ∀ j, j < n → g j = lM (A j)) : ∀ j, j < n → vp_updL g a (lM 0) j = lM (qu A a 0 j) := fun j hj => by
  by_cases e : j = a
  · rw [e, pk_uLs, qu_s]
  · rw [pk_uLn e, qu_n _ _ e]; exact hg j hj
theorem qm_updLN {g : Nat → Int64} {c : Nat → Nat} {i : Nat} (hg : ∀ j, j < i → g j = lM (c j + 1)) : ∀ j, j < i + 1 → vp_updL g i (lM (c i + 1)) j = lM (c j + 1) := fun j hj => by
  by_cases e : j = i
  · rw [e, pk_uLs]
  · rw [pk_uLn e]; exact hg j (by omega)
/-- the three ways in which compare ends -/
theorem qo_cmp_0 {z : qZ} {k : Int32} (h : ¬ (¬ k < 0 ∧ k < nI z.2.2.2.1)) : qo_cmp z k (-2) := by unfold qo_cmp; rw [if_neg h]
theorem qo_cmp_1 {z : qZ} {k : Nat} {r : Int32} (hk : k < z.2.2.2.1) (hz : z.2.2.2.1 < 2 ^ 31) (sg : qm_sg (qo_all z) (lN (qm_sum (qm_cost z.1.2.1 z.1.2.2 (z.2.1.2 k)) (z.2.1.1 k))) r) (ne : ¬ r = 0) : qo_cmp z (nI k) r := by
  unfold qo_cmp; rw [if_pos ⟨nI_pos (by omega), nI_lt hk hz⟩, nI_clamp (by omega)]
  exact ⟨r, sg, Or.inl ⟨ne, rfl⟩⟩
theorem qo_cmp_2 {z : qZ} {k : Nat} {r : Int32} (hk : k < z.2.2.2.1) (hz : z.2.2.2.1 < 2 ^ 31) (e : qo_all z = lN (qm_sum (qm_cost z.1.2.1 z.1.2.2 (z.2.1.2 k)) (z.2.1.1 k))) (sg : qm_sg (lN (z.2.1.1 10)) (lN (z.2.1.1 k)) r) (ne : ¬ r = 0) : qo_cmp z (nI k) r := by
  unfold qo_cmp; rw [if_pos ⟨nI_pos (by omega), nI_lt hk hz⟩, nI_clamp (by omega)]
  exact ⟨nI 0, Or.inr (Or.inl ⟨e, rfl⟩), Or.inr ⟨nI_0, r, sg, Or.inl ⟨ne, rfl⟩⟩⟩
theorem qo_cmp_3 {z : qZ} {k : Nat} {r : Int32} (hk : k < z.2.2.2.1) (hz : z.2.2.2.1 < 2 ^ 31) (e : qo_all z = lN (qm_sum (qm_cost z.1.2.1 z.1.2.2 (z.2.1.2 k)) (z.2.1.1 k))) (e2 : z.2.1.1 10 = z.2.1.1 k) (o : qm_ord (fun a b : Nat => a < b) (qm_cnt (qo_c z) (z.2.1.1 10)) (qm_cnt (qm_cost z.1.2.1 z.1.2.2 (z.2.1.2 k)) (z.2.1.1 10)) r) : qo_cmp z (nI k) r := by
  unfold qo_cmp; rw [if_pos ⟨nI_pos (by omega), nI_lt hk hz⟩, nI_clamp (by omega)]
  exact ⟨nI 0, Or.inr (Or.inl ⟨e, rfl⟩), Or.inr ⟨nI_0, nI 0, Or.inr (Or.inl ⟨by rw [e2], rfl⟩), Or.inr ⟨nI_0, o⟩⟩⟩
/-- bags of one size, each element of the one as often in the other: one bag -/
theorem qm_pigL {α : Type} [DecidableEq α] : ∀ (l1 l2 : List α), l1.length = l2.length → (∀ x ∈ l1, l1.count x ≤ l2.count x) → ∀ v, l1.count v = l2.count v
  | [], l2, h, _, v => by
    have : l2 = [] := List.eq_nil_of_length_eq_zero h.symm
    rw [this]
  | x :: t, l2, h, hc, v => by
    have hx : x ∈ l2 := by
      have q := hc x List.mem_cons_self
      rw [List.count_cons_self] at q
      exact List.count_pos_iff.mp (by omega)
    have hl : (l2.erase x).length = t.length := by
      rw [List.length_erase_of_mem hx, ← h, List.length_cons]; omega
    have ih := qm_pigL t (l2.erase x) hl.symm (fun y hy => by
      have q := hc y (List.mem_cons_of_mem _ hy)
      rw [List.count_cons] at q
      rw [List.count_erase]
      have : (x == y) = (y == x) := by rw [Bool.beq_comm]
      by_cases e : x == y
      · rw [e] at q; simp only [if_true] at q; rw [e]; simp only [if_true]; omega
      · rw [Bool.not_eq_true] at e; rw [e] at q; rw [e]; simp at q ⊢; exact q)
    have a := ih v
    rw [List.count_erase] at a
    rw [List.count_cons]
    by_cases e : x == v
    · have p : 0 < l2.count v := by rw [← eq_of_beq e]; exact List.count_pos_iff.mpr hx
      rw [e] at a ⊢; simp only [if_true] at a ⊢; omega
    · rw [Bool.not_eq_true] at e; rw [e] at a ⊢; simp at a ⊢; exact a
theorem qm_cntL {α : Type} [DecidableEq α] (f : Nat → α) (v : α) : ∀ n, qm_cnt f n v = ((List.range n).map f).count v
  | 0 => rfl
  | n + 1 => by
    rw [List.range_succ, List.map_append, List.count_append, ← qm_cntL f v n]
    show qm_cnt f n v + (if f n = v then 1 else 0) = qm_cnt f n v + List.count v [f n]
    rw [List.count_singleton]
    by_cases e : f n = v
    · rw [if_pos e, e]; simp
    · rw [if_neg e]; simp [e]
theorem qm_pig {α : Type} [DecidableEq α] {f g : Nat → α} {n : Nat} (h : ∀ k, k < n → qm_cnt g n (f k) = qm_cnt f n (f k)) (v : α) : qm_cnt g n v = qm_cnt f n v := by
  rw [qm_cntL, qm_cntL]
  refine (qm_pigL _ _ (by simp) (fun x hx => ?_) v).symm
  obtain ⟨k, hk, rfl⟩ := List.mem_map.mp hx
  rw [← qm_cntL, ← qm_cntL, h k (List.mem_range.mp hk)]
  exact Nat.le_refl _
theorem qo_same_no {z : qZ} {k : Int32} (h : ¬ ((¬ k < 0 ∧ k < nI z.2.2.2.1) ∧ z.2.1.1 k.toNatClampNeg = z.2.1.1 10 ∧ (∀ v, qm_cnt (z.2.1.2 k.toNatClampNeg) (z.2.1.1 10) v = qm_cnt (z.2.1.2 10) (z.2.1.1 10) v))) : qo_same z k (nI 0) := Or.inr ⟨h, rfl⟩
theorem qo_same_yes {z : qZ} {k : Nat} (hk : k < z.2.2.2.1) (hz : z.2.2.2.1 < 2 ^ 31) (e : z.2.1.1 k = z.2.1.1 10) (h : ∀ v, qm_cnt (z.2.1.2 k) (z.2.1.1 10) v = qm_cnt (z.2.1.2 10) (z.2.1.1 10) v) : qo_same z (nI k) (nI 1) := by
  refine Or.inl ⟨⟨nI_pos (by omega), nI_lt hk hz⟩, ?_, ?_, rfl⟩
  · rw [nI_clamp (by omega)]; exact e
  · rw [nI_clamp (by omega)]; exact h
end
section
/-! LEMMAS of the class's state -/
def qm_cd (z : qS) : Int32 := qm_code (nM z.1) (nI (qm_pl z)) (nI (qm_wd z))
/-- the rules' part, the steps' part -/
def qX_R (nr : Nat) (w x : Nat → Nat) (s : Nat → qS) (n : Nat) (fw fx fu : Nat → Int32) (fs : Nat → Int64) : Prop := (∀ i, i < nr → fw i = nI (w i) ∧ fx i = nI (x i)) ∧ ∀ i, i < 40 → fu i = nI (qm_cnt (qm_rs s) n (i + 1)) ∧ fs i = lN (qm_sp s (qm_cost w x s) i n)
def qX_S (c : Nat → Nat) (s : Nat → qS) (n : Nat) (fr fp fd fc ff : Nat → Int32) (ft : Nat → Int64) (f1 f2 : Nat → Int32) : Prop :=
  (∀ j, j < n → fr j = nM (s j).1 ∧ fp j = nI (qm_pl (s j)) ∧ fd j = nI (qm_wd (s j)) ∧ fc j = nI (c j) ∧ ff j = if qm_fn s j = true then nI 1 else nI 0) ∧ (∀ j, j ≤ n → ft j = lN (qm_sum c j)) ∧ qm_of f1 (fun j => nI (c j)) n ∧ qm_of f2 (fun j => qm_cd (s j)) n
theorem qm_pl_le {nr : Nat} {z : qS} (h : qm_okS nr z) : qm_pl z ≤ 255 := by
  unfold qm_pl
  rcases h with h | h <;> split <;> omega
theorem qm_cost_old {nr : Nat} {w x : Nat → Nat} {s : Nat → qS} {n j : Nat} {t : qS} (ho : ∀ j, j < n → qm_okS nr (s j)) (hj : j < n) : qm_cost w x (qu s n t) j = qm_cost w x s j :=
  qm_cost_congr (ho j hj) (fun _ _ => ⟨rfl, rfl⟩) (fun i hi => qu_n _ _ (by omega))
theorem qm_cost_new1 {w x : Nat → Nat} {s : Nat → qS} {n r p b pr : Nat} (h : pr = w r * (12 - b) / 4 + (if qm_cnt (qm_rs s) n (r + 1) = 0 then x r else 0)) : qm_cost w x (qu s n (r + 1, p, b)) n = pr := by
  unfold qm_cost
  rw [qu_s, if_neg (Nat.succ_ne_zero r), h]
  have e : qm_cnt (qm_rs (qu s n (r + 1, p, b))) n (r + 1) = qm_cnt (qm_rs s) n (r + 1) := qm_cnt_congr (fun k hk => by unfold qm_rs; rw [qu_n _ _ (by omega)])
  show w (r + 1 - 1) * (12 - b) / 4 + (if qm_cnt (qm_rs (qu s n (r + 1, p, b))) n (r + 1) = 0 then x (r + 1 - 1) else 0) = _
  rw [e, Nat.add_sub_cancel]
theorem qm_cost_new0 {w x : Nat → Nat} {s : Nat → qS} {n d pr : Nat} (h : pr = if 0 < n ∧ (s (n - 1)).1 = 0 then 2000 * d else 1000 * d) : qm_cost w x (qu s n (0, d, 0)) n = pr := by
  unfold qm_cost
  rw [qu_s, if_pos rfl, h]
  show (if 0 < n ∧ (qu s n (0, d, 0) (n - 1)).1 = 0 then 2000 * d else 1000 * d) = _
  rcases Nat.eq_zero_or_pos n with q | q
  · rw [if_neg (by omega), if_neg (by omega)]
  · rw [qu_n _ _ (show ¬ n - 1 = n by omega)]
theorem qX_pushS {nr : Nat} {w x : Nat → Nat} {s : Nat → qS} {n : Nat} {t : qS} {fr fp fd fc ff f1 f2 u1 u2 : Nat → Int32} {ft : Nat → Int64} {pr pl wd : Nat} {bv : Int32} (ho : ∀ j, j < n → qm_okS nr (s j)) (hS : qX_S (qm_cost w x s) s n fr fp fd fc ff ft f1 f2) (hpr : qm_cost w x (qu s n t) n = pr) (hpl : qm_pl t = pl) (hwd : qm_wd t = wd)
    (hbv : bv = if ¬ t.1 = 0 ∧ wd = 1 ∧ ¬ qm_wasF s pl n = true then nI 1 else nI 0) (h1 : qm_ins f1 n (nI pr) u1) (h2 : qm_ins f2 n (qm_code (nM t.1) (nI pl) (nI wd)) u2) :
    qX_S (qm_cost w x (qu s n t)) (qu s n t) (n + 1) (upd fr n (nM t.1)) (upd fp n (nI pl)) (upd fd n (nI wd)) (upd fc n (nI pr)) (upd ff n bv) (vp_updL ft (n + 1) (lN (qm_sum (qm_cost w x s) n + pr))) u1 u2 := by
  obtain ⟨hst, htt, ho1, ho2⟩ := hS
  have hc : ∀ j, j < n → qm_cost w x (qu s n t) j = qm_cost w x s j := fun j hj => qm_cost_old ho hj
  have hs : ∀ j, j < n → qu s n t j = s j := fun j hj => qu_n _ _ (by omega)
  refine ⟨fun j hj => ?_, fun j hj => ?_, ?_, ?_⟩
  · by_cases e : j = n
    · rw [e, pk_us, pk_us, pk_us, pk_us, pk_us, qu_s, hpl, hwd, hpr]
      refine ⟨rfl, rfl, rfl, rfl, ?_⟩
      rw [hbv]
      have hfn : (qm_fn (qu s n t) n = true) ↔ (¬ t.1 = 0 ∧ wd = 1 ∧ ¬ qm_wasF s pl n = true) := by
        unfold qm_fn qm_nar
        rw [qu_s, qm_was_congr (t := s) hs, qm_was_F]
        by_cases e0 : t.1 = 0
        · simp [e0]
        · have e1 : t.2.1 = pl := by rw [← hpl]; unfold qm_pl; rw [if_neg e0]
          have e2 : t.2.2 = wd := by rw [← hwd]; unfold qm_wd; rw [if_neg e0]
          rw [e1, e2]; simp [e0]
      by_cases q : ¬ t.1 = 0 ∧ wd = 1 ∧ ¬ qm_wasF s pl n = true
      · rw [if_pos q, if_pos (hfn.mpr q)]
      · rw [if_neg q, if_neg (fun z => q (hfn.mp z))]
    · rw [pk_un e, pk_un e, pk_un e, pk_un e, pk_un e, hs j (by omega), hc j (by omega), qm_fn_congr (t := s) (fun i hi => hs i (by omega))]
      exact hst j (by omega)
  · by_cases e : j = n + 1
    · rw [e, pk_uLs]
      show _ = lN (qm_sum (qm_cost w x (qu s n t)) n + qm_cost w x (qu s n t) n)
      rw [hpr, qm_sum_congr hc]
    · rw [pk_uLn e, htt j (by omega), qm_sum_congr (fun k hk => hc k (by omega))]
  · refine qm_of_ins (g := fun j => nI (qm_cost w x (qu s n t) j)) (qm_of_congr ho1 (fun j hj => by show nI _ = nI _; rw [hc j hj])) ?_
    show qm_ins f1 n (nI (qm_cost w x (qu s n t) n)) u1
    rw [hpr]; exact h1
  · refine qm_of_ins (g := fun j => qm_cd (qu s n t j)) (qm_of_congr ho2 (fun j hj => by show qm_cd _ = qm_cd _; rw [hs j hj])) ?_
    show qm_ins f2 n (qm_cd (qu s n t n)) u2
    rw [qu_s]; unfold qm_cd; rw [hpl, hwd]; exact h2
theorem qm_cnt_push {s : Nat → qS} {n v : Nat} {t : qS} : qm_cnt (qm_rs (qu s n t)) (n + 1) v = qm_cnt (qm_rs s) n v + (if t.1 = v then 1 else 0) := by
  show qm_cnt (qm_rs (qu s n t)) n v + (if (qu s n t n).1 = v then 1 else 0) = _
  rw [qu_s, qm_cnt_congr (g := qm_rs s) (fun k hk => by unfold qm_rs; rw [qu_n _ _ (by omega)])]
theorem qm_sp_push {nr : Nat} {w x : Nat → Nat} {s : Nat → qS} {n r pr : Nat} {t : qS} (ho : ∀ j, j < n → qm_okS nr (s j)) (hpr : qm_cost w x (qu s n t) n = pr) : qm_sp (qu s n t) (qm_cost w x (qu s n t)) r (n + 1) = qm_sp s (qm_cost w x s) r n + (if t.1 = r + 1 then pr else 0) := by
  show qm_sp (qu s n t) (qm_cost w x (qu s n t)) r n + (if (qu s n t n).1 = r + 1 then qm_cost w x (qu s n t) n else 0) = _
  rw [qu_s, hpr, qm_sp_congr (t := s) (d := qm_cost w x s) (fun k hk => ⟨qm_cost_old ho hk, qu_n _ _ (by omega)⟩)]
theorem qX_pushR {nr : Nat} {w x : Nat → Nat} {s : Nat → qS} {n r pr : Nat} {t : qS} {fw fx fu : Nat → Int32} {fs : Nat → Int64} (ho : ∀ j, j < n → qm_okS nr (s j)) (hX : qX_R nr w x s n fw fx fu fs) (ht : t.1 = r + 1) (hpr : qm_cost w x (qu s n t) n = pr) :
    qX_R nr w x (qu s n t) (n + 1) fw fx (upd fu r (nI (qm_cnt (qm_rs s) n (r + 1) + 1))) (vp_updL fs r (lN (qm_sp s (qm_cost w x s) r n + pr))) := by
  refine ⟨hX.1, fun i hi => ?_⟩
  rw [qm_cnt_push, qm_sp_push ho hpr, ht]
  by_cases e : i = r
  · rw [e, pk_us, pk_uLs, if_pos rfl, if_pos rfl]; exact ⟨rfl, rfl⟩
  · rw [pk_un e, pk_uLn e, if_neg (by omega), if_neg (by omega)]
    exact hX.2 i hi
theorem qX_pushR0 {nr : Nat} {w x : Nat → Nat} {s : Nat → qS} {n pr : Nat} {t : qS} {fw fx fu : Nat → Int32} {fs : Nat → Int64} (ho : ∀ j, j < n → qm_okS nr (s j)) (hX : qX_R nr w x s n fw fx fu fs) (ht : t.1 = 0) (hpr : qm_cost w x (qu s n t) n = pr) :
    qX_R nr w x (qu s n t) (n + 1) fw fx fu fs := by
  refine ⟨hX.1, fun i hi => ?_⟩
  rw [qm_cnt_push, qm_sp_push ho hpr, ht, if_neg (by omega), if_neg (by omega)]
  exact hX.2 i hi
theorem qX_popS {c : Nat → Nat} {s : Nat → qS} {n : Nat} {fr fp fd fc ff f1 f2 u1 u2 : Nat → Int32} {ft : Nat → Int64} (hS : qX_S c s (n + 1) fr fp fd fc ff ft f1 f2) (h1 : qm_del f1 n (nI (c n)) u1) (h2 : qm_del f2 n (qm_cd (s n)) u2) : qX_S c s n fr fp fd fc ff ft u1 u2 :=
  ⟨fun j hj => hS.1 j (by omega), fun j hj => hS.2.1 j (by omega), qm_of_del (g := fun j => nI (c j)) hS.2.2.1 h1, qm_of_del (g := fun j => qm_cd (s j)) hS.2.2.2 h2⟩
theorem qX_popR {nr : Nat} {w x : Nat → Nat} {s : Nat → qS} {n r : Nat} {fw fx fu : Nat → Int32} {fs : Nat → Int64} (hX : qX_R nr w x s (n + 1) fw fx fu fs) (ht : (s n).1 = r + 1) :
    qX_R nr w x s n fw fx (upd fu r (nI (qm_cnt (qm_rs s) n (r + 1)))) (vp_updL fs r (lN (qm_sp s (qm_cost w x s) r n))) := by
  refine ⟨hX.1, fun i hi => ?_⟩
  have a := hX.2 i hi
  by_cases e : i = r
  · rw [e, pk_us, pk_uLs]; exact ⟨rfl, rfl⟩
  · rw [pk_un e, pk_uLn e]
    have e1 : qm_cnt (qm_rs s) (n + 1) (i + 1) = qm_cnt (qm_rs s) n (i + 1) := by show _ + (if (s n).1 = i + 1 then 1 else 0) = _; rw [if_neg (by omega)]; rfl
    have e2 : qm_sp s (qm_cost w x s) i (n + 1) = qm_sp s (qm_cost w x s) i n := by show _ + (if (s n).1 = i + 1 then _ else 0) = _; rw [if_neg (by omega)]; rfl
    rw [← e1, ← e2]; exact a
theorem qX_popR0 {nr : Nat} {w x : Nat → Nat} {s : Nat → qS} {n : Nat} {fw fx fu : Nat → Int32} {fs : Nat → Int64} (hX : qX_R nr w x s (n + 1) fw fx fu fs) (ht : (s n).1 = 0) : qX_R nr w x s n fw fx fu fs := by
  refine ⟨hX.1, fun i hi => ?_⟩
  have a := hX.2 i hi
  have e1 : qm_cnt (qm_rs s) (n + 1) (i + 1) = qm_cnt (qm_rs s) n (i + 1) := by show _ + (if (s n).1 = i + 1 then 1 else 0) = _; rw [if_neg (by omega)]; rfl
  have e2 : qm_sp s (qm_cost w x s) i (n + 1) = qm_sp s (qm_cost w x s) i n := by show _ + (if (s n).1 = i + 1 then _ else 0) = _; rw [if_neg (by omega)]; rfl
  rw [← e1, ← e2]; exact a
theorem qX_ruleC {nr : Nat} {w x : Nat → Nat} {s : Nat → qS} {j a b : Nat} (hs : qm_okS nr (s j)) : qm_cost (qu w nr a) (qu x nr b) s j = qm_cost w x s j :=
  qm_cost_congr hs (fun i hi => ⟨qu_n _ _ (by omega), qu_n _ _ (by omega)⟩) (fun _ _ => rfl)
theorem qX_rule {nr : Nat} {w x : Nat → Nat} {s : Nat → qS} {n a1 b1 : Nat} {a b : Int32} {fw fx fu : Nat → Int32} {fs : Nat → Int64} (ho : ∀ j, j < n → qm_okS nr (s j)) (hX : qX_R nr w x s n fw fx fu fs) (ea : a = nI a1) (eb : b = nI b1) (ha : a1 < 2 ^ 31) (hb : b1 < 2 ^ 31) :
    qX_R (nr + 1) (qu w nr a.toNatClampNeg) (qu x nr b.toNatClampNeg) s n (upd fw nr a) (upd fx nr b) fu fs := by
  subst ea; subst eb
  rw [nI_clamp ha, nI_clamp hb]
  refine ⟨fun i hi => qm_two hX.1 hi, fun i hi => ?_⟩
  rw [qm_sp_congr (t := s) (d := qm_cost w x s) (fun k hk => ⟨qX_ruleC (ho k hk), rfl⟩)]
  exact hX.2 i hi
theorem qX_ruleS {nr : Nat} {w x : Nat → Nat} {s : Nat → qS} {n a b : Nat} {fr fp fd fc ff f1 f2 : Nat → Int32} {ft : Nat → Int64} (ho : ∀ j, j < n → qm_okS nr (s j)) (hS : qX_S (qm_cost w x s) s n fr fp fd fc ff ft f1 f2) : qX_S (qm_cost (qu w nr a) (qu x nr b) s) s n fr fp fd fc ff ft f1 f2 := by
  have hc : ∀ j, j < n → qm_cost (qu w nr a) (qu x nr b) s j = qm_cost w x s j := fun j hj => qX_ruleC (ho j hj)
  refine ⟨fun j hj => ?_, fun j hj => ?_, qm_of_congr hS.2.2.1 (fun j hj => by show nI _ = nI _; rw [hc j hj]), hS.2.2.2⟩
  · rw [hc j hj]; exact hS.1 j hj
  · rw [hS.2.1 j hj, qm_sum_congr (fun k hk => (hc k (by omega)).symm)]
end
