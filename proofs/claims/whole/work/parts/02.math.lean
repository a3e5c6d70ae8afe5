/-! THE MATHEMATICS: counting, sorted rows, orders by the greatest; what both sides answer. No machine here. -/
theorem qm_le_refl (a : Int32) : a ≤ a := by rw [Int32.le_iff_toInt_le]; exact Int.le_refl _
theorem qm_le_trans {a b c : Int32} (h : a ≤ b) (k : b ≤ c) : a ≤ c := by rw [Int32.le_iff_toInt_le] at *; exact Int.le_trans h k
theorem qm_lt_le {a b : Int32} (h : a < b) : a ≤ b := by rw [Int32.le_iff_toInt_le]; rw [Int32.lt_iff_toInt_lt] at h; omega
theorem qm_nle {a b : Int32} (h : ¬ a ≤ b) : b < a := by rw [Int32.le_iff_toInt_le] at h; rw [Int32.lt_iff_toInt_lt]; omega
theorem qm_nlt {a b : Int32} (h : ¬ a < b) : b ≤ a := by rw [Int32.lt_iff_toInt_lt] at h; rw [Int32.le_iff_toInt_le]; omega
theorem qm_le_lt {a b c : Int32} (h : a ≤ b) (k : b < c) : a < c := by rw [Int32.le_iff_toInt_le] at h; rw [Int32.lt_iff_toInt_lt] at *; omega
theorem qm_lt_ne {a b : Int32} (h : a < b) : ¬ a = b := by intro e; rw [Int32.lt_iff_toInt_lt, e] at h; omega
theorem qm_tri (a b : Int32) : a < b ∨ a = b ∨ b < a := by
  rw [Int32.lt_iff_toInt_lt, Int32.lt_iff_toInt_lt, ← Int32.toInt_inj]; omega
/-- how often v stands among f 0 .. f (n-1) -/
def qm_cnt {α : Type} [DecidableEq α] (f : Nat → α) : Nat → α → Nat
  | 0, _ => 0
  | n + 1, v => qm_cnt f n v + (if f n = v then 1 else 0)
theorem qm_cnt_congr {α : Type} [DecidableEq α] {f g : Nat → α} {v : α} : ∀ {n : Nat}, (∀ k, k < n → f k = g k) → qm_cnt f n v = qm_cnt g n v
  | 0, _ => rfl
  | n + 1, h => by
    simp only [qm_cnt]
    rw [qm_cnt_congr (n := n) (fun k hk => h k (by omega)), h n (by omega)]
theorem qm_cnt_add {α : Type} [DecidableEq α] (f : Nat → α) (a : Nat) (v : α) : ∀ b, qm_cnt f (a + b) v = qm_cnt f a v + qm_cnt (fun k => f (a + k)) b v
  | 0 => rfl
  | b + 1 => by
    show qm_cnt f (a + b) v + (if f (a + b) = v then 1 else 0) = qm_cnt f a v + (qm_cnt (fun k => f (a + k)) b v + (if f (a + b) = v then 1 else 0))
    rw [qm_cnt_add f a v b, Nat.add_assoc]
theorem qm_cnt_pos {α : Type} [DecidableEq α] {f : Nat → α} {v : α} : ∀ {n : Nat}, 0 < qm_cnt f n v → ∃ k, k < n ∧ f k = v
  | 0, h => absurd h (Nat.lt_irrefl 0)
  | n + 1, h => by
    by_cases e : f n = v
    · exact ⟨n, by omega, e⟩
    · have h2 : 0 < qm_cnt f n v := by
        have h3 : qm_cnt f (n + 1) v = qm_cnt f n v + 0 := by show _ + (if f n = v then 1 else 0) = _; rw [if_neg e]
        omega
      obtain ⟨k, a, b⟩ := qm_cnt_pos h2
      exact ⟨k, by omega, b⟩
theorem qm_cnt_of {α : Type} [DecidableEq α] {f : Nat → α} {v : α} : ∀ {n k : Nat}, k < n → f k = v → 0 < qm_cnt f n v
  | 0, k, h, _ => absurd h (Nat.not_lt_zero k)
  | n + 1, k, h, e => by
    show 0 < qm_cnt f n v + (if f n = v then 1 else 0)
    by_cases q : k = n
    · subst q; rw [if_pos e]; omega
    · have := qm_cnt_of (n := n) (k := k) (by omega) e
      omega
theorem qm_cnt_zero {α : Type} [DecidableEq α] {f : Nat → α} {v : α} {n : Nat} (h : ∀ k, k < n → ¬ f k = v) : qm_cnt f n v = 0 := by
  rcases Nat.eq_zero_or_pos (qm_cnt f n v) with q | q
  · exact q
  · obtain ⟨k, a, b⟩ := qm_cnt_pos q; exact absurd b (h k a)
/-- a map that keeps the elements apart keeps the counts -/
theorem qm_cnt_map {α β : Type} [DecidableEq α] [DecidableEq β] {f : Nat → α} {g : Nat → β} {v : α} {w : β} : ∀ {n : Nat}, (∀ k, k < n → (f k = v ↔ g k = w)) → qm_cnt f n v = qm_cnt g n w
  | 0, _ => rfl
  | n + 1, h => by
    show qm_cnt f n v + (if f n = v then 1 else 0) = qm_cnt g n w + (if g n = w then 1 else 0)
    rw [qm_cnt_map (n := n) (fun k hk => h k (by omega))]
    by_cases e : f n = v
    · rw [if_pos e, if_pos ((h n (by omega)).mp e)]
    · rw [if_neg e, if_neg (fun q => e ((h n (by omega)).mpr q))]
/-- one comes in at j -/
theorem qm_ins_cnt {α : Type} [DecidableEq α] {f u : Nat → α} {n j : Nat} {x : α} (hj : j ≤ n) (h1 : ∀ k, k < j → u k = f k) (h2 : u j = x) (h3 : ∀ k, j ≤ k → k < n → u (k + 1) = f k) (v : α) : qm_cnt u (n + 1) v = qm_cnt f n v + (if x = v then 1 else 0) := by
  obtain ⟨d, rfl⟩ : ∃ d, n = j + d := ⟨n - j, by omega⟩
  have e1 : qm_cnt u (j + 1 + d) v = qm_cnt u (j + 1) v + qm_cnt (fun k => u (j + 1 + k)) d v := qm_cnt_add u (j + 1) v d
  have e2 : qm_cnt u (j + 1) v = qm_cnt f j v + (if x = v then 1 else 0) := by
    show qm_cnt u j v + (if u j = v then 1 else 0) = _
    rw [h2, qm_cnt_congr (g := f) h1]
  have e3 : qm_cnt (fun k => u (j + 1 + k)) d v = qm_cnt (fun k => f (j + k)) d v := qm_cnt_congr (fun k hk => by
    show u (j + 1 + k) = f (j + k)
    have q := h3 (j + k) (by omega) (by omega)
    rw [show j + 1 + k = j + k + 1 by omega]; exact q)
  rw [show j + d + 1 = j + 1 + d by omega, e1, e2, e3, qm_cnt_add f j v d, Nat.add_right_comm]
/-- from the least to the greatest -/
def qm_srt (f : Nat → Int32) (n : Nat) : Prop := ∀ i j, i ≤ j → j < n → f i ≤ f j
theorem qm_srt_0 (f : Nat → Int32) : qm_srt f 0 := fun _ j _ h => absurd h (Nat.not_lt_zero j)
theorem qm_srt_congr {f g : Nat → Int32} {n : Nat} (h : qm_srt f n) (e : ∀ k, k < n → g k = f k) : qm_srt g n := fun i j a b => by
  rw [e i (by omega), e j b]; exact h i j a b
/-- u is f with x put in its place -/
def qm_ins (f : Nat → Int32) (n : Nat) (x : Int32) (u : Nat → Int32) : Prop := ∃ j, j ≤ n ∧ (∀ k, k < j → u k = f k) ∧ u j = x ∧ (∀ k, j ≤ k → k < n → u (k + 1) = f k) ∧ (0 < j → f (j - 1) ≤ x) ∧ (j < n → x ≤ f j)
theorem qm_ins_srt {f u : Nat → Int32} {n : Nat} {x : Int32} (h : qm_ins f n x u) (hs : qm_srt f n) : qm_srt u (n + 1) := by
  obtain ⟨j, hj, h1, h2, h3, h4, h5⟩ := h
  intro a b hab hb
  rcases Nat.lt_trichotomy a j with ha | ha | ha
  · rw [h1 a ha]
    rcases Nat.lt_trichotomy b j with hb1 | hb1 | hb1
    · rw [h1 b hb1]; exact hs a b hab (by omega)
    · rw [hb1, h2]; exact qm_le_trans (hs a (j - 1) (by omega) (by omega)) (h4 (by omega))
    · obtain ⟨c, hc⟩ : ∃ c, b = c + 1 := ⟨b - 1, by omega⟩
      rw [hc, h3 c (by omega) (by omega)]; exact hs a c (by omega) (by omega)
  · rw [ha, h2]
    rcases Nat.lt_or_ge j b with hb1 | hb1
    · obtain ⟨c, hc⟩ : ∃ c, b = c + 1 := ⟨b - 1, by omega⟩
      rw [hc, h3 c (by omega) (by omega)]; exact qm_le_trans (h5 (by omega)) (hs j c (by omega) (by omega))
    · rw [show b = j by omega, h2]; exact qm_le_refl _
  · obtain ⟨c, hc⟩ : ∃ c, b = c + 1 := ⟨b - 1, by omega⟩
    obtain ⟨d, hd⟩ : ∃ d, a = d + 1 := ⟨a - 1, by omega⟩
    rw [hc, hd, h3 c (by omega) (by omega), h3 d (by omega) (by omega)]; exact hs d c (by omega) (by omega)
theorem qm_ins_c {f u : Nat → Int32} {n : Nat} {x : Int32} (h : qm_ins f n x u) (v : Int32) : qm_cnt u (n + 1) v = qm_cnt f n v + (if x = v then 1 else 0) := by
  obtain ⟨j, hj, h1, h2, h3, -, -⟩ := h
  exact qm_ins_cnt hj h1 h2 h3 v
/-- u is f without the first x -/
def qm_del (f : Nat → Int32) (n : Nat) (x : Int32) (u : Nat → Int32) : Prop := ∃ j, j ≤ n ∧ f j = x ∧ (∀ k, k < j → u k = f k) ∧ (∀ k, j ≤ k → k < n → u k = f (k + 1))
theorem qm_del_srt {f u : Nat → Int32} {n : Nat} {x : Int32} (h : qm_del f n x u) (hs : qm_srt f (n + 1)) : qm_srt u n := by
  obtain ⟨j, hj, h1, h2, h3⟩ := h
  intro a b hab hb
  rcases Nat.lt_or_ge a j with ha | ha
  · rw [h2 a ha]
    rcases Nat.lt_or_ge b j with hb1 | hb1
    · rw [h2 b hb1]; exact hs a b hab (by omega)
    · rw [h3 b hb1 hb]; exact hs a (b + 1) (by omega) (by omega)
  · rw [h3 a ha (by omega), h3 b (by omega) hb]; exact hs (a + 1) (b + 1) (by omega) (by omega)
theorem qm_del_c {f u : Nat → Int32} {n : Nat} {x : Int32} (h : qm_del f n x u) (v : Int32) : qm_cnt f (n + 1) v = qm_cnt u n v + (if x = v then 1 else 0) := by
  obtain ⟨j, hj, h1, h2, h3⟩ := h
  exact qm_ins_cnt hj (fun k hk => (h2 k hk).symm) h1 (fun k a b => (h3 k a b).symm) v
/-- f, in order, holds what g holds -/
def qm_of (f g : Nat → Int32) (n : Nat) : Prop := qm_srt f n ∧ ∀ v, qm_cnt f n v = qm_cnt g n v
theorem qm_of_ins {f g u : Nat → Int32} {n : Nat} (h : qm_of f g n) (hi : qm_ins f n (g n) u) : qm_of u g (n + 1) :=
  ⟨qm_ins_srt hi h.1, fun v => by rw [qm_ins_c hi v, h.2 v]; rfl⟩
theorem qm_of_del {f g u : Nat → Int32} {n : Nat} (h : qm_of f g (n + 1)) (hi : qm_del f n (g n) u) : qm_of u g n :=
  ⟨qm_del_srt hi h.1, fun v => by
    have a := qm_del_c hi v
    have b : qm_cnt f (n + 1) v = qm_cnt g n v + (if g n = v then 1 else 0) := h.2 v
    omega⟩
theorem qm_of_congr {f g k : Nat → Int32} {n : Nat} (h : qm_of f g n) (e : ∀ j, j < n → g j = k j) : qm_of f k n :=
  ⟨h.1, fun v => by rw [h.2 v]; exact qm_cnt_congr e⟩
theorem qm_of_has {f g : Nat → Int32} {n k : Nat} (h : qm_of f g n) (hk : k < n) : ∃ j, j < n ∧ f j = g k := by
  have a : 0 < qm_cnt f n (g k) := by rw [h.2]; exact qm_cnt_of hk rfl
  exact qm_cnt_pos a
/-- the order of two bags by their greatest: what is more is greater -/
def qm_ord {α : Type} (lt : α → α → Prop) (cA cB : α → Nat) (r : Int32) : Prop :=
  (r = nI 0 ∧ ∀ v, cA v = cB v) ∨ (r = nI 1 ∧ ∃ v, (∀ u, lt v u → cA u = cB u) ∧ cB v < cA v) ∨ (r = -1 ∧ ∃ v, (∀ u, lt v u → cA u = cB u) ∧ cA v < cB v)
theorem qm_ord_one {α : Type} {lt : α → α → Prop} (tri : ∀ a b, lt a b ∨ a = b ∨ lt b a) {cA cB : α → Nat} {r q : Int32} (h : qm_ord lt cA cB r) (k : qm_ord lt cA cB q) : r = q := by
  rcases h with ⟨e, a⟩ | ⟨e, v, a, b⟩ | ⟨e, v, a, b⟩ <;> rcases k with ⟨e2, a2⟩ | ⟨e2, v2, a2, b2⟩ | ⟨e2, v2, a2, b2⟩
  · rw [e, e2]
  · have := a v2; omega
  · have := a v2; omega
  · have := a2 v; omega
  · rw [e, e2]
  · rcases tri v v2 with q | q | q
    · have := a v2 q; omega
    · subst q; omega
    · have := a2 v q; omega
  · have := a2 v; omega
  · rcases tri v v2 with q | q | q
    · have := a v2 q; omega
    · subst q; omega
    · have := a2 v q; omega
  · rw [e, e2]
/-- two rows in order, alike in their last i: the tops of both are one -/
theorem qm_top {f g : Nat → Int32} {n i : Nat} (hi : i ≤ n) (he : ∀ k, n - i ≤ k → k < n → f k = g k) (v : Int32) (hf : ∀ k, k < n - i → ¬ f k = v) (hg : ∀ k, k < n - i → ¬ g k = v) : qm_cnt f n v = qm_cnt g n v := by
  obtain ⟨d, hd⟩ : ∃ d, n = d + i := ⟨n - i, by omega⟩
  subst hd
  rw [qm_cnt_add f d v i, qm_cnt_add g d v i, qm_cnt_zero (fun k hk => hf k (by omega)), qm_cnt_zero (fun k hk => hg k (by omega))]
  rw [qm_cnt_congr (g := fun k => g (d + k)) (fun k hk => he (d + k) (by omega) (by omega))]
/-- the first place from above at which two rows in order differ -/
theorem qm_diff {f g : Nat → Int32} {n i : Nat} (hf : qm_srt f n) (hg : qm_srt g n) (hi : i < n) (he : ∀ k, n - i ≤ k → k < n → f k = g k) (hl : f (n - (i + 1)) < g (n - (i + 1))) :
    ∃ v, (∀ u, v < u → qm_cnt f n u = qm_cnt g n u) ∧ qm_cnt f n v < qm_cnt g n v := by
  have a1 : ∀ k, k < n - i → f k < g (n - (i + 1)) := fun k hk => qm_le_lt (hf k (n - (i + 1)) (by omega) (by omega)) hl
  refine ⟨g (n - (i + 1)), fun u hu => ?_, ?_⟩
  · refine qm_top (i := i) (by omega) he u (fun k hk => ?_) (fun k hk => ?_)
    · intro e
      have q := a1 k hk
      rw [e, Int32.lt_iff_toInt_lt] at q
      rw [Int32.lt_iff_toInt_lt] at hu
      omega
    · exact qm_lt_ne (qm_le_lt (hg k (n - (i + 1)) (by omega) (by omega)) hu)
  · obtain ⟨d, hd⟩ : ∃ d, n = d + i := ⟨n - i, by omega⟩
    have ed : d + i - (i + 1) = d - 1 := by omega
    subst hd
    rw [ed] at *
    rw [qm_cnt_add f d _ i, qm_cnt_add g d _ i, qm_cnt_zero (f := f) (n := d) (fun k hk => qm_lt_ne (a1 k (by omega)))]
    rw [qm_cnt_congr (f := fun k => f (d + k)) (g := fun k => g (d + k)) (fun k hk => he (d + k) (by omega) (by omega))]
    have p : 0 < qm_cnt g d (g (d - 1)) := qm_cnt_of (k := d - 1) (by omega) rfl
    omega
/-- the sign of an order -/
def qm_sg (x y : Int64) (r : Int32) : Prop := (x < y ∧ r = -1) ∨ (x = y ∧ r = nI 0) ∨ (y < x ∧ r = nI 1)
theorem qm_sg_0 {x y : Int64} {r : Int32} (h : qm_sg x y r) (e : r = 0) : x = y := by
  rcases h with ⟨-, h⟩ | ⟨h, -⟩ | ⟨-, h⟩
  · rw [h] at e; exact absurd e (by decide)
  · exact h
  · rw [h] at e; exact absurd e (by decide)
theorem qm_sg_one {x y : Int64} {r q : Int32} (h : qm_sg x y r) (k : qm_sg x y q) : r = q := by
  rcases h with ⟨a, e⟩ | ⟨a, e⟩ | ⟨a, e⟩ <;> rcases k with ⟨b, e2⟩ | ⟨b, e2⟩ | ⟨b, e2⟩ <;> first | (exfalso; simp only [Int64.lt_iff_toInt_lt, ← Int64.toInt_inj] at a b; omega) | (rw [e, e2]; done)
theorem qm_l_inj {a b : Int32} (h : a.toInt64 = b.toInt64) : a = b := by
  have q := congrArg Int64.toInt h
  rw [Int32.toInt_toInt64, Int32.toInt_toInt64] at q
  exact Int32.toInt_inj.mp q
theorem qm_l_lt {a b : Int32} (h : a.toInt64 < b.toInt64) : a < b := by
  rw [Int64.lt_iff_toInt_lt, Int32.toInt_toInt64, Int32.toInt_toInt64] at h
  rw [Int32.lt_iff_toInt_lt]; exact h
theorem qm_ord_of {f g : Nat → Int32} {n i : Nat} {r : Int32} (hf : qm_srt f n) (hg : qm_srt g n) (hi : i < n) (he : ∀ k, n - i ≤ k → k < n → f k = g k) (h : qm_sg (f (n - (i + 1))).toInt64 (g (n - (i + 1))).toInt64 r) (hr : ¬ r = 0) : qm_ord (fun a b : Int32 => a < b) (qm_cnt f n) (qm_cnt g n) r := by
  rcases h with ⟨a, e⟩ | ⟨a, e⟩ | ⟨a, e⟩
  · exact Or.inr (Or.inr ⟨e, qm_diff hf hg hi he (qm_l_lt a)⟩)
  · rw [e] at hr; exact absurd nI_0 hr
  · obtain ⟨v, p, q⟩ := qm_diff hg hf hi (fun k x y => (he k x y).symm) (qm_l_lt a)
    exact Or.inr (Or.inl ⟨e, v, fun u hu => (p u hu).symm, q⟩)
/-- a number between two is a Nat's -/
theorem qm_within {x : Int32} {a b : Nat} (h : nI a ≤ x ∧ x ≤ nI b) (ha : a < 2 ^ 31) (hb : b < 2 ^ 31) : ∃ k, a ≤ k ∧ k ≤ b ∧ x = nI k := by
  have h1 := h.1
  have h2 := h.2
  rw [Int32.le_iff_toInt_le, nI_toInt ha] at h1
  rw [Int32.le_iff_toInt_le, nI_toInt hb] at h2
  refine ⟨x.toInt.toNat, by omega, by omega, ?_⟩
  rw [← Int32.toInt_inj, nI_toInt (by omega)]; omega
theorem qm_below {x : Int32} {b : Nat} (h : ¬ x < 0 ∧ x < nI b) (hb : b < 2 ^ 31) : ∃ k, k < b ∧ x = nI k := by
  have h1 := h.1
  have h2 := h.2
  rw [Int32.lt_iff_toInt_lt, Int32.toInt_zero] at h1
  rw [Int32.lt_iff_toInt_lt, nI_toInt hb] at h2
  refine ⟨x.toInt.toNat, by omega, ?_⟩
  rw [← Int32.toInt_inj, nI_toInt (by omega)]; omega
theorem qm_lt_nle {a b : Int32} (h : a < b) : ¬ b ≤ a := by rw [Int32.lt_iff_toInt_lt] at h; rw [Int32.le_iff_toInt_le]; omega
theorem qm_next {f : Nat → Int32} {n j : Nat} {x : Int32} (hf : ∃ k, k < n + 1 ∧ f k = x) (h1 : ∀ k, k < j → ¬ f k = x) (cj : ¬ f j = x) : j + 1 ≤ n := by
  obtain ⟨k, a, b⟩ := hf
  rcases Nat.lt_trichotomy k j with z | z | z
  · exact absurd b (h1 k z)
  · rw [z] at b; exact absurd b cj
  · omega
theorem qm_till {f : Nat → Int32} {j : Nat} {x : Int32} (h1 : ∀ k, k < j → ¬ f k = x) (cj : ¬ f j = x) : ∀ k, k < j + 1 → ¬ f k = x := fun k hk => by
  rcases Nat.lt_or_ge k j with z | z
  · exact h1 k z
  · rw [show k = j by omega]; exact cj
theorem qm_down {f g : Nat → Int32} {n i : Nat} (he : ∀ k, n - i ≤ k → k < n → f k = g k) (e : f (n - (i + 1)) = g (n - (i + 1))) (hi : i < n) : ∀ k, n - (i + 1) ≤ k → k < n → f k = g k := fun k a b => by
  rcases Nat.lt_or_ge k (n - i) with z | z
  · rw [show k = n - (i + 1) by omega]; exact e
  · exact he k z b
theorem qm_le_nlt0 {a : Int32} (h : 0 ≤ a) : ¬ a < 0 := by rw [Int32.le_iff_toInt_le] at h; rw [Int32.lt_iff_toInt_lt]; omega
theorem qm_lt_nle0 {a : Int32} (h : a < 0) : ¬ nI 0 ≤ a := by rw [nI_0]; exact qm_lt_nle h
