/-! WHAT THE CALLS ANSWER, of numbers alone. A step is (r, a, b): by rule r - 1 at place a with width b; (0, d, 0) is a guess of depth d. -/
abbrev qS : Type := Nat × Nat × Nat
def qm_rs (s : Nat → qS) : Nat → Nat := fun j => (s j).1
/-- what a step costs -/
def qm_cost (w x : Nat → Nat) (s : Nat → qS) (k : Nat) : Nat :=
  if (s k).1 = 0 then (if 0 < k ∧ (s (k - 1)).1 = 0 then 2000 * (s k).2.1 else 1000 * (s k).2.1)
  else w ((s k).1 - 1) * (12 - (s k).2.2) / 4 + (if qm_cnt (qm_rs s) k (s k).1 = 0 then x ((s k).1 - 1) else 0)
def qm_okS (nr : Nat) (z : qS) : Prop := (z.1 = 0 ∧ 1 ≤ z.2.1 ∧ z.2.1 ≤ 20 ∧ z.2.2 = 0) ∨ (1 ≤ z.1 ∧ z.1 ≤ nr ∧ z.2.1 ≤ 255 ∧ 1 ≤ z.2.2 ∧ z.2.2 ≤ 9)
def qm_okR (nr : Nat) (w x : Nat → Nat) : Prop := nr ≤ 40 ∧ ∀ i, i < nr → w i ≤ 10000 ∧ x i ≤ 100000
theorem qm_okS_mono {nr nr2 : Nat} {z : qS} (h : qm_okS nr z) (h2 : nr ≤ nr2) : qm_okS nr2 z := by
  rcases h with h | h
  · exact Or.inl h
  · exact Or.inr ⟨h.1, by omega, h.2.2⟩
theorem qm_w_le {nr : Nat} {w x : Nat → Nat} (hR : qm_okR nr w x) {r b : Nat} (h1 : 1 ≤ r) (h2 : r ≤ nr) : w (r - 1) * (12 - b) ≤ 120000 :=
  Nat.le_trans (Nat.mul_le_mul (hR.2 (r - 1) (by omega)).1 (show 12 - b ≤ 12 by omega)) (by decide)
theorem qm_cost_le {nr : Nat} {w x : Nat → Nat} {s : Nat → qS} {k : Nat} (hR : qm_okR nr w x) (hs : qm_okS nr (s k)) : qm_cost w x s k ≤ 130000 := by
  unfold qm_cost
  rcases hs with h | h
  · rw [if_pos h.1]
    split <;> omega
  · rw [if_neg (by omega)]
    have a : w ((s k).1 - 1) * (12 - (s k).2.2) / 4 ≤ 30000 := by
      have := qm_w_le hR (b := (s k).2.2) h.1 h.2.1
      omega
    have b := (hR.2 ((s k).1 - 1) (by omega)).2
    split <;> omega
theorem qm_cost_congr {nr : Nat} {w x w2 x2 : Nat → Nat} {s s2 : Nat → qS} {k : Nat} (hs : qm_okS nr (s k)) (hw : ∀ i, i < nr → w2 i = w i ∧ x2 i = x i) (he : ∀ j, j ≤ k → s2 j = s j) : qm_cost w2 x2 s2 k = qm_cost w x s k := by
  unfold qm_cost
  have e1 : qm_cnt (qm_rs s2) k (s k).1 = qm_cnt (qm_rs s) k (s k).1 := qm_cnt_congr (fun j hj => by unfold qm_rs; rw [he j (by omega)])
  rw [he k (Nat.le_refl k), he (k - 1) (by omega), e1]
  rcases hs with h | h
  · rw [if_pos h.1, if_pos h.1]
  · have e0 : ¬ (s k).1 = 0 := by omega
    rw [if_neg e0, if_neg e0, (hw ((s k).1 - 1) (by omega)).1, (hw ((s k).1 - 1) (by omega)).2]
def qm_sum (c : Nat → Nat) : Nat → Nat
  | 0 => 0
  | n + 1 => qm_sum c n + c n
theorem qm_sum_le {c : Nat → Nat} {B : Nat} : ∀ {n : Nat}, (∀ k, k < n → c k ≤ B) → qm_sum c n ≤ n * B
  | 0, _ => by simp [qm_sum]
  | n + 1, h => by
    have a := qm_sum_le (n := n) (fun k hk => h k (by omega))
    have b := h n (by omega)
    show qm_sum c n + c n ≤ (n + 1) * B
    rw [Nat.add_mul, Nat.one_mul]; omega
theorem qm_sum_congr {c d : Nat → Nat} : ∀ {n : Nat}, (∀ k, k < n → c k = d k) → qm_sum c n = qm_sum d n
  | 0, _ => rfl
  | n + 1, h => by
    show qm_sum c n + c n = qm_sum d n + d n
    rw [qm_sum_congr (n := n) (fun k hk => h k (by omega)), h n (by omega)]
/-- what the steps by rule r cost together -/
def qm_sp (s : Nat → qS) (c : Nat → Nat) (r : Nat) : Nat → Nat
  | 0 => 0
  | n + 1 => qm_sp s c r n + (if (s n).1 = r + 1 then c n else 0)
theorem qm_sp_le {s : Nat → qS} {c : Nat → Nat} {r B : Nat} : ∀ {n : Nat}, (∀ k, k < n → c k ≤ B) → qm_sp s c r n ≤ n * B
  | 0, _ => by simp [qm_sp]
  | n + 1, h => by
    have a := qm_sp_le (s := s) (r := r) (n := n) (fun k hk => h k (by omega))
    have b := h n (by omega)
    show qm_sp s c r n + (if (s n).1 = r + 1 then c n else 0) ≤ (n + 1) * B
    rw [Nat.add_mul, Nat.one_mul]
    split <;> omega
theorem qm_sp_congr {s t : Nat → qS} {c d : Nat → Nat} {r : Nat} : ∀ {n : Nat}, (∀ k, k < n → c k = d k ∧ s k = t k) → qm_sp s c r n = qm_sp t d r n
  | 0, _ => rfl
  | n + 1, h => by
    show qm_sp s c r n + (if (s n).1 = r + 1 then c n else 0) = qm_sp t d r n + (if (t n).1 = r + 1 then d n else 0)
    rw [qm_sp_congr (n := n) (fun k hk => h k (by omega)), (h n (by omega)).1, (h n (by omega)).2]
theorem qm_cnt_le {α : Type} [DecidableEq α] {f : Nat → α} {v : α} : ∀ {n : Nat}, qm_cnt f n v ≤ n
  | 0 => Nat.le_refl 0
  | n + 1 => by
    have a := qm_cnt_le (f := f) (v := v) (n := n)
    show qm_cnt f n v + (if f n = v then 1 else 0) ≤ n + 1
    split <;> omega
/-- a step of width 1 by a rule; whether one at p was before n; whether k is the first at its place -/
def qm_nar (s : Nat → qS) (k : Nat) : Bool := decide (¬ (s k).1 = 0) && decide ((s k).2.2 = 1)
def qm_was (s : Nat → qS) (p : Nat) : Nat → Bool
  | 0 => false
  | n + 1 => qm_was s p n || (qm_nar s n && decide ((s n).2.1 = p))
def qm_fn (s : Nat → qS) (k : Nat) : Bool := qm_nar s k && !(qm_was s (s k).2.1 k)
def qm_wasF (s : Nat → qS) (p : Nat) : Nat → Bool
  | 0 => false
  | n + 1 => qm_wasF s p n || (qm_fn s n && decide ((s n).2.1 = p))
theorem qm_was_F (s : Nat → qS) (p : Nat) : ∀ n, qm_wasF s p n = qm_was s p n
  | 0 => rfl
  | n + 1 => by
    show (qm_wasF s p n || (qm_fn s n && decide ((s n).2.1 = p))) = (qm_was s p n || (qm_nar s n && decide ((s n).2.1 = p)))
    rw [qm_was_F s p n]
    by_cases e : (s n).2.1 = p
    · unfold qm_fn; rw [e]
      cases qm_was s p n <;> cases qm_nar s n <;> simp
    · simp [e]
theorem qm_was_congr {s t : Nat → qS} {p : Nat} : ∀ {n : Nat}, (∀ k, k < n → s k = t k) → qm_was s p n = qm_was t p n
  | 0, _ => rfl
  | n + 1, h => by
    show (qm_was s p n || (qm_nar s n && decide ((s n).2.1 = p))) = (qm_was t p n || (qm_nar t n && decide ((t n).2.1 = p)))
    unfold qm_nar
    rw [qm_was_congr (n := n) (fun k hk => h k (by omega)), h n (by omega)]
theorem qm_fn_congr {s t : Nat → qS} {k : Nat} (h : ∀ j, j ≤ k → s j = t j) : qm_fn s k = qm_fn t k := by
  unfold qm_fn qm_nar
  rw [h k (Nat.le_refl k), qm_was_congr (t := t) (fun j hj => h j (by omega))]
/-- the k-th first narrow place, from step i on, p passed so far -/
def qm_stk (s : Nat → qS) (k : Int32) : Nat → Nat → Nat → Int32
  | 0, _, _ => -1
  | f + 1, i, p => if qm_fn s i = true then (if nI p = k then nI (s i).2.1 else qm_stk s k f (i + 1) (p + 1)) else qm_stk s k f (i + 1) p
/-- the run's length behind n steps, and the longest -/
def qm_run (c : Nat → Nat) : Nat → Nat × Nat
  | 0 => (0, 0)
  | n + 1 => (if 0 < n ∧ c (n - 1) ≤ c n then (qm_run c n).1 + 1 else 1, if (qm_run c n).2 < (if 0 < n ∧ c (n - 1) ≤ c n then (qm_run c n).1 + 1 else 1) then (if 0 < n ∧ c (n - 1) ≤ c n then (qm_run c n).1 + 1 else 1) else (qm_run c n).2)
theorem qm_run_le (c : Nat → Nat) : ∀ n, (qm_run c n).1 ≤ n ∧ (qm_run c n).2 ≤ n
  | 0 => ⟨Nat.le_refl 0, Nat.le_refl 0⟩
  | n + 1 => by
    have a := qm_run_le c n
    have b : (if 0 < n ∧ c (n - 1) ≤ c n then (qm_run c n).1 + 1 else 1) ≤ n + 1 := by split <;> omega
    refine ⟨b, ?_⟩
    show (if (qm_run c n).2 < (if 0 < n ∧ c (n - 1) ≤ c n then (qm_run c n).1 + 1 else 1) then (if 0 < n ∧ c (n - 1) ≤ c n then (qm_run c n).1 + 1 else 1) else (qm_run c n).2) ≤ n + 1
    generalize (if 0 < n ∧ c (n - 1) ≤ c n then (qm_run c n).1 + 1 else 1) = q at b ⊢
    split <;> omega
theorem qm_run_congr {c d : Nat → Nat} : ∀ {n : Nat}, (∀ k, k < n → c k = d k) → qm_run c n = qm_run d n
  | 0, _ => rfl
  | n + 1, h => by
    have a := qm_run_congr (n := n) (fun k hk => h k (by omega))
    unfold qm_run
    rw [a, h n (by omega)]
    rcases Nat.eq_zero_or_pos n with q | q
    · subst q; simp
    · rw [h (n - 1) (by omega)]
/-- (the dearest rule, one up; what it costs, one up) of the first n rules; 0 for none -/
def qm_hd (u sp : Nat → Nat) : Nat → Nat × Nat
  | 0 => (0, 0)
  | n + 1 => if 0 < u n ∧ (qm_hd u sp n).2 < sp n + 1 then (n + 1, sp n + 1) else qm_hd u sp n
theorem qm_hd_le (u sp : Nat → Nat) {B : Nat} : ∀ n, (∀ k, k < n → sp k ≤ B) → (qm_hd u sp n).1 ≤ n ∧ (qm_hd u sp n).2 ≤ B + 1
  | 0, _ => ⟨Nat.le_refl 0, Nat.zero_le _⟩
  | n + 1, h => by
    have a := qm_hd_le u sp (B := B) n (fun k hk => h k (by omega))
    have b := h n (by omega)
    show (if 0 < u n ∧ (qm_hd u sp n).2 < sp n + 1 then (n + 1, sp n + 1) else qm_hd u sp n).1 ≤ n + 1 ∧ (if 0 < u n ∧ (qm_hd u sp n).2 < sp n + 1 then (n + 1, sp n + 1) else qm_hd u sp n).2 ≤ B + 1
    split
    · exact ⟨Nat.le_refl _, by omega⟩
    · exact ⟨by omega, a.2⟩
/-- classes of sums: the first that has v, from i on, i + fuel if none has it -/
def qm_cof (lo hi : Nat → Int64) (v : Int64) : Nat → Nat → Nat
  | 0, i => i
  | f + 1, i => if lo i ≤ v ∧ v ≤ hi i then i else qm_cof lo hi v f (i + 1)
theorem qm_cof_le (lo hi : Nat → Int64) (v : Int64) : ∀ f i, qm_cof lo hi v f i ≤ i + f
  | 0, i => Nat.le_refl _
  | f + 1, i => by
    have a := qm_cof_le lo hi v f (i + 1)
    show (if lo i ≤ v ∧ v ≤ hi i then i else qm_cof lo hi v f (i + 1)) ≤ i + (f + 1)
    split <;> omega
theorem qm_cof_in {lo hi : Nat → Int64} {v : Int64} : ∀ {f i : Nat}, qm_cof lo hi v f i < i + f → lo (qm_cof lo hi v f i) ≤ v ∧ v ≤ hi (qm_cof lo hi v f i)
  | 0, i, h => absurd h (Nat.lt_irrefl _)
  | f + 1, i, h => by
    by_cases q : lo i ≤ v ∧ v ≤ hi i
    · have e : qm_cof lo hi v (f + 1) i = i := if_pos q
      rw [e]; exact q
    · have e : qm_cof lo hi v (f + 1) i = qm_cof lo hi v f (i + 1) := if_neg q
      rw [e] at h ⊢
      exact qm_cof_in (by omega)
def qm_ans (n i : Nat) : Int32 := if i < n then nI i else -1
def qm_ovl (lo hi : Nat → Int64) (a b : Int64) : Nat → Nat → Bool
  | 0, _ => false
  | f + 1, i => if lo i ≤ b ∧ a ≤ hi i then true else qm_ovl lo hi a b f (i + 1)
def qm_bel (hi : Nat → Int64) (v : Int64) : Nat → Nat
  | 0 => 0
  | n + 1 => qm_bel hi v n + (if hi n < v then 1 else 0)
theorem qm_bel_le (hi : Nat → Int64) (v : Int64) : ∀ n, qm_bel hi v n ≤ n
  | 0 => Nat.le_refl 0
  | n + 1 => by
    have a := qm_bel_le hi v n
    show qm_bel hi v n + (if hi n < v then 1 else 0) ≤ n + 1
    split <;> omega
/-- how many of the first n classes reach v or beyond -/
def qm_up (hi : Nat → Int64) (v : Int64) : Nat → Nat
  | 0 => 0
  | n + 1 => qm_up hi v n + (if v ≤ hi n then 1 else 0)
theorem qm_up_le (hi : Nat → Int64) (v : Int64) : ∀ n, qm_up hi v n ≤ n
  | 0 => Nat.le_refl 0
  | n + 1 => by
    have a := qm_up_le hi v n
    show qm_up hi v n + (if v ≤ hi n then 1 else 0) ≤ n + 1
    split <;> omega
theorem qm_up_mono (hi : Nat → Int64) {v w : Int64} (h : v ≤ w) : ∀ n, qm_up hi w n ≤ qm_up hi v n
  | 0 => Nat.le_refl 0
  | n + 1 => by
    have a := qm_up_mono hi h n
    show qm_up hi w n + (if w ≤ hi n then 1 else 0) ≤ qm_up hi v n + (if v ≤ hi n then 1 else 0)
    by_cases q : w ≤ hi n
    · have q2 : v ≤ hi n := by rw [Int64.le_iff_toInt_le] at *; omega
      rw [if_pos q, if_pos q2]; omega
    · rw [if_neg q]; omega
theorem qm_up_lt (hi : Nat → Int64) {v w : Int64} (h : v ≤ w) {k : Nat} (h1 : v ≤ hi k) (h2 : ¬ w ≤ hi k) : ∀ n, k < n → qm_up hi w n < qm_up hi v n
  | 0, hk => absurd hk (Nat.not_lt_zero k)
  | n + 1, hk => by
    show qm_up hi w n + (if w ≤ hi n then 1 else 0) < qm_up hi v n + (if v ≤ hi n then 1 else 0)
    by_cases e : k = n
    · subst e
      have a := qm_up_mono hi h k
      rw [if_pos h1, if_neg h2]; omega
    · have a := qm_up_lt hi h h1 h2 n (by omega)
      by_cases q : w ≤ hi n
      · have q2 : v ≤ hi n := by rw [Int64.le_iff_toInt_le] at *; omega
        rw [if_pos q, if_pos q2]; omega
      · rw [if_neg q]; omega
/-- the least sum from v on that no class has, by at most f steps -/
def qm_gap (lo hi : Nat → Int64) (n : Nat) : Nat → Int64 → Int64
  | 0, v => v
  | f + 1, v => if qm_cof lo hi v n 0 < n then qm_gap lo hi n f (hi (qm_cof lo hi v n 0) + lN 1) else v
theorem qm_hd_yes {u sp : Nat → Nat} {n : Nat} (h : 0 < u n ∧ (qm_hd u sp n).2 < sp n + 1) : qm_hd u sp (n + 1) = (n + 1, sp n + 1) := if_pos h
theorem qm_hd_no {u sp : Nat → Nat} {n : Nat} (h : ¬ (0 < u n ∧ (qm_hd u sp n).2 < sp n + 1)) : qm_hd u sp (n + 1) = qm_hd u sp n := if_neg h
theorem qm_lnlt {a b : Int64} (h : ¬ a < b) : b ≤ a := by rw [Int64.lt_iff_toInt_lt] at h; rw [Int64.le_iff_toInt_le]; omega
theorem qm_lnle {a b : Int64} (h : ¬ a ≤ b) : b < a := by rw [Int64.le_iff_toInt_le] at h; rw [Int64.lt_iff_toInt_lt]; omega
theorem qm_lle_nlt {a b : Int64} (h : a ≤ b) : ¬ b < a := by rw [Int64.le_iff_toInt_le] at h; rw [Int64.lt_iff_toInt_lt]; omega
theorem qm_ans_ge {n i : Nat} (hn : n < 2 ^ 31) : 0 ≤ qm_ans n i ↔ i < n := by
  unfold qm_ans
  by_cases h : i < n
  · rw [if_pos h]; exact ⟨fun _ => h, fun _ => nI_pos' (by omega)⟩
  · rw [if_neg h]; exact ⟨fun q => absurd q (by decide), fun q => absurd q h⟩
theorem qm_ans_m1 {n i : Nat} (hn : n < 2 ^ 31) : qm_ans n i = -1 ↔ ¬ i < n := by
  unfold qm_ans
  by_cases h : i < n
  · rw [if_pos h]
    refine ⟨fun q => ?_, fun q => absurd h q⟩
    have e := congrArg Int32.toInt q
    rw [nI_toInt (by omega), show (-1 : Int32).toInt = -1 from by decide] at e
    omega
  · rw [if_neg h]; exact ⟨fun _ => h, fun _ => rfl⟩
theorem qm_cof_next {lo hi : Nat → Int64} {v : Int64} {n i : Nat} (h : i < n) (hn : ¬ (lo i ≤ v ∧ v ≤ hi i)) : qm_cof lo hi v (n - i) i = qm_cof lo hi v (n - (i + 1)) (i + 1) := by
  obtain ⟨d, hd⟩ : ∃ d, n - i = d + 1 := ⟨n - i - 1, by omega⟩
  rw [hd, show n - (i + 1) = d by omega]
  exact if_neg hn
theorem qm_cof_hit {lo hi : Nat → Int64} {v : Int64} {n i : Nat} (hq : qm_cof lo hi v n 0 = qm_cof lo hi v (n - i) i) (h : i < n) (h1 : lo i ≤ v) (h2 : v ≤ hi i) : qm_ans n (qm_cof lo hi v n 0) = nI i := by
  obtain ⟨d, hd⟩ : ∃ d, n - i = d + 1 := ⟨n - i - 1, by omega⟩
  rw [hd] at hq
  have e : qm_cof lo hi v (d + 1) i = i := if_pos ⟨h1, h2⟩
  rw [hq, e]; exact if_pos h
theorem qm_cof_end {lo hi : Nat → Int64} {v : Int64} {n i : Nat} (hq : qm_cof lo hi v n 0 = qm_cof lo hi v (n - i) i) (h : n ≤ i) (h2 : i ≤ n) : qm_ans n (qm_cof lo hi v n 0) = -1 := by
  rw [show n - i = 0 by omega] at hq
  have e : qm_cof lo hi v 0 i = i := rfl
  rw [hq, e]; exact if_neg (by omega)
theorem qm_gap_next {lo hi : Nat → Int64} {n t : Nat} {f : Int64} (h : t < n) (hc : qm_cof lo hi f n 0 < n) : qm_gap lo hi n (n - t) f = qm_gap lo hi n (n - (t + 1)) (hi (qm_cof lo hi f n 0) + lN 1) := by
  obtain ⟨d, hd⟩ : ∃ d, n - t = d + 1 := ⟨n - t - 1, by omega⟩
  rw [hd, show n - (t + 1) = d by omega]
  exact if_pos hc
theorem qm_gap_stop {lo hi : Nat → Int64} {n f : Nat} {v : Int64} (hc : ¬ qm_cof lo hi v n 0 < n) : qm_gap lo hi n f v = v := by
  cases f with
  | zero => rfl
  | succ d => exact if_neg hc
theorem qm_ovl_next {lo hi : Nat → Int64} {a b : Int64} {n i : Nat} (h : i < n) (hn : ¬ (lo i ≤ b ∧ a ≤ hi i)) : qm_ovl lo hi a b (n - i) i = qm_ovl lo hi a b (n - (i + 1)) (i + 1) := by
  obtain ⟨d, hd⟩ : ∃ d, n - i = d + 1 := ⟨n - i - 1, by omega⟩
  rw [hd, show n - (i + 1) = d by omega]
  exact if_neg hn
theorem qm_ovl_hit {lo hi : Nat → Int64} {a b : Int64} {n i : Nat} (hq : qm_ovl lo hi a b n 0 = qm_ovl lo hi a b (n - i) i) (h : i < n) (h1 : lo i ≤ b) (h2 : a ≤ hi i) : qm_ovl lo hi a b n 0 = true := by
  obtain ⟨d, hd⟩ : ∃ d, n - i = d + 1 := ⟨n - i - 1, by omega⟩
  rw [hd] at hq
  have e : qm_ovl lo hi a b (d + 1) i = true := if_pos ⟨h1, h2⟩
  rw [hq, e]
theorem qm_ovl_end {lo hi : Nat → Int64} {a b : Int64} {n i : Nat} (hq : qm_ovl lo hi a b n 0 = qm_ovl lo hi a b (n - i) i) (h : n ≤ i) : ¬ qm_ovl lo hi a b n 0 = true := by
  rw [show n - i = 0 by omega] at hq
  rw [hq]; exact Bool.false_ne_true
/-- a step's place and width as the class holds them; its code -/
def qm_pl (z : qS) : Nat := if z.1 = 0 then 0 else z.2.1
def qm_wd (z : qS) : Nat := if z.1 = 0 then z.2.1 else z.2.2
def qm_code (x y z : Int32) : Int32 := (x * nI 256 + y) * nI 32 + z
theorem qm_fn_pl {s : Nat → qS} {i : Nat} (h : qm_fn s i = true) : qm_pl (s i) = (s i).2.1 := by
  unfold qm_fn qm_nar at h
  unfold qm_pl
  by_cases e : (s i).1 = 0
  · simp [e] at h
  · rw [if_neg e]
theorem qm_wasF_no {s : Nat → qS} {p i : Nat} (hq : qm_wasF s p i = false) (h : ¬ (qm_fn s i = true ∧ (qm_fn s i = true → qm_pl (s i) = p))) : qm_wasF s p (i + 1) = false := by
  show (qm_wasF s p i || (qm_fn s i && decide ((s i).2.1 = p))) = false
  rw [hq, Bool.false_or]
  by_cases e : qm_fn s i = true
  · have e2 : ¬ (s i).2.1 = p := fun q => h ⟨e, fun _ => by rw [qm_fn_pl e]; exact q⟩
    simp [e2]
  · rw [Bool.not_eq_true] at e
    rw [e, Bool.false_and]
theorem qm_wasF_yes {s : Nat → qS} {p : Nat} : ∀ {n i : Nat}, i < n → qm_fn s i = true → qm_pl (s i) = p → qm_wasF s p n = true
  | 0, i, h, _, _ => absurd h (Nat.not_lt_zero i)
  | n + 1, i, h, h1, h2 => by
    show (qm_wasF s p n || (qm_fn s n && decide ((s n).2.1 = p))) = true
    by_cases e : i = n
    · subst e
      rw [qm_fn_pl h1] at h2
      rw [h1, h2]; simp
    · rw [qm_wasF_yes (n := n) (i := i) (by omega) h1 h2, Bool.true_or]
theorem qm_stk_pass {s : Nat → qS} {k : Int32} {n i a : Nat} (h : i < n) (h1 : qm_fn s i = true) (h2 : ¬ nI a = k) : qm_stk s k (n - i) i a = qm_stk s k (n - (i + 1)) (i + 1) (a + 1) := by
  obtain ⟨d, hd⟩ : ∃ d, n - i = d + 1 := ⟨n - i - 1, by omega⟩
  rw [hd, show n - (i + 1) = d by omega]
  show (if qm_fn s i = true then (if nI a = k then nI (s i).2.1 else qm_stk s k d (i + 1) (a + 1)) else qm_stk s k d (i + 1) a) = _
  rw [if_pos h1, if_neg h2]
theorem qm_stk_no {s : Nat → qS} {k : Int32} {n i a : Nat} (h : i < n) (h1 : ¬ qm_fn s i = true) : qm_stk s k (n - i) i a = qm_stk s k (n - (i + 1)) (i + 1) a := by
  obtain ⟨d, hd⟩ : ∃ d, n - i = d + 1 := ⟨n - i - 1, by omega⟩
  rw [hd, show n - (i + 1) = d by omega]
  show (if qm_fn s i = true then (if nI a = k then nI (s i).2.1 else qm_stk s k d (i + 1) (a + 1)) else qm_stk s k d (i + 1) a) = _
  rw [if_neg h1]
theorem qm_stk_hit {s : Nat → qS} {k : Int32} {n i a : Nat} (h : i < n) (h1 : qm_fn s i = true) (h2 : nI a = k) : qm_stk s k (n - i) i a = nI (qm_pl (s i)) := by
  obtain ⟨d, hd⟩ : ∃ d, n - i = d + 1 := ⟨n - i - 1, by omega⟩
  rw [hd, qm_fn_pl h1]
  show (if qm_fn s i = true then (if nI a = k then nI (s i).2.1 else qm_stk s k d (i + 1) (a + 1)) else qm_stk s k d (i + 1) a) = _
  rw [if_pos h1, if_pos h2]
theorem qm_run_up {c : Nat → Nat} {i le lo : Nat} (hq : qm_run c i = (le, lo)) (h : 0 < i ∧ c (i - 1) ≤ c i) : qm_run c (i + 1) = (le + 1, if lo < le + 1 then le + 1 else lo) := by
  show (if 0 < i ∧ c (i - 1) ≤ c i then (qm_run c i).1 + 1 else 1, if (qm_run c i).2 < (if 0 < i ∧ c (i - 1) ≤ c i then (qm_run c i).1 + 1 else 1) then (if 0 < i ∧ c (i - 1) ≤ c i then (qm_run c i).1 + 1 else 1) else (qm_run c i).2) = _
  rw [if_pos h, hq]
theorem qm_run_new {c : Nat → Nat} {i le lo : Nat} (hq : qm_run c i = (le, lo)) (h : ¬ (0 < i ∧ c (i - 1) ≤ c i)) : qm_run c (i + 1) = (1, if lo < 1 then 1 else lo) := by
  show (if 0 < i ∧ c (i - 1) ≤ c i then (qm_run c i).1 + 1 else 1, if (qm_run c i).2 < (if 0 < i ∧ c (i - 1) ≤ c i then (qm_run c i).1 + 1 else 1) then (if 0 < i ∧ c (i - 1) ≤ c i then (qm_run c i).1 + 1 else 1) else (qm_run c i).2) = _
  rw [if_neg h, hq]
theorem nI_max {a b : Nat} (ha : a < 2 ^ 31) (hb : b < 2 ^ 31) : (if nI a < nI b then nI b else nI a) = nI (if a < b then b else a) := by
  by_cases h : a < b
  · rw [if_pos h, if_pos ((nI_ltI ha hb).mpr h)]
  · rw [if_neg h, if_neg (fun q => h ((nI_ltI ha hb).mp q))]
theorem nI_min {a b : Nat} (ha : a < 2 ^ 31) (hb : b < 2 ^ 31) : (if nI b < nI a then nI b else nI a) = nI (if b < a then b else a) := by
  by_cases h : b < a
  · rw [if_pos h, if_pos ((nI_ltI hb ha).mpr h)]
  · rw [if_neg h, if_neg (fun q => h ((nI_ltI hb ha).mp q))]
theorem qm_cnt_s0 {s : Nat → qS} {j v : Nat} (h1 : qm_cnt (qm_rs s) j v = 0) (h2 : ¬ (s j).1 = v) : qm_cnt (qm_rs s) (j + 1) v = 0 := by
  show qm_cnt (qm_rs s) j v + (if (s j).1 = v then 1 else 0) = 0
  rw [if_neg h2, h1]
theorem qm_cnt_s1 {s : Nat → qS} {j v : Nat} (h : (¬ qm_cnt (qm_rs s) j v = 0) ∨ (s j).1 = v) : ¬ qm_cnt (qm_rs s) (j + 1) v = 0 := by
  show ¬ qm_cnt (qm_rs s) j v + (if (s j).1 = v then 1 else 0) = 0
  rcases h with h | h
  · omega
  · rw [if_pos h]; omega
theorem qm_cnt_hit {s : Nat → qS} {j a : Nat} {t0 : qS} (hq : qm_cnt s j t0 = a) (e : s j = t0) : qm_cnt s (j + 1) t0 = a + 1 := by
  show qm_cnt s j t0 + (if s j = t0 then 1 else 0) = a + 1
  rw [if_pos e, hq]
theorem qm_cnt_miss {s : Nat → qS} {j a : Nat} {t0 : qS} (hq : qm_cnt s j t0 = a) (e : ¬ s j = t0) : qm_cnt s (j + 1) t0 = a := by
  show qm_cnt s j t0 + (if s j = t0 then 1 else 0) = a
  rw [if_neg e, hq]; rfl
theorem qm_same3 {z t : qS} (h1 : z.1 = t.1) (h2 : z.2.1 = t.2.1) (h3 : z.2.2 = t.2.2) : z = t := by
  obtain ⟨a, b, c⟩ := z
  obtain ⟨d, e, f⟩ := t
  simp only at h1 h2 h3
  rw [h1, h2, h3]
theorem qm_stk_neg {s : Nat → qS} {k : Int32} (hk : k < 0) {n : Nat} : ∀ {f i p : Nat}, i + f ≤ n → p ≤ i → n ≤ 200 → qm_stk s k f i p = -1
  | 0, _, _, _, _, _ => rfl
  | f + 1, i, p, h, hp, hn => by
    show (if qm_fn s i = true then (if nI p = k then nI (s i).2.1 else qm_stk s k f (i + 1) (p + 1)) else qm_stk s k f (i + 1) p) = -1
    have e : ¬ nI p = k := fun q => by rw [← q] at hk; exact nI_pos (by omega) hk
    rw [if_neg e, qm_stk_neg (f := f) hk (by omega) (by omega) hn, qm_stk_neg (f := f) hk (by omega) (by omega) hn]
    split <;> rfl
