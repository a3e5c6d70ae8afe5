/-! LEMMAS of the class's state -/
def qm_cd (z : qS) : Int32 := qm_code (nM z.1) (nI (qm_pl z)) (nI (qm_wd z))
/-- the rules' part, the steps' part -/
def qX_R (nr : Nat) (w x : Nat → Nat) (s : Nat → qS) (n : Nat) (fw fx fu : Nat → Int32) (fs : Nat → Int64) : Prop := (∀ i, i < nr → fw i = nI (w i) ∧ fx i = nI (x i)) ∧ ∀ i, i < 40 → fu i = nI (qm_cnt (qm_rs s) n (i + 1)) ∧ fs i = lN (qm_sp s (qm_cost w x s) i n)
def qX_S (c : Nat → Nat) (s : Nat → qS) (n : Nat) (fr fp fd fc ff : Nat → Int32) (ft : Nat → Int64) (f1 f2 : Nat → Int32) : Prop :=
  (∀ j, j < n → fr j = nM (s j).1 ∧ fp j = nI (qm_pl (s j)) ∧ fd j = nI (qm_wd (s j)) ∧ fc j = nI (c j) ∧ ff j = if qm_fn s j = true then nI 1 else nI 0) ∧ (∀ j, j ≤ n → ft j = lN (qm_sum c j)) ∧ qm_of f1 (fun j => nI (c j)) n ∧ qm_of f2 (fun j => qm_cd (s j)) n
theorem qm_pl_le {nr : Nat} {z : qS} (h : qm_okS nr z) : qm_pl z ≤ 255 := by
  unfold qm_pl
  rcases h with h | h <;> split <;> omega
theorem qm_cost_old {nr : Nat} {w x : Nat → Nat} {s : Nat → qS} {n j : Nat} {t : qS} (ho : ∀ j, j < n → qm_okS nr (s j)) (hj : j < n) : qm_cost w x (qu s n t) j = qm_cost w x s j :=
  qm_cost_congr (ho j hj) (fun _ _ => ⟨rfl, rfl⟩) (fun i hi => qu_n _ _ (by omega))
theorem qm_cost_new1 {w x : Nat → Nat} {s : Nat → qS} {n r p b pr : Nat} (h : pr = w r * (12 - b) / 4 + (if qm_cnt (qm_rs s) n (r + 1) = 0 then x r else 0)) : qm_cost w x (qu s n (r + 1, p, b)) n = pr := by
  unfold qm_cost
  rw [qu_s, if_neg (Nat.succ_ne_zero r), h]
  have e : qm_cnt (qm_rs (qu s n (r + 1, p, b))) n (r + 1) = qm_cnt (qm_rs s) n (r + 1) := qm_cnt_congr (fun k hk => by unfold qm_rs; rw [qu_n _ _ (by omega)])
  show w (r + 1 - 1) * (12 - b) / 4 + (if qm_cnt (qm_rs (qu s n (r + 1, p, b))) n (r + 1) = 0 then x (r + 1 - 1) else 0) = _
  rw [e, Nat.add_sub_cancel]
theorem qm_cost_new0 {w x : Nat → Nat} {s : Nat → qS} {n d pr : Nat} (h : pr = if 0 < n ∧ (s (n - 1)).1 = 0 then 2000 * d else 1000 * d) : qm_cost w x (qu s n (0, d, 0)) n = pr := by
  unfold qm_cost
  rw [qu_s, if_pos rfl, h]
  show (if 0 < n ∧ (qu s n (0, d, 0) (n - 1)).1 = 0 then 2000 * d else 1000 * d) = _
  rcases Nat.eq_zero_or_pos n with q | q
  · rw [if_neg (by omega), if_neg (by omega)]
  · rw [qu_n _ _ (show ¬ n - 1 = n by omega)]
theorem qX_pushS {nr : Nat} {w x : Nat → Nat} {s : Nat → qS} {n : Nat} {t : qS} {fr fp fd fc ff f1 f2 u1 u2 : Nat → Int32} {ft : Nat → Int64} {pr pl wd : Nat} {bv : Int32} (ho : ∀ j, j < n → qm_okS nr (s j)) (hS : qX_S (qm_cost w x s) s n fr fp fd fc ff ft f1 f2) (hpr : qm_cost w x (qu s n t) n = pr) (hpl : qm_pl t = pl) (hwd : qm_wd t = wd)
    (hbv : bv = if ¬ t.1 = 0 ∧ wd = 1 ∧ ¬ qm_wasF s pl n = true then nI 1 else nI 0) (h1 : qm_ins f1 n (nI pr) u1) (h2 : qm_ins f2 n (qm_code (nM t.1) (nI pl) (nI wd)) u2) :
    qX_S (qm_cost w x (qu s n t)) (qu s n t) (n + 1) (upd fr n (nM t.1)) (upd fp n (nI pl)) (upd fd n (nI wd)) (upd fc n (nI pr)) (upd ff n bv) (vp_updL ft (n + 1) (lN (qm_sum (qm_cost w x s) n + pr))) u1 u2 := by
  obtain ⟨hst, htt, ho1, ho2⟩ := hS
  have hc : ∀ j, j < n → qm_cost w x (qu s n t) j = qm_cost w x s j := fun j hj => qm_cost_old ho hj
  have hs : ∀ j, j < n → qu s n t j = s j := fun j hj => qu_n _ _ (by omega)
  refine ⟨fun j hj => ?_, fun j hj => ?_, ?_, ?_⟩
  · by_cases e : j = n
    · rw [e, pk_us, pk_us, pk_us, pk_us, pk_us, qu_s, hpl, hwd, hpr]
      refine ⟨rfl, rfl, rfl, rfl, ?_⟩
      rw [hbv]
      have hfn : (qm_fn (qu s n t) n = true) ↔ (¬ t.1 = 0 ∧ wd = 1 ∧ ¬ qm_wasF s pl n = true) := by
        unfold qm_fn qm_nar
        rw [qu_s, qm_was_congr (t := s) hs, qm_was_F]
        by_cases e0 : t.1 = 0
        · simp [e0]
        · have e1 : t.2.1 = pl := by rw [← hpl]; unfold qm_pl; rw [if_neg e0]
          have e2 : t.2.2 = wd := by rw [← hwd]; unfold qm_wd; rw [if_neg e0]
          rw [e1, e2]; simp [e0]
      by_cases q : ¬ t.1 = 0 ∧ wd = 1 ∧ ¬ qm_wasF s pl n = true
      · rw [if_pos q, if_pos (hfn.mpr q)]
      · rw [if_neg q, if_neg (fun z => q (hfn.mp z))]
    · rw [pk_un e, pk_un e, pk_un e, pk_un e, pk_un e, hs j (by omega), hc j (by omega), qm_fn_congr (t := s) (fun i hi => hs i (by omega))]
      exact hst j (by omega)
  · by_cases e : j = n + 1
    · rw [e, pk_uLs]
      show _ = lN (qm_sum (qm_cost w x (qu s n t)) n + qm_cost w x (qu s n t) n)
      rw [hpr, qm_sum_congr hc]
    · rw [pk_uLn e, htt j (by omega), qm_sum_congr (fun k hk => hc k (by omega))]
  · refine qm_of_ins (g := fun j => nI (qm_cost w x (qu s n t) j)) (qm_of_congr ho1 (fun j hj => by show nI _ = nI _; rw [hc j hj])) ?_
    show qm_ins f1 n (nI (qm_cost w x (qu s n t) n)) u1
    rw [hpr]; exact h1
  · refine qm_of_ins (g := fun j => qm_cd (qu s n t j)) (qm_of_congr ho2 (fun j hj => by show qm_cd _ = qm_cd _; rw [hs j hj])) ?_
    show qm_ins f2 n (qm_cd (qu s n t n)) u2
    rw [qu_s]; unfold qm_cd; rw [hpl, hwd]; exact h2
theorem qm_cnt_push {s : Nat → qS} {n v : Nat} {t : qS} : qm_cnt (qm_rs (qu s n t)) (n + 1) v = qm_cnt (qm_rs s) n v + (if t.1 = v then 1 else 0) := by
  show qm_cnt (qm_rs (qu s n t)) n v + (if (qu s n t n).1 = v then 1 else 0) = _
  rw [qu_s, qm_cnt_congr (g := qm_rs s) (fun k hk => by unfold qm_rs; rw [qu_n _ _ (by omega)])]
theorem qm_sp_push {nr : Nat} {w x : Nat → Nat} {s : Nat → qS} {n r pr : Nat} {t : qS} (ho : ∀ j, j < n → qm_okS nr (s j)) (hpr : qm_cost w x (qu s n t) n = pr) : qm_sp (qu s n t) (qm_cost w x (qu s n t)) r (n + 1) = qm_sp s (qm_cost w x s) r n + (if t.1 = r + 1 then pr else 0) := by
  show qm_sp (qu s n t) (qm_cost w x (qu s n t)) r n + (if (qu s n t n).1 = r + 1 then qm_cost w x (qu s n t) n else 0) = _
  rw [qu_s, hpr, qm_sp_congr (t := s) (d := qm_cost w x s) (fun k hk => ⟨qm_cost_old ho hk, qu_n _ _ (by omega)⟩)]
theorem qX_pushR {nr : Nat} {w x : Nat → Nat} {s : Nat → qS} {n r pr : Nat} {t : qS} {fw fx fu : Nat → Int32} {fs : Nat → Int64} (ho : ∀ j, j < n → qm_okS nr (s j)) (hX : qX_R nr w x s n fw fx fu fs) (ht : t.1 = r + 1) (hpr : qm_cost w x (qu s n t) n = pr) :
    qX_R nr w x (qu s n t) (n + 1) fw fx (upd fu r (nI (qm_cnt (qm_rs s) n (r + 1) + 1))) (vp_updL fs r (lN (qm_sp s (qm_cost w x s) r n + pr))) := by
  refine ⟨hX.1, fun i hi => ?_⟩
  rw [qm_cnt_push, qm_sp_push ho hpr, ht]
  by_cases e : i = r
  · rw [e, pk_us, pk_uLs, if_pos rfl, if_pos rfl]; exact ⟨rfl, rfl⟩
  · rw [pk_un e, pk_uLn e, if_neg (by omega), if_neg (by omega)]
    exact hX.2 i hi
theorem qX_pushR0 {nr : Nat} {w x : Nat → Nat} {s : Nat → qS} {n pr : Nat} {t : qS} {fw fx fu : Nat → Int32} {fs : Nat → Int64} (ho : ∀ j, j < n → qm_okS nr (s j)) (hX : qX_R nr w x s n fw fx fu fs) (ht : t.1 = 0) (hpr : qm_cost w x (qu s n t) n = pr) :
    qX_R nr w x (qu s n t) (n + 1) fw fx fu fs := by
  refine ⟨hX.1, fun i hi => ?_⟩
  rw [qm_cnt_push, qm_sp_push ho hpr, ht, if_neg (by omega), if_neg (by omega)]
  exact hX.2 i hi
theorem qX_popS {c : Nat → Nat} {s : Nat → qS} {n : Nat} {fr fp fd fc ff f1 f2 u1 u2 : Nat → Int32} {ft : Nat → Int64} (hS : qX_S c s (n + 1) fr fp fd fc ff ft f1 f2) (h1 : qm_del f1 n (nI (c n)) u1) (h2 : qm_del f2 n (qm_cd (s n)) u2) : qX_S c s n fr fp fd fc ff ft u1 u2 :=
  ⟨fun j hj => hS.1 j (by omega), fun j hj => hS.2.1 j (by omega), qm_of_del (g := fun j => nI (c j)) hS.2.2.1 h1, qm_of_del (g := fun j => qm_cd (s j)) hS.2.2.2 h2⟩
theorem qX_popR {nr : Nat} {w x : Nat → Nat} {s : Nat → qS} {n r : Nat} {fw fx fu : Nat → Int32} {fs : Nat → Int64} (hX : qX_R nr w x s (n + 1) fw fx fu fs) (ht : (s n).1 = r + 1) :
    qX_R nr w x s n fw fx (upd fu r (nI (qm_cnt (qm_rs s) n (r + 1)))) (vp_updL fs r (lN (qm_sp s (qm_cost w x s) r n))) := by
  refine ⟨hX.1, fun i hi => ?_⟩
  have a := hX.2 i hi
  by_cases e : i = r
  · rw [e, pk_us, pk_uLs]; exact ⟨rfl, rfl⟩
  · rw [pk_un e, pk_uLn e]
    have e1 : qm_cnt (qm_rs s) (n + 1) (i + 1) = qm_cnt (qm_rs s) n (i + 1) := by show _ + (if (s n).1 = i + 1 then 1 else 0) = _; rw [if_neg (by omega)]; rfl
    have e2 : qm_sp s (qm_cost w x s) i (n + 1) = qm_sp s (qm_cost w x s) i n := by show _ + (if (s n).1 = i + 1 then _ else 0) = _; rw [if_neg (by omega)]; rfl
    rw [← e1, ← e2]; exact a
theorem qX_popR0 {nr : Nat} {w x : Nat → Nat} {s : Nat → qS} {n : Nat} {fw fx fu : Nat → Int32} {fs : Nat → Int64} (hX : qX_R nr w x s (n + 1) fw fx fu fs) (ht : (s n).1 = 0) : qX_R nr w x s n fw fx fu fs := by
  refine ⟨hX.1, fun i hi => ?_⟩
  have a := hX.2 i hi
  have e1 : qm_cnt (qm_rs s) (n + 1) (i + 1) = qm_cnt (qm_rs s) n (i + 1) := by show _ + (if (s n).1 = i + 1 then 1 else 0) = _; rw [if_neg (by omega)]; rfl
  have e2 : qm_sp s (qm_cost w x s) i (n + 1) = qm_sp s (qm_cost w x s) i n := by show _ + (if (s n).1 = i + 1 then _ else 0) = _; rw [if_neg (by omega)]; rfl
  rw [← e1, ← e2]; exact a
theorem qX_ruleC {nr : Nat} {w x : Nat → Nat} {s : Nat → qS} {j a b : Nat} (hs : qm_okS nr (s j)) : qm_cost (qu w nr a) (qu x nr b) s j = qm_cost w x s j :=
  qm_cost_congr hs (fun i hi => ⟨qu_n _ _ (by omega), qu_n _ _ (by omega)⟩) (fun _ _ => rfl)
theorem qX_rule {nr : Nat} {w x : Nat → Nat} {s : Nat → qS} {n a1 b1 : Nat} {a b : Int32} {fw fx fu : Nat → Int32} {fs : Nat → Int64} (ho : ∀ j, j < n → qm_okS nr (s j)) (hX : qX_R nr w x s n fw fx fu fs) (ea : a = nI a1) (eb : b = nI b1) (ha : a1 < 2 ^ 31) (hb : b1 < 2 ^ 31) :
    qX_R (nr + 1) (qu w nr a.toNatClampNeg) (qu x nr b.toNatClampNeg) s n (upd fw nr a) (upd fx nr b) fu fs := by
  subst ea; subst eb
  rw [nI_clamp ha, nI_clamp hb]
  refine ⟨fun i hi => qm_two hX.1 hi, fun i hi => ?_⟩
  rw [qm_sp_congr (t := s) (d := qm_cost w x s) (fun k hk => ⟨qX_ruleC (ho k hk), rfl⟩)]
  exact hX.2 i hi
theorem qX_ruleS {nr : Nat} {w x : Nat → Nat} {s : Nat → qS} {n a b : Nat} {fr fp fd fc ff f1 f2 : Nat → Int32} {ft : Nat → Int64} (ho : ∀ j, j < n → qm_okS nr (s j)) (hS : qX_S (qm_cost w x s) s n fr fp fd fc ff ft f1 f2) : qX_S (qm_cost (qu w nr a) (qu x nr b) s) s n fr fp fd fc ff ft f1 f2 := by
  have hc : ∀ j, j < n → qm_cost (qu w nr a) (qu x nr b) s j = qm_cost w x s j := fun j hj => qX_ruleC (ho j hj)
  refine ⟨fun j hj => ?_, fun j hj => ?_, qm_of_congr hS.2.2.1 (fun j hj => by show nI _ = nI _; rw [hc j hj]), hS.2.2.2⟩
  · rw [hc j hj]; exact hS.1 j hj
  · rw [hS.2.1 j hj, qm_sum_congr (fun k hk => (hc k (by omega)).symm)]
