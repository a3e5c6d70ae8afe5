/-! LEMMAS of a new object, of copies, of kept rows -/
theorem qm_cpy {f g : Nat → Int32} {n j : Nat} (hn : n < 2 ^ 31) (hj : j < n) : va_cpy f g (nI 0).toNatClampNeg (nI 0).toNatClampNeg (nI n).toNatClampNeg j = f j := by
  rw [nI_clamp (show 0 < 2 ^ 31 by omega), nI_clamp hn, pk_cpy_in (Nat.zero_le j) (by omega), Nat.zero_add, Nat.sub_zero]
theorem qX_R0 {s : Nat → qS} : qX_R 0 (fun _ => 0) (fun _ => 0) s 0 (fun _ => 0) (fun _ => 0) (fun _ => 0) (fun _ => 0) := ⟨fun i hi => absurd hi (Nat.not_lt_zero i), fun i _ => ⟨rfl, rfl⟩⟩
theorem qX_S0 {c : Nat → Nat} {s : Nat → qS} : qX_S c s 0 (fun _ => 0) (fun _ => 0) (fun _ => 0) (fun _ => 0) (fun _ => 0) (fun _ => 0) (fun _ => 0) (fun _ => 0) :=
  ⟨fun j hj => absurd hj (Nat.not_lt_zero j), fun j hj => by rw [show j = 0 by omega]; rfl, ⟨qm_srt_0 _, fun _ => rfl⟩, ⟨qm_srt_0 _, fun _ => rfl⟩⟩
/-- counts of small numbers, as Int32 and as Nat -/
theorem qm_cnt_nI {c : Nat → Nat} {n v : Nat} (hc : ∀ j, j < n → c j ≤ 130000) (hv : v < 2 ^ 31) : qm_cnt c n v = qm_cnt (fun j => nI (c j)) n (nI v) :=
  qm_cnt_map (fun k hk => ⟨fun h => by rw [h], fun h => (nI_eq (by have := hc k hk; omega) hv).mp h⟩)
theorem qm_cnt_big {c : Nat → Nat} {n v : Nat} (hc : ∀ j, j < n → c j ≤ 130000) (hv : ¬ v < 2 ^ 31) : qm_cnt c n v = 0 :=
  qm_cnt_zero (fun k hk h => by have := hc k hk; omega)
theorem qm_ord_nat {f g : Nat → Int32} {c d : Nat → Nat} {n : Nat} {r : Int32} (hc : ∀ j, j < n → c j ≤ 130000) (hd : ∀ j, j < n → d j ≤ 130000) (hf : ∀ v, qm_cnt f n v = qm_cnt (fun j => nI (c j)) n v) (hg : ∀ v, qm_cnt g n v = qm_cnt (fun j => nI (d j)) n v)
    (h : qm_ord (fun a b : Int32 => a < b) (qm_cnt f n) (qm_cnt g n) r) : qm_ord (fun a b : Nat => a < b) (qm_cnt c n) (qm_cnt d n) r := by
  have key : ∀ v : Nat, v < 2 ^ 31 → qm_cnt f n (nI v) = qm_cnt g n (nI v) → qm_cnt c n v = qm_cnt d n v := fun v hv e => by
    rw [qm_cnt_nI hc hv, qm_cnt_nI hd hv, ← hf, ← hg]; exact e
  rcases h with ⟨e, h⟩ | ⟨e, v, h, hv⟩ | ⟨e, v, h, hv⟩
  · refine Or.inl ⟨e, fun v => ?_⟩
    by_cases q : v < 2 ^ 31
    · exact key v q (h _)
    · rw [qm_cnt_big hc q, qm_cnt_big hd q]
  · have p : 0 < qm_cnt (fun j => nI (c j)) n v := by rw [← hf]; omega
    obtain ⟨k, hk, ek⟩ := qm_cnt_pos p
    have bk := hc k hk
    subst ek
    refine Or.inr (Or.inl ⟨e, c k, fun u hu => ?_, ?_⟩)
    · by_cases q : u < 2 ^ 31
      · exact key u q (h _ (nI_lt hu q))
      · rw [qm_cnt_big hc q, qm_cnt_big hd q]
    · rw [qm_cnt_nI hc (by omega), qm_cnt_nI hd (by omega), ← hf, ← hg]; exact hv
  · have p : 0 < qm_cnt (fun j => nI (d j)) n v := by rw [← hg]; omega
    obtain ⟨k, hk, ek⟩ := qm_cnt_pos p
    have bk := hd k hk
    subst ek
    refine Or.inr (Or.inr ⟨e, d k, fun u hu => ?_, ?_⟩)
    · by_cases q : u < 2 ^ 31
      · exact key u q (h _ (nI_lt hu q))
      · rw [qm_cnt_big hc q, qm_cnt_big hd q]
    · rw [qm_cnt_nI hc (by omega), qm_cnt_nI hd (by omega), ← hf, ← hg]; exact hv
/-- one code for each step -/
theorem qm_cd_g (w : Nat) (h : w ≤ 20) : (qm_code (nM 0) (nI 0) (nI w)).toInt = (w : Int) - 8192 := by
  have q : ∀ w, w < 21 → (qm_code (nM 0) (nI 0) (nI w)).toInt = (w : Int) - 8192 := by decide
  exact q w (by omega)
theorem qm_cd_r (r p w : Nat) : qm_code (nM (r + 1)) (nI p) (nI w) = nI ((r * 256 + p) * 32 + w) := by
  unfold qm_code; rw [nM_s, pk_mul, nI_add, pk_mul, nI_add]
theorem qm_cd_inj {nr : Nat} (hn : nr ≤ 40) {z t : qS} (hz : qm_okS nr z) (ht : qm_okS nr t) (h : qm_cd z = qm_cd t) : z = t := by
  unfold qm_cd qm_pl qm_wd at h
  rcases hz with a | a <;> rcases ht with b | b
  · rw [if_pos a.1, if_pos a.1, if_pos b.1, if_pos b.1, a.1, b.1] at h
    have e := congrArg Int32.toInt h
    rw [qm_cd_g _ (by omega), qm_cd_g _ (by omega)] at e
    exact qm_same3 (by omega) (by omega) (by omega)
  · obtain ⟨r, hr⟩ : ∃ r, t.1 = r + 1 := ⟨t.1 - 1, by omega⟩
    rw [if_pos a.1, if_pos a.1, if_neg (by omega), if_neg (by omega), a.1, hr, qm_cd_r] at h
    have e := congrArg Int32.toInt h
    rw [qm_cd_g _ (by omega), nI_toInt (by omega)] at e
    omega
  · obtain ⟨r, hr⟩ : ∃ r, z.1 = r + 1 := ⟨z.1 - 1, by omega⟩
    rw [if_neg (by omega), if_neg (by omega), if_pos b.1, if_pos b.1, b.1, hr, qm_cd_r] at h
    have e := congrArg Int32.toInt h
    rw [qm_cd_g _ (by omega), nI_toInt (by omega)] at e
    omega
  · obtain ⟨r, hr⟩ : ∃ r, z.1 = r + 1 := ⟨z.1 - 1, by omega⟩
    obtain ⟨q, hq⟩ : ∃ q, t.1 = q + 1 := ⟨t.1 - 1, by omega⟩
    rw [if_neg (by omega), if_neg (by omega), if_neg (by omega), if_neg (by omega), hr, hq, qm_cd_r, qm_cd_r, nI_eq (by omega) (by omega)] at h
    exact qm_same3 (by omega) (by omega) (by omega)
theorem qm_cnt_cd {nr : Nat} (hn : nr ≤ 40) {s : Nat → qS} {n : Nat} {z : qS} (hs : ∀ j, j < n → qm_okS nr (s j)) (hz : qm_okS nr z) : qm_cnt s n z = qm_cnt (fun j => qm_cd (s j)) n (qm_cd z) :=
  qm_cnt_map (fun k hk => ⟨fun h => by rw [h], fun h => qm_cd_inj hn (hs k hk) hz h⟩)
theorem qm_same_cd {nr : Nat} (hn : nr ≤ 40) {s t : Nat → qS} {n : Nat} (hs : ∀ j, j < n → qm_okS nr (s j)) (ht : ∀ j, j < n → qm_okS nr (t j)) : (∀ v, qm_cnt (fun j => qm_cd (s j)) n v = qm_cnt (fun j => qm_cd (t j)) n v) ↔ ∀ z, qm_cnt t n z = qm_cnt s n z := by
  refine ⟨fun h z => ?_, fun h v => ?_⟩
  · by_cases q : qm_okS nr z
    · rw [qm_cnt_cd hn hs q, qm_cnt_cd hn ht q, h]
    · rw [qm_cnt_zero (fun k hk e => q (by rw [← e]; exact ht k hk)), qm_cnt_zero (fun k hk e => q (by rw [← e]; exact hs k hk))]
  · by_cases q : ∃ z, qm_okS nr z ∧ qm_cd z = v
    · obtain ⟨z, hz, e⟩ := q
      rw [← e, ← qm_cnt_cd hn hs hz, ← qm_cnt_cd hn ht hz, h]
    · rw [qm_cnt_zero (fun k hk e => q ⟨_, hs k hk, e⟩), qm_cnt_zero (fun k hk e => q ⟨_, ht k hk, e⟩)]
