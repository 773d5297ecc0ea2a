/-! lines: drop, double, exchange, a row in front, a part changed -/
theorem fd_i {m : Nat} : ∀ {k r K : Nat} {τ : xb_St}, (f_drop m k τ).1 K r = if K = 25 ∧ k ≤ r ∧ r < k + m then τ.1 25 (r + 1) else τ.1 K r := by
  induction m with
  | zero => intro k r K τ; rw [if_neg (by omega)]; rfl
  | succ m ih =>
    intro k r K τ
    unfold f_drop
    rw [ih, qc_i, qc_i]
    by_cases h25 : K = 25
    · subst h25
      rw [if_pos rfl, if_pos rfl]
      by_cases h1 : r = k
      · subst h1
        rw [if_neg (by omega), if_pos rfl, if_pos (by omega)]
      · rw [if_neg h1]
        by_cases h2 : k ≤ r ∧ r < k + (m + 1)
        · rw [if_pos (by omega), if_neg (by omega), if_pos (by omega)]
        · rw [if_neg (by omega), if_neg (by omega)]
    · rw [if_neg (by omega), if_neg h25, if_neg (by omega)]
theorem fd_27 {m : Nat} : ∀ {k r : Nat} {τ : xb_St}, (f_drop m k τ).2 27 r = if k ≤ r ∧ r < k + m then τ.2 27 (r + 1) else τ.2 27 r := by
  induction m with
  | zero => intro k r τ; rw [if_neg (by omega)]; rfl
  | succ m ih =>
    intro k r τ
    unfold f_drop
    rw [ih, qc_27, qc_27]
    by_cases h1 : r = k
    · subst h1
      rw [if_neg (by omega), if_pos rfl, if_pos (by omega)]
    · rw [if_neg h1]
      by_cases h2 : k ≤ r ∧ r < k + (m + 1)
      · rw [if_pos (by omega), if_neg (by omega), if_pos (by omega)]
      · rw [if_neg (by omega), if_neg (by omega)]
theorem fd_26 {m : Nat} : ∀ {k r j : Nat} {τ : xb_St}, j < 4 → (f_drop m k τ).2 26 (4 * r + j) = if k ≤ r ∧ r < k + m then τ.2 26 (4 * (r + 1) + j) else τ.2 26 (4 * r + j) := by
  induction m with
  | zero => intro k r j τ _; rw [if_neg (by omega)]; rfl
  | succ m ih =>
    intro k r j τ hj
    unfold f_drop
    rw [ih hj, qc_26 hj (by omega), qc_26 hj (by omega)]
    by_cases h1 : r = k
    · subst h1
      rw [if_neg (by omega), if_pos rfl, if_pos (by omega)]
    · rw [if_neg h1]
      by_cases h2 : k ≤ r ∧ r < k + (m + 1)
      · rw [if_pos (by omega), if_neg (by omega), if_pos (by omega)]
      · rw [if_neg (by omega), if_neg (by omega)]
theorem fd_k {m : Nat} : ∀ {k K j : Nat} {τ : xb_St}, K ≠ 26 → K ≠ 27 → (f_drop m k τ).2 K j = τ.2 K j := by
  induction m with
  | zero => intros; rfl
  | succ m ih =>
    intro k K j τ h1 h2
    unfold f_drop
    rw [ih h1 h2, qc_k h1 h2]
theorem fs_i {m : Nat} : ∀ {k r K : Nat} {τ : xb_St}, m ≤ k → (f_shift m k τ).1 K r = if K = 25 ∧ k < r + m ∧ r ≤ k then τ.1 25 (r - 1) else τ.1 K r := by
  induction m with
  | zero => intro k r K τ _; rw [if_neg (by omega)]; rfl
  | succ m ih =>
    intro k r K τ hm
    unfold f_shift
    rw [ih (by omega), qc_i, qc_i]
    by_cases h25 : K = 25
    · subst h25
      rw [if_pos rfl, if_pos rfl]
      by_cases h1 : r = k
      · subst h1
        rw [if_neg (by omega), if_pos rfl, if_pos (by omega)]
      · rw [if_neg h1]
        by_cases h2 : k < r + (m + 1) ∧ r ≤ k
        · rw [if_pos (by omega), if_neg (by omega), if_pos (by omega)]
        · rw [if_neg (by omega), if_neg (by omega)]
    · rw [if_neg (by omega), if_neg h25, if_neg (by omega)]
theorem fs_27 {m : Nat} : ∀ {k r : Nat} {τ : xb_St}, m ≤ k → (f_shift m k τ).2 27 r = if k < r + m ∧ r ≤ k then τ.2 27 (r - 1) else τ.2 27 r := by
  induction m with
  | zero => intro k r τ _; rw [if_neg (by omega)]; rfl
  | succ m ih =>
    intro k r τ hm
    unfold f_shift
    rw [ih (by omega), qc_27, qc_27]
    by_cases h1 : r = k
    · subst h1
      rw [if_neg (by omega), if_pos rfl, if_pos (by omega)]
    · rw [if_neg h1]
      by_cases h2 : k < r + (m + 1) ∧ r ≤ k
      · rw [if_pos (by omega), if_neg (by omega), if_pos (by omega)]
      · rw [if_neg (by omega), if_neg (by omega)]
theorem fs_26 {m : Nat} : ∀ {k r j : Nat} {τ : xb_St}, m ≤ k → j < 4 → (f_shift m k τ).2 26 (4 * r + j) = if k < r + m ∧ r ≤ k then τ.2 26 (4 * (r - 1) + j) else τ.2 26 (4 * r + j) := by
  induction m with
  | zero => intro k r j τ _ _; rw [if_neg (by omega)]; rfl
  | succ m ih =>
    intro k r j τ hm hj
    unfold f_shift
    rw [ih (by omega) hj, qc_26 hj (by omega), qc_26 hj (by omega)]
    by_cases h1 : r = k
    · subst h1
      rw [if_neg (by omega), if_pos rfl, if_pos (by omega)]
    · rw [if_neg h1]
      by_cases h2 : k < r + (m + 1) ∧ r ≤ k
      · rw [if_pos (by omega), if_neg (by omega), if_pos (by omega)]
      · rw [if_neg (by omega), if_neg (by omega)]
theorem fs_k {m : Nat} : ∀ {k K j : Nat} {τ : xb_St}, K ≠ 26 → K ≠ 27 → (f_shift m k τ).2 K j = τ.2 K j := by
  induction m with
  | zero => intros; rfl
  | succ m ih =>
    intro k K j τ h1 h2
    unfold f_shift
    rw [ih h1 h2, qc_k h1 h2]
/-- a line alone is touched; tr: the rows of the other line -/
theorem Rel_L {e : Nat} (he : e < 2) {σ σ' τ τ' : xb_St} (h : Rel σ τ) (hi : ∀ K j, K ≠ 1 + e → σ'.1 K j = σ.1 K j) (hl : ∀ K j, K ≠ 3 + e → σ'.2 K j = σ.2 K j) (ti : ∀ K j, K ≠ 24 → K ≠ 25 → τ'.1 K j = τ.1 K j) (tl : ∀ K j, K ≠ 26 → K ≠ 27 → τ'.2 K j = τ.2 K j) (t24 : τ'.1 24 (1 - e) = τ.1 24 (1 - e)) (tr : ∀ k, k < 16 → τ'.1 25 (16 * (1 - e) + k) = τ.1 25 (16 * (1 - e) + k) ∧ τ'.2 27 (16 * (1 - e) + k) = τ.2 27 (16 * (1 - e) + k) ∧ ∀ j, j < 4 → τ'.2 26 (4 * (16 * (1 - e) + k) + j) = τ.2 26 (4 * (16 * (1 - e) + k) + j)) (hL : rL e σ' τ') : Rel σ' τ' := by
  refine Rel.mk ?_ ?_ ?_ ?_
  · intro e' he'
    by_cases q : e' = e
    · subst q; exact hL
    · obtain rfl : e' = 1 - e := by omega
      exact rL_same (h.L he') (hi _ _ (by omega)) (fun j _ => hl _ _ (by omega)) t24 tr
  · intro B e' hB
    refine rE_same (rB.lt hB) (h.E hB) ⟨fun j => hi _ _ (by omega), fun j => hl _ _ (by omega), fun j => hi _ _ (by omega), fun j => hl _ _ (by omega), fun j => hi _ _ (by omega), fun j => hl _ _ (by omega), fun j => hi _ _ (by omega), fun j => hl _ _ (by omega), fun j => hl _ _ (by omega), fun j => hl _ _ (by omega), ?_, ?_, ?_, ?_, ?_, ?_⟩
    · refine ⟨?_, ?_, ?_, ?_, ?_, ?_, ?_, ?_, ?_, ?_, ?_⟩ <;> exact ti _ _ (by decide) (by decide)
    · refine ⟨?_, ?_, ?_, ?_⟩ <;> exact tl _ _ (by decide) (by decide)
    · exact ⟨ti _ _ (by decide) (by decide), tl _ _ (by decide) (by decide), tl _ _ (by decide) (by decide), ti _ _ (by decide) (by decide), ti _ _ (by decide) (by decide)⟩
    · exact ⟨ti _ _ (by decide) (by decide), tl _ _ (by decide) (by decide), tl _ _ (by decide) (by decide), ti _ _ (by decide) (by decide), ti _ _ (by decide) (by decide)⟩
    · refine ⟨?_, ?_⟩ <;> exact tl _ _ (by decide) (by decide)
    · refine ⟨?_, ?_, ?_, ?_, ?_, ?_⟩ <;> exact tl _ _ (by decide) (by decide)
  · intro C q c hQ
    refine rC_s (h.Ch hQ) ⟨fun j => hi _ _ (by omega), fun j => hl _ _ (by omega), fun j => hi _ _ (by omega), ⟨ti _ _ (by decide) (by decide), tl _ _ (by decide) (by decide), tl _ _ (by decide) (by decide), ti _ _ (by decide) (by decide), ti _ _ (by decide) (by decide), ti _ _ (by decide) (by decide)⟩, fun i hi' => ti _ _ (by decide) (by decide)⟩
  · exact ⟨(hi _ _ (by omega)).trans (h.g.1.trans (ti _ _ (by decide) (by decide)).symm), by rw [hi _ _ (by omega), tl _ _ (by decide) (by decide)]; exact h.g.2⟩
section
variable {B e C q c : Nat} {σ σ' τ τ' : xb_St}
theorem Rel_drop (he : e < 2) (h : Rel σ τ) (h0 : ¬ τ.1 24 e = 0) : Rel (p_Line_drop (1 + e) σ) (q_drop e τ) := by
  have hl := h.L he
  obtain ⟨n, hn, e1, e2, hk⟩ := hl
  have n0 : 0 < n := by
    by_cases z : n = 0
    · subst z; exact absurd e2 h0
    · omega
  have c1 : ¬ σ.1 (1 + e) 1 ≤ 0 := by
    rw [e1]; exact mt (nI_leI (b := 0) (by omega) (by decide)).mp (by omega)
  have z2 : (nI n).toNatClampNeg = n := nI_clamp (by omega)
  have z1 : nI n - 1 = nI (n - 1) := pk_sub (a := n) (b := 1) n0
  unfold p_Line_drop q_drop
  rw [if_neg c1, e1, e2, z2, z1]
  refine Rel_L he h (fun K j hK => ?_) (fun K j hK => ?_) (fun K j k1 k2 => ?_) (fun K j k1 k2 => ?_) ?_ (fun k hk' => ⟨?_, ?_, fun j hj => ?_⟩) ?_
  · rw [xb_i_c, xb_i_nk hK]
  · rw [xb_l_ck (by omega), xb_l_i]
  · rw [fd_i, if_neg (by omega), xb_i_nk k1]
  · rw [fd_k k1 k2, xb_l_i]
  · rw [fd_i, if_neg (by omega), xb_i_nj (by omega)]
  · rw [fd_i, if_neg (by omega), xb_i_nk (by decide)]
  · rw [fd_27, if_neg (by omega), xb_l_i]
  · rw [fd_26 hj, if_neg (by omega), xb_l_i]
  · refine ⟨n - 1, by omega, by rw [xb_i_c, xb_i_hit], by rw [fd_i, if_neg (by omega), xb_i_hit], fun k hk' => ?_⟩
    have f := hk (k + 1) (by omega)
    rw [show 3 + e = 1 + e + 2 by omega] at f ⊢
    refine ⟨?_, fun j hj => ?_, ?_⟩
    · rw [xb_rc, if_pos rfl, if_pos (by omega), xb_l_i, fd_i, if_pos (by omega), xb_i_nk (by decide)]
      rw [show 6 + (6 * k - 0) = 6 * (k + 1) by omega, show 16 * e + k + 1 = 16 * e + (k + 1) by omega]
      exact f.1
    · rw [xb_rc, if_pos rfl, if_pos (by omega), xb_l_i, fd_26 hj, if_pos (by omega), xb_l_i]
      rw [show 6 + (6 * k + 1 + j - 0) = 6 * (k + 1) + 1 + j by omega, show 16 * e + k + 1 = 16 * e + (k + 1) by omega]
      exact f.2.1 j hj
    · rw [xb_rc, if_pos rfl, if_pos (by omega), xb_l_i, fd_27, if_pos (by omega), xb_l_i]
      rw [show 6 + (6 * k + 5 - 0) = 6 * (k + 1) + 5 by omega, show 16 * e + k + 1 = 16 * e + (k + 1) by omega]
      exact f.2.2
theorem Rel_double (he : e < 2) (h : Rel σ τ) (h0 : ¬ τ.1 24 e = 16) (h1 : ¬ τ.1 24 e = 0) : Rel (p_Line_double (1 + e) σ) (q_shift e τ) := by
  have hl := h.L he
  obtain ⟨n, hn, e1, e2, hk⟩ := hl
  have n0 : n < 16 := by
    by_cases z : n = 16
    · subst z; exact absurd e2 h0
    · omega
  have c1 : ¬ 16 ≤ σ.1 (1 + e) 1 := by
    rw [e1]; exact mt (nI_leI (a := 16) (by decide) (by omega)).mp (by omega)
  have z2 : (nI n).toNatClampNeg = n := nI_clamp (by omega)
  unfold p_Line_double q_shift
  rw [if_neg c1, e1, e2, z2]
  refine Rel_L he h (fun K j hK => ?_) (fun K j hK => ?_) (fun K j k1 k2 => ?_) (fun K j k1 k2 => ?_) ?_ (fun k hk' => ⟨?_, ?_, fun j hj => ?_⟩) ?_
  · rw [xb_i_nk hK, xb_i_c]
  · rw [xb_l_i, xb_l_ck (by omega)]
  · rw [xb_i_nk k1, fs_i (by omega), if_neg (by omega)]
  · rw [xb_l_i, fs_k k1 k2]
  · rw [xb_i_nj (by omega), fs_i (by omega), if_neg (by omega)]
  · rw [xb_i_nk (by decide), fs_i (by omega), if_neg (by omega)]
  · rw [xb_l_i, fs_27 (by omega), if_neg (by omega)]
  · rw [xb_l_i, fs_26 (by omega) hj, if_neg (by omega)]
  · refine ⟨n + 1, by omega, by rw [xb_i_hit]; exact nI_1 n, by rw [xb_i_hit, fs_i (by omega), if_neg (by omega), e2]; exact nI_1 n, fun k hk' => ?_⟩
    rw [show 3 + e = 1 + e + 2 by omega]
    rw [show 3 + e = 1 + e + 2 by omega] at hk
    by_cases k0 : k = 0
    · subst k0
      by_cases m0 : n = 0
      · subst m0
        exact absurd e2 h1
      · have f := hk 0 (by omega)
        refine ⟨?_, fun j hj => ?_, ?_⟩
        · rw [xb_l_i, xb_rc, if_pos rfl, if_neg (by omega), xb_i_nk (by decide), fs_i (by omega), if_neg (by omega)]
          exact f.1
        · rw [xb_l_i, xb_rc, if_pos rfl, if_neg (by omega), xb_l_i, fs_26 (by omega) hj, if_neg (by omega)]
          exact f.2.1 j hj
        · rw [xb_l_i, xb_rc, if_pos rfl, if_neg (by omega), xb_l_i, fs_27 (by omega), if_neg (by omega)]
          exact f.2.2
    · have f := hk (k - 1) (by omega)
      refine ⟨?_, fun j hj => ?_, ?_⟩
      · rw [xb_l_i, xb_rc, if_pos rfl, if_pos (by omega), xb_i_nk (by decide), fs_i (by omega), if_pos (by omega)]
        rw [show 0 + (6 * k - 6) = 6 * (k - 1) by omega, show 16 * e + k - 1 = 16 * e + (k - 1) by omega]
        exact f.1
      · rw [xb_l_i, xb_rc, if_pos rfl, if_pos (by omega), xb_l_i, fs_26 (by omega) hj, if_pos (by omega)]
        rw [show 0 + (6 * k + 1 + j - 6) = 6 * (k - 1) + 1 + j by omega, show 16 * e + k - 1 = 16 * e + (k - 1) by omega]
        exact f.2.1 j hj
      · rw [xb_l_i, xb_rc, if_pos rfl, if_pos (by omega), xb_l_i, fs_27 (by omega), if_pos (by omega)]
        rw [show 0 + (6 * k + 5 - 6) = 6 * (k - 1) + 5 by omega, show 16 * e + k - 1 = 16 * e + (k - 1) by omega]
        exact f.2.2
theorem Rel_front (he : e < 2) (h : Rel σ τ) (h0 : ¬ τ.1 24 e = 16) {x2 : Int32} {x3 x4 : Int64} : Rel (p_Line_front (1 + e) x2 x3 x4 σ) (xb_sl (xb_sl (xb_sl (xb_sl (xb_sl (xb_si (q_shift e τ) 25 (16 * e) x2) 27 (16 * e) x4) 26 (4 * (16 * e)) x3) 26 (4 * (16 * e) + 1) 0) 26 (4 * (16 * e) + 2) 0) 26 (4 * (16 * e) + 3) 0) := by
  have hl := h.L he
  obtain ⟨n, hn, e1, e2, hk⟩ := hl
  have n0 : n < 16 := by
    by_cases z : n = 16
    · subst z; exact absurd e2 h0
    · omega
  have c1 : ¬ 16 ≤ σ.1 (1 + e) 1 := by
    rw [e1]; exact mt (nI_leI (a := 16) (by decide) (by omega)).mp (by omega)
  have z2 : (nI n).toNatClampNeg = n := nI_clamp (by omega)
  unfold p_Line_front p_Line_double q_shift
  rw [if_neg c1, e1, e2, z2]
  refine Rel_L he h (fun K j hK => ?_) (fun K j hK => ?_) (fun K j k1 k2 => ?_) (fun K j k1 k2 => ?_) ?_ (fun k hk' => ⟨?_, ?_, fun j hj => ?_⟩) ?_
  · simp only [xb_i_l]; rw [xb_i_nk hK, xb_i_c]
  · have hK' : K ≠ 1 + e + 2 := by omega
    rw [xb_l_nk hK', xb_l_nk hK', xb_l_nk hK', xb_l_nk hK', xb_l_nk hK', xb_l_nk hK', xb_l_i, xb_l_ck hK']
  · simp only [xb_i_l]; rw [xb_i_nk k2, xb_i_nk k1, fs_i (by omega), if_neg (by omega)]
  · rw [xb_l_nk k1, xb_l_nk k1, xb_l_nk k1, xb_l_nk k1, xb_l_nk k2, xb_l_i, xb_l_i, fs_k k1 k2]
  · simp only [xb_i_l]; rw [xb_i_nk (by decide), xb_i_nj (by omega), fs_i (by omega), if_neg (by omega)]
  · simp only [xb_i_l]; rw [xb_i_nj (by omega), xb_i_nk (by decide), fs_i (by omega), if_neg (by omega)]
  · rw [xb_l_nk (by decide), xb_l_nk (by decide), xb_l_nk (by decide), xb_l_nk (by decide), xb_l_nj (by omega), xb_l_i, xb_l_i, fs_27 (by omega), if_neg (by omega)]
  · rw [xb_l_nj (by omega), xb_l_nj (by omega), xb_l_nj (by omega), xb_l_nj (by omega), xb_l_nk (by decide), xb_l_i, xb_l_i, fs_26 (by omega) hj, if_neg (by omega)]
  · refine ⟨n + 1, by omega, by simp only [xb_i_l]; rw [xb_i_hit]; exact nI_1 n, by simp only [xb_i_l]; rw [xb_i_nk (by decide), xb_i_hit, fs_i (by omega), if_neg (by omega), e2]; exact nI_1 n, fun k hk' => ?_⟩
    rw [show 3 + e = 1 + e + 2 by omega]
    rw [show 3 + e = 1 + e + 2 by omega] at hk
    by_cases k0 : k = 0
    · subst k0
      refine ⟨?_, fun j hj => ?_, ?_⟩
      · rw [xb_l_nj (by omega), xb_l_nj (by omega), xb_l_nj (by omega), xb_l_nj (by omega), xb_l_nj (by omega)]
        simp only [xb_i_l]
        rw [show 6 * 0 = 0 from rfl, xb_l_hit, show 16 * e + 0 = 16 * e from rfl, xb_i_hit]
      · obtain rfl | rfl | rfl | rfl : j = 0 ∨ j = 1 ∨ j = 2 ∨ j = 3 := by omega
        · rw [xb_l_nj (by omega), xb_l_nj (by omega), xb_l_nj (by omega), xb_l_nj (by omega), show 6 * 0 + 1 + 0 = 1 from rfl, xb_l_hit]
          rw [xb_l_nj (by omega), xb_l_nj (by omega), xb_l_nj (by omega), show 4 * (16 * e + 0) + 0 = 4 * (16 * e) from rfl, xb_l_hit]
        · rw [xb_l_nj (by omega), xb_l_nj (by omega), xb_l_nj (by omega), show 6 * 0 + 1 + 1 = 2 from rfl, xb_l_hit]
          rw [xb_l_nj (by omega), xb_l_nj (by omega), show 4 * (16 * e + 0) + 1 = 4 * (16 * e) + 1 from rfl, xb_l_hit]
        · rw [xb_l_nj (by omega), xb_l_nj (by omega), show 6 * 0 + 1 + 2 = 3 from rfl, xb_l_hit]
          rw [xb_l_nj (by omega), show 4 * (16 * e + 0) + 2 = 4 * (16 * e) + 2 from rfl, xb_l_hit]
        · rw [xb_l_nj (by omega), show 6 * 0 + 1 + 3 = 4 from rfl, xb_l_hit]
          rw [show 4 * (16 * e + 0) + 3 = 4 * (16 * e) + 3 from rfl, xb_l_hit]
      · rw [show 6 * 0 + 5 = 5 from rfl, xb_l_hit, xb_l_nk (by decide), xb_l_nk (by decide), xb_l_nk (by decide), xb_l_nk (by decide), show 16 * e + 0 = 16 * e from rfl, xb_l_hit]
    · have f := hk (k - 1) (by omega)
      refine ⟨?_, fun j hj => ?_, ?_⟩
      · rw [xb_l_nj (by omega), xb_l_nj (by omega), xb_l_nj (by omega), xb_l_nj (by omega), xb_l_nj (by omega), xb_l_nj (by omega)]
        simp only [xb_i_l]
        rw [xb_l_i, xb_rc, if_pos rfl, if_pos (by omega), xb_i_nj (by omega), xb_i_nk (by decide), fs_i (by omega), if_pos (by omega)]
        rw [show 0 + (6 * k - 6) = 6 * (k - 1) by omega, show 16 * e + k - 1 = 16 * e + (k - 1) by omega]
        exact f.1
      · rw [xb_l_nj (by omega), xb_l_nj (by omega), xb_l_nj (by omega), xb_l_nj (by omega), xb_l_nj (by omega), xb_l_nj (by omega)]
        rw [xb_l_i, xb_rc, if_pos rfl, if_pos (by omega), xb_l_nj (by omega), xb_l_nj (by omega), xb_l_nj (by omega), xb_l_nj (by omega), xb_l_nk (by decide), xb_l_i, xb_l_i, fs_26 (by omega) hj, if_pos (by omega)]
        rw [show 0 + (6 * k + 1 + j - 6) = 6 * (k - 1) + 1 + j by omega, show 16 * e + k - 1 = 16 * e + (k - 1) by omega]
        exact f.2.1 j hj
      · rw [xb_l_nj (by omega), xb_l_nj (by omega), xb_l_nj (by omega), xb_l_nj (by omega), xb_l_nj (by omega), xb_l_nj (by omega)]
        rw [xb_l_i, xb_rc, if_pos rfl, if_pos (by omega), xb_l_nk (by decide), xb_l_nk (by decide), xb_l_nk (by decide), xb_l_nk (by decide), xb_l_nj (by omega), xb_l_i, xb_l_i, fs_27 (by omega), if_pos (by omega)]
        rw [show 0 + (6 * k + 5 - 6) = 6 * (k - 1) + 5 by omega, show 16 * e + k - 1 = 16 * e + (k - 1) by omega]
        exact f.2.2
/-- a copy into a row that no line shows -/
theorem Rel_copy {fr to : Nat} (hto : 32 ≤ to) (hne : fr ≠ to) (h : Rel σ τ) : Rel σ (q_copy fr to τ) := by
  refine Rel_L (e := 0) (by decide) h (fun _ _ _ => rfl) (fun _ _ _ => rfl) (fun K j k1 k2 => ?_) (fun K j k1 k2 => qc_k k1 k2) ?_ (fun k hk' => ⟨?_, ?_, fun j hj => ?_⟩) ?_
  · rw [qc_i, if_neg k2]
  · rw [qc_i, if_neg (by decide)]
  · rw [qc_i, if_pos rfl, if_neg (by omega)]
  · rw [qc_27, if_neg (by omega)]
  · rw [qc_26 hj hne, if_neg (by omega)]
  · refine rL_same (h.L (by decide)) rfl (fun _ _ => rfl) (by rw [qc_i, if_neg (by decide)]) (fun k hk' => ⟨?_, ?_, fun j hj => ?_⟩)
    · rw [qc_i, if_pos rfl, if_neg (by omega)]
    · rw [qc_27, if_neg (by omega)]
    · rw [qc_26 hj hne, if_neg (by omega)]
theorem Rel_swap (he : e < 2) (h : Rel σ τ) (h2 : 2 ≤ τ.1 24 e) : Rel (p_Line_swap (1 + e) σ) (q_copy 33 (16 * e + 1) (q_copy (16 * e + 1) (16 * e) (q_copy (16 * e) 33 τ))) := by
  have hl := h.L he
  obtain ⟨n, hn, e1, e2, hk⟩ := hl
  have n2 : 2 ≤ n := by
    rw [e2] at h2
    exact (nI_leI (a := 2) (by decide) (by omega)).mp h2
  have f0 := hk 0 (by omega)
  have f1 := hk 1 (by omega)
  rw [show 3 + e = 1 + e + 2 by omega] at f0 f1
  refine Rel_L he h (fun K j hK => ?_) (fun K j hK => ?_) (fun K j k1 k2 => ?_) (fun K j k1 k2 => ?_) ?_ (fun k hk' => ⟨?_, ?_, fun j hj => ?_⟩) ?_
  · unfold p_Line_swap; simp only [xb_i_l]
  · have hK' : K ≠ 1 + e + 2 := by omega
    unfold p_Line_swap
    simp [xb_rl, hK']
  · rw [qc_i, if_neg k2, qc_i, if_neg k2, qc_i, if_neg k2]
  · rw [qc_k k1 k2, qc_k k1 k2, qc_k k1 k2]
  · rw [qc_i, if_neg (by decide), qc_i, if_neg (by decide), qc_i, if_neg (by decide)]
  · rw [qc_i, if_pos rfl, if_neg (by omega), qc_i, if_pos rfl, if_neg (by omega), qc_i, if_pos rfl, if_neg (by omega)]
  · rw [qc_27, if_neg (by omega), qc_27, if_neg (by omega), qc_27, if_neg (by omega)]
  · rw [qc_26 hj (by omega), if_neg (by omega), qc_26 hj (by omega), if_neg (by omega), qc_26 hj (by omega), if_neg (by omega)]
  · refine ⟨n, hn, ?_, ?_, fun k hk' => ?_⟩
    · unfold p_Line_swap; simp only [xb_i_l]; exact e1
    · rw [qc_i, if_neg (by decide), qc_i, if_neg (by decide), qc_i, if_neg (by decide)]; exact e2
    · have f := hk k hk'
      rw [show 3 + e = 1 + e + 2 by omega] at f ⊢
      have rd : ∀ i, (p_Line_swap (1 + e) σ).2 (1 + e + 2) i = if i < 6 then σ.2 (1 + e + 2) (i + 6) else if i < 12 then σ.2 (1 + e + 2) (i - 6) else σ.2 (1 + e + 2) i := by
        intro i
        unfold p_Line_swap
        by_cases a1 : i < 6
        · rw [if_pos a1]
          obtain rfl | rfl | rfl | rfl | rfl | rfl : i = 0 ∨ i = 1 ∨ i = 2 ∨ i = 3 ∨ i = 4 ∨ i = 5 := by omega
          all_goals simp [xb_rl]
        · rw [if_neg a1]
          by_cases a2 : i < 12
          · rw [if_pos a2]
            obtain rfl | rfl | rfl | rfl | rfl | rfl : i = 6 ∨ i = 7 ∨ i = 8 ∨ i = 9 ∨ i = 10 ∨ i = 11 := by omega
            all_goals simp [xb_rl]
          · rw [if_neg a2]
            have b : i ≠ 0 ∧ i ≠ 1 ∧ i ≠ 2 ∧ i ≠ 3 ∧ i ≠ 4 ∧ i ≠ 5 ∧ i ≠ 6 ∧ i ≠ 7 ∧ i ≠ 8 ∧ i ≠ 9 ∧ i ≠ 10 ∧ i ≠ 11 := by omega
            obtain ⟨b0, b1, b2, b3, b4, b5, b6, b7, b8, b9, b10, b11⟩ := b
            simp [xb_rl, b0, b1, b2, b3, b4, b5, b6, b7, b8, b9, b10, b11]
      by_cases k0 : k = 0
      · subst k0
        refine ⟨?_, fun j hj => ?_, ?_⟩
        · rw [rd, if_pos (by omega), qc_i, if_pos rfl, if_neg (by omega), qc_i, if_pos rfl, if_pos (by omega), qc_i, if_pos rfl, if_neg (by omega)]
          exact f1.1
        · rw [rd, if_pos (by omega), qc_26 hj (by omega), if_neg (by omega), qc_26 hj (by omega), if_pos (by omega), qc_26 hj (by omega), if_neg (by omega)]
          rw [show 6 * 0 + 1 + j + 6 = 6 * 1 + 1 + j by omega]
          exact f1.2.1 j hj
        · rw [rd, if_pos (by omega), qc_27, if_neg (by omega), qc_27, if_pos (by omega), qc_27, if_neg (by omega)]
          exact f1.2.2
      · by_cases k1 : k = 1
        · subst k1
          refine ⟨?_, fun j hj => ?_, ?_⟩
          · rw [rd, if_neg (by omega), if_pos (by omega), qc_i, if_pos rfl, if_pos rfl, qc_i, if_pos rfl, if_neg (by omega), qc_i, if_pos rfl, if_pos rfl]
            exact f0.1
          · rw [rd, if_neg (by omega), if_pos (by omega), qc_26 hj (by omega), if_pos rfl, qc_26 hj (by omega), if_neg (by omega), qc_26 hj (by omega), if_pos rfl]
            rw [show 6 * 1 + 1 + j - 6 = 6 * 0 + 1 + j by omega]
            exact f0.2.1 j hj
          · rw [rd, if_neg (by omega), if_pos (by omega), qc_27, if_pos rfl, qc_27, if_neg (by omega), qc_27, if_pos rfl]
            exact f0.2.2
        · refine ⟨?_, fun j hj => ?_, ?_⟩
          · rw [rd, if_neg (by omega), if_neg (by omega), qc_i, if_pos rfl, if_neg (by omega), qc_i, if_pos rfl, if_neg (by omega), qc_i, if_pos rfl, if_neg (by omega)]
            exact f.1
          · rw [rd, if_neg (by omega), if_neg (by omega), qc_26 hj (by omega), if_neg (by omega), qc_26 hj (by omega), if_neg (by omega), qc_26 hj (by omega), if_neg (by omega)]
            exact f.2.1 j hj
          · rw [rd, if_neg (by omega), if_neg (by omega), qc_27, if_neg (by omega), qc_27, if_neg (by omega), qc_27, if_neg (by omega)]
            exact f.2.2
end
