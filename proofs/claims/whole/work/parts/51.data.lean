/-! bytes: kept, and read -/
section
variable {B e C q c : Nat} {σ σ' τ τ' : xb_St}
theorem k_byte (x : Int64) : (x &&& 255).toInt32 = x.toInt32 &&& 255 := by
  rw [Int64.toInt32_and]; rfl
theorem Rel_keep1 (hQ : rQ C q c) (h : Rel σ τ) (hs : ¬ τ.1 28 q = 0) {f a b d : Nat} (hf : σ.1 C 6 = nI f) (f24 : f < 24) (ha : τ.1 31 q = nI a) (hb : τ.1 32 q = nI b) (hd : τ.1 33 q = nI d) (hlt : a + b + d < 24) {v : Int32} : Rel (xb_si (xb_si σ (C + 3) ((f + b) % 24) v) C 7 (σ.1 C 7 + 1)) (xb_si (xb_si τ 34 (32 * q + b) v) 32 q (τ.1 32 q + 1)) := by
  have hC := h.Ch hQ
  refine Rel_C1 hQ h ?_ ?_
  · refine ⟨?_, ?_, ?_, ?_, ?_, ?_, ?_⟩
    · intros; simp [xb_ri, *]
    · intros; simp [xb_l_i]
    · intros; simp [xb_ri, *]
    · intros; simp [xb_l_i]
    · intros; simp [xb_ri, *]
    · intros; simp [xb_l_i]
    · intro j hj
      have : j ≠ 32 * q + b := by omega
      simp [xb_ri, this]
  · obtain ⟨f', a', b', d', hf', hu, e1, e2, e3, e4, hi⟩ := hC.nu
    obtain rfl : f' = f := (nI_eq (by omega) (by omega)).mp (e1.symm.trans hf)
    obtain rfl : a' = a := (nI_eq (by omega) (by omega)).mp (e2.symm.trans ha)
    obtain rfl : b' = b := (nI_eq (by omega) (by omega)).mp (e3.symm.trans hb)
    obtain rfl : d' = d := (nI_eq (by omega) (by omega)).mp (e4.symm.trans hd)
    have n1 : C ≠ C + 3 := by omega
    have n2 : C + 3 ≠ C := by omega
    refine ⟨?_, ?_, ?_, ?_, ?_, ?_, ?_, ⟨f', a', b' + 1, d', hf', by omega, ?_, ?_, ?_, ?_, ?_⟩, ?_⟩
    · simpa [xb_ri, xb_rl, xb_i_l, xb_l_i, ps_i, ps_l, qs_i, qs_l, qs_7, sp_lnD] using hC.ix
    · simpa [xb_ri, xb_rl, xb_i_l, xb_l_i, ps_i, ps_l, qs_i, qs_l, qs_7, sp_lnD] using hC.st
    · simpa [xb_ri, xb_rl, xb_i_l, xb_l_i, ps_i, ps_l, qs_i, qs_l, qs_7, sp_lnD] using hC.pe
    · simpa [xb_ri, xb_rl, xb_i_l, xb_l_i, ps_i, ps_l, qs_i, qs_l, qs_7, sp_lnD] using hC.wi
    · simpa [xb_ri, xb_rl, xb_i_l, xb_l_i, ps_i, ps_l, qs_i, qs_l, qs_7, sp_lnD] using hC.ro
    · simp [xb_ri, xb_rl, xb_i_l, xb_l_i, ps_i, ps_l, qs_i, qs_l, qs_7, sp_lnD, hC.he]
    · simpa [xb_ri, xb_rl, xb_i_l, xb_l_i, ps_i, ps_l, qs_i, qs_l, qs_7, sp_lnD] using hC.ta
    · simpa [xb_ri, xb_rl, xb_i_l, xb_l_i, ps_i, ps_l, qs_i, qs_l, qs_7, sp_lnD] using e1
    · simpa [xb_ri, xb_rl, xb_i_l, xb_l_i, ps_i, ps_l, qs_i, qs_l, qs_7, sp_lnD] using e2
    · simp [xb_ri, xb_rl, xb_i_l, xb_l_i, ps_i, ps_l, qs_i, qs_l, qs_7, sp_lnD, e3]; exact nI_1 b'
    · simpa [xb_ri, xb_rl, xb_i_l, xb_l_i, ps_i, ps_l, qs_i, qs_l, qs_7, sp_lnD] using e4
    · intro i hi'
      rw [xb_i_nk n2, xb_i_nk (K' := 34) (by decide)]
      by_cases k : i = b'
      · subst k; rw [xb_i_hit, xb_i_hit]
      · rw [xb_i_nj (by omega), xb_i_nj (by omega)]
        exact hi i (by omega)
    · simp [xb_ri, xb_rl, xb_i_l, xb_l_i, ps_i, ps_l, qs_i, qs_l, qs_7, sp_lnD, hs]
theorem k_ar {a b d : Nat} {j : Int} (h : (a + b + d : Int) + (j + 1) ≤ 24) (hj : 0 ≤ j) : ((a : Int) + ((b + 1 : Nat) : Int) + (d : Int)) + (j - 1 + 1) ≤ 24 ∧ a + (b + 1) + d ≤ 24 := by omega
theorem k_br {a b d : Nat} {j : Int} (h : (a + b + d : Int) + (j + 1) ≤ 24) (hj : 0 ≤ j) : a + b + d < 24 ∧ b < 24 ∧ b < 2 ^ 31 ∧ ¬ 24 ≤ b := by omega
theorem on_st {n : Nat} : ∀ {j : Int32} {y : Int64} {τ : xb_St}, (f_on n q j y τ).1 28 q = τ.1 28 q := by
  induction n with
  | zero => intros; rfl
  | succ n ih =>
    intro j y τ
    rw [f_on_s]
    split
    · rfl
    · rw [ih]; simp [xb_ri]
theorem Rel_keep (hQ : rQ C q c) {y : Int64} : ∀ (n : Nat) (j : Int32) {σ τ : xb_St} {a b d : Nat}, Rel σ τ → ¬ τ.1 28 q = 0 → τ.1 31 q = nI a → τ.1 32 q = nI b → τ.1 33 q = nI d → (a + b + d : Int) + (j.toInt + 1) ≤ 24 → a + b + d ≤ 24 → Rel (f_keep n C j y σ) (f_on n q j y τ) := by
  intro n
  induction n with
  | zero => intro j σ τ a b d h _ _ _ _ _ _; exact h
  | succ n ih =>
    intro j σ τ a b d h hs ha hb hd hle h24
    have hC := h.Ch hQ
    obtain ⟨f, a', b', d', hf', hu, e1, e2, e3, e4, hi⟩ := hC.nu
    rw [f_on_s]
    unfold f_keep
    by_cases j0 : j < 0
    · rw [if_pos j0, if_pos j0]; exact h
    · have jp : 0 ≤ j.toInt := by
        rw [Int32.lt_iff_toInt_lt] at j0
        have : (0 : Int32).toInt = 0 := rfl
        omega
      have hh : σ.1 C 7 = nI b := hC.he.trans hb
      have nb : ¬ (24 : Int32) ≤ σ.1 C 7 := by
        rw [hh]; exact mt (nI_leI (a := 24) (by decide) (k_br hle jp).2.2.1).mp (k_br hle jp).2.2.2
      rw [if_neg j0, if_neg j0, if_neg nb, hh, hb, e1, nI_clamp (k_br hle jp).2.2.1, nI_clamp (Nat.lt_trans hf' (by decide)), k_byte]
      have R := Rel_keep1 hQ h hs e1 hf' ha hb hd (k_br hle jp).1 (v := (xb_lushr y (8 * j)).toInt32 &&& 255)
      rw [hh, hb] at R
      have jd := xb_dec j0
      refine ih _ (a := a) (b := b + 1) (d := d) R ?_ ?_ ?_ ?_ ?_ ?_
      · simpa [xb_ri] using hs
      · simpa [xb_ri] using ha
      · rw [xb_i_hit]; exact nI_1 b
      · simpa [xb_ri] using hd
      · rw [jd]; exact (k_ar hle jp).1
      · exact (k_ar hle jp).2
theorem rd_i {n : Nat} : ∀ {k K j : Nat} {τ : xb_St}, K ≠ 34 → (f_rd n q k τ).1 K j = τ.1 K j := by
  induction n with
  | zero => intros; rfl
  | succ n ih =>
    intro k K j τ hK
    unfold f_rd
    rw [ih hK, xb_i_nk hK]
theorem rd_l {n : Nat} : ∀ {k : Nat} {τ : xb_St}, (f_rd n q k τ).2 = τ.2 := by
  induction n with
  | zero => intros; rfl
  | succ n ih =>
    intro k τ
    unfold f_rd
    rw [ih]; rfl
theorem rd_34 {n : Nat} : ∀ {k j : Nat} {τ : xb_St}, (f_rd n q k τ).1 34 j = if 32 * q + k ≤ j ∧ j < 32 * q + k + n then τ.1 34 (j + 1) else τ.1 34 j := by
  induction n with
  | zero => intro k j τ; rw [if_neg (by omega)]; rfl
  | succ n ih =>
    intro k j τ
    unfold f_rd
    rw [ih]
    by_cases h1 : j = 32 * q + k
    · subst h1
      rw [if_neg (by omega), if_pos (by omega), xb_i_hit]
    · by_cases h2 : 32 * q + (k + 1) ≤ j ∧ j < 32 * q + (k + 1) + n
      · rw [if_pos h2, if_pos (by omega), xb_i_nj (by omega)]
      · rw [if_neg h2, if_neg (by omega), xb_i_nj h1]
theorem Rel_byte (hQ : rQ C q c) (h : Rel σ τ) {f b : Nat} (hf : σ.1 C 6 = nI f) (f24 : f < 24) (hb : τ.1 32 q = nI b) (b0 : 0 < b) (b24 : b ≤ 24) : Rel (xb_si (xb_si (xb_si σ C 6 (nI ((f + 1) % 24))) C 7 (σ.1 C 7 - 1)) C 8 (σ.1 C 8 + 1)) (f_rd (b - 1) q 0 (xb_si (xb_si τ 32 q (τ.1 32 q - 1)) 33 q (τ.1 33 q + 1))) ∧ σ.1 (C + 3) f = τ.1 34 (32 * q) := by
  have hC := h.Ch hQ
  obtain ⟨f', a', b', d', hf', hu, e1, e2, e3, e4, hi⟩ := hC.nu
  obtain rfl : f' = f := (nI_eq (by omega) (by omega)).mp (e1.symm.trans hf)
  obtain rfl : b' = b := (nI_eq (by omega) (by omega)).mp (e3.symm.trans hb)
  refine ⟨Rel_C1 hQ h ?_ ?_, ?_⟩
  · refine ⟨?_, ?_, ?_, ?_, ?_, ?_, ?_⟩
    · intros; simp [xb_ri, *]
    · intros; simp [xb_l_i]
    · intro K j h1 h2 h3 h4 h5; rw [rd_i h5]; simp [xb_ri, h3, h4]
    · intros; rw [rd_l]; simp [xb_l_i]
    · intro K j h1 h2; rw [rd_i h1]; simp [xb_ri, h2]
    · intros; rw [rd_l]; simp [xb_l_i]
    · intro j hj
      rw [rd_34, if_neg (by omega)]
      simp [xb_ri]
  · have n1 : C ≠ C + 3 := by omega
    have n2 : C + 3 ≠ C := by omega
    have z : ¬ τ.1 28 q = 0 := by
      intro z
      have := (hC.z z).2.2.2.1
      rw [e3] at this
      have := (nI_eq (a := b') (b := 0) (by omega) (by decide)).mp this
      omega
    refine ⟨?_, ?_, ?_, ?_, ?_, ?_, ?_, ⟨(f' + 1) % 24, a', b' - 1, d' + 1, by omega, by omega, ?_, ?_, ?_, ?_, ?_⟩, ?_⟩
    · simpa [xb_ri, xb_rl, xb_i_l, xb_l_i, ps_i, ps_l, qs_i, qs_l, qs_7, sp_lnD] using hC.ix
    · rw [rd_i (by decide)]; simpa [xb_ri, xb_rl, xb_i_l, xb_l_i, ps_i, ps_l, qs_i, qs_l, qs_7, sp_lnD] using hC.st
    · rw [rd_l]; simpa [xb_ri, xb_rl, xb_i_l, xb_l_i, ps_i, ps_l, qs_i, qs_l, qs_7, sp_lnD] using hC.pe
    · rw [rd_l]; simpa [xb_ri, xb_rl, xb_i_l, xb_l_i, ps_i, ps_l, qs_i, qs_l, qs_7, sp_lnD] using hC.wi
    · rw [rd_i (by decide)]; simpa [xb_ri, xb_rl, xb_i_l, xb_l_i, ps_i, ps_l, qs_i, qs_l, qs_7, sp_lnD] using hC.ro
    · rw [rd_i (by decide)]; simp [xb_ri, xb_rl, xb_i_l, xb_l_i, ps_i, ps_l, qs_i, qs_l, qs_7, sp_lnD, hC.he]
    · rw [rd_i (by decide)]; simp [xb_ri, xb_rl, xb_i_l, xb_l_i, ps_i, ps_l, qs_i, qs_l, qs_7, sp_lnD, hC.ta]
    · simp [xb_ri, xb_rl, xb_i_l, xb_l_i, ps_i, ps_l, qs_i, qs_l, qs_7, sp_lnD]
    · rw [rd_i (by decide)]; simpa [xb_ri, xb_rl, xb_i_l, xb_l_i, ps_i, ps_l, qs_i, qs_l, qs_7, sp_lnD] using e2
    · rw [rd_i (by decide)]; simp [xb_ri, xb_rl, xb_i_l, xb_l_i, ps_i, ps_l, qs_i, qs_l, qs_7, sp_lnD, e3]; exact pk_sub (a := b') (b := 1) (by omega)
    · rw [rd_i (by decide)]; simp [xb_ri, xb_rl, xb_i_l, xb_l_i, ps_i, ps_l, qs_i, qs_l, qs_7, sp_lnD, e4]; exact nI_1 d'
    · intro i hi'
      rw [rd_34, if_pos (by omega), xb_i_nk n2, xb_i_nk n2, xb_i_nk n2, xb_i_nk (by decide), xb_i_nk (by decide)]
      have := hi (i + 1) (by omega)
      rw [show ((f' + 1) % 24 + i) % 24 = (f' + (i + 1)) % 24 by omega]
      exact this
    · rw [rd_i (by decide)]
      intro q0
      exact absurd (by simpa [xb_ri] using q0) z
  · have := hi 0 b0
    rw [show (f' + 0) % 24 = f' by omega] at this
    exact this
end
