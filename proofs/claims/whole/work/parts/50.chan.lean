/-! channels -/
abbrev tC (C q : Nat) (σ σ' τ τ' : xb_St) : Prop := (∀ K j, K ≠ C → K ≠ C + 3 → σ'.1 K j = σ.1 K j) ∧ (∀ K j, K ≠ C → σ'.2 K j = σ.2 K j) ∧ (∀ K j, K ≠ 28 → K ≠ 31 → K ≠ 32 → K ≠ 33 → K ≠ 34 → τ'.1 K j = τ.1 K j) ∧ (∀ K j, K ≠ 29 → K ≠ 30 → τ'.2 K j = τ.2 K j) ∧ (∀ K j, K ≠ 34 → j ≠ q → τ'.1 K j = τ.1 K j) ∧ (∀ K j, j ≠ q → τ'.2 K j = τ.2 K j) ∧ (∀ j, j < 32 * q ∨ 32 * q + 32 ≤ j → τ'.1 34 j = τ.1 34 j)
theorem tC.i {C q : Nat} {σ σ' τ τ' : xb_St} (h : tC C q σ σ' τ τ') : ∀ K j, K ≠ C → K ≠ C + 3 → σ'.1 K j = σ.1 K j := h.1
theorem tC.l {C q : Nat} {σ σ' τ τ' : xb_St} (h : tC C q σ σ' τ τ') : ∀ K j, K ≠ C → σ'.2 K j = σ.2 K j := h.2.1
theorem tC.ti {C q : Nat} {σ σ' τ τ' : xb_St} (h : tC C q σ σ' τ τ') : ∀ K j, K ≠ 28 → K ≠ 31 → K ≠ 32 → K ≠ 33 → K ≠ 34 → τ'.1 K j = τ.1 K j := h.2.2.1
theorem tC.tl {C q : Nat} {σ σ' τ τ' : xb_St} (h : tC C q σ σ' τ τ') : ∀ K j, K ≠ 29 → K ≠ 30 → τ'.2 K j = τ.2 K j := h.2.2.2.1
theorem tC.qi {C q : Nat} {σ σ' τ τ' : xb_St} (h : tC C q σ σ' τ τ') : ∀ K j, K ≠ 34 → j ≠ q → τ'.1 K j = τ.1 K j := h.2.2.2.2.1
theorem tC.ql {C q : Nat} {σ σ' τ τ' : xb_St} (h : tC C q σ σ' τ τ') : ∀ K j, j ≠ q → τ'.2 K j = τ.2 K j := h.2.2.2.2.2.1
theorem tC.b {C q : Nat} {σ σ' τ τ' : xb_St} (h : tC C q σ σ' τ τ') : ∀ j, j < 32 * q ∨ 32 * q + 32 ≤ j → τ'.1 34 j = τ.1 34 j := h.2.2.2.2.2.2
section
variable {B e C q c : Nat} {σ σ' τ τ' : xb_St}
theorem Rel_C1 (hQ : rQ C q c) (h : Rel σ τ) (t : tC C q σ σ' τ τ') (hC : rC C q c σ' τ') : Rel σ' τ' := by
  refine Rel.mk ?_ ?_ ?_ ?_
  · intro e he
    refine rL_s (h.L he) ⟨t.i _ _ (by omega) (by omega), fun j => t.l _ _ (by omega), t.ti _ _ (by omega) (by omega) (by omega) (by omega) (by omega), fun j => t.ti _ _ (by omega) (by omega) (by omega) (by omega) (by omega), fun j => t.tl _ _ (by omega) (by omega), fun j => t.tl _ _ (by omega) (by omega)⟩
  · intro B e hB
    refine rE_same (rB.lt hB) (h.E hB) ⟨fun j => t.i _ _ (by omega) (by omega), fun j => t.l _ _ (by omega), fun j => t.i _ _ (by omega) (by omega), fun j => t.l _ _ (by omega), fun j => t.i _ _ (by omega) (by omega), fun j => t.l _ _ (by omega), fun j => t.i _ _ (by omega) (by omega), fun j => t.l _ _ (by omega), fun j => t.l _ _ (by omega), fun j => t.l _ _ (by omega), ?_, ?_, ?_, ?_, ?_, ?_⟩
    · refine ⟨?_, ?_, ?_, ?_, ?_, ?_, ?_, ?_, ?_, ?_, ?_⟩ <;> exact t.ti _ _ (by decide) (by decide) (by decide) (by decide) (by decide)
    · refine ⟨?_, ?_, ?_, ?_⟩ <;> exact t.tl _ _ (by decide) (by decide)
    · exact ⟨t.ti _ _ (by decide) (by decide) (by decide) (by decide) (by decide), t.tl _ _ (by decide) (by decide), t.tl _ _ (by decide) (by decide), t.ti _ _ (by decide) (by decide) (by decide) (by decide) (by decide), t.ti _ _ (by decide) (by decide) (by decide) (by decide) (by decide)⟩
    · exact ⟨t.ti _ _ (by decide) (by decide) (by decide) (by decide) (by decide), t.tl _ _ (by decide) (by decide), t.tl _ _ (by decide) (by decide), t.ti _ _ (by decide) (by decide) (by decide) (by decide) (by decide), t.ti _ _ (by decide) (by decide) (by decide) (by decide) (by decide)⟩
    · refine ⟨?_, ?_⟩ <;> exact t.tl _ _ (by decide) (by decide)
    · refine ⟨?_, ?_, ?_, ?_, ?_, ?_⟩ <;> exact t.tl _ _ (by decide) (by decide)
  · intro C' q' c' hQ'
    by_cases k : q' = q
    · obtain ⟨rfl, rfl⟩ : C' = C ∧ c' = c := by omega
      subst k; exact hC
    · refine rC_s (h.Ch hQ') ⟨fun j => t.i _ _ (by omega) (by omega), fun j => t.l _ _ (by omega), fun j => t.i _ _ (by omega) (by omega), ⟨t.qi _ _ (by decide) k, t.ql _ _ k, t.ql _ _ k, t.qi _ _ (by decide) k, t.qi _ _ (by decide) k, t.qi _ _ (by decide) k⟩, fun i hi => t.b _ (by omega)⟩
  · exact ⟨(t.i _ _ (by omega) (by omega)).trans (h.g.1.trans (t.ti _ _ (by decide) (by decide) (by decide) (by decide) (by decide)).symm), by rw [t.i _ _ (by omega) (by omega), t.tl _ _ (by decide) (by decide)]; exact h.g.2⟩
theorem hQ_ne (hQ : rQ C q c) : C ≠ C + 3 := by omega
/-- an answer, or a new channel -/
theorem Rel_connect (hQ : rQ C q c) (h : Rel σ τ) {x y : Int64} : Rel (p_Ch_connect C x y σ) (xb_sl (xb_sl (xb_si τ 28 q 2) 29 q x) 30 q y) := by
  have hC := h.Ch hQ
  refine Rel_C1 hQ h ?_ ?_
  · unfold p_Ch_connect
    refine ⟨?_, ?_, ?_, ?_, ?_, ?_, ?_⟩ <;> intros <;> simp [xb_ri, xb_rl, xb_i_l, xb_l_i, *]
  · obtain ⟨f, a, b, d, hf, hs, e1, e2, e3, e4, hi⟩ := hC.nu
    unfold p_Ch_connect
    refine ⟨?_, ?_, ?_, ?_, ?_, ?_, ?_, ⟨f, a, b, d, hf, hs, ?_, ?_, ?_, ?_, ?_⟩, ?_⟩
    · simpa [xb_ri, xb_rl, xb_i_l, xb_l_i, ps_i, ps_l, qs_i, qs_l, qs_7, sp_lnD] using hC.ix
    · simp [xb_ri, xb_rl, xb_i_l, xb_l_i, ps_i, ps_l, qs_i, qs_l, qs_7, sp_lnD]
    · simp [xb_ri, xb_rl, xb_i_l, xb_l_i, ps_i, ps_l, qs_i, qs_l, qs_7, sp_lnD]
    · simp [xb_ri, xb_rl, xb_i_l, xb_l_i, ps_i, ps_l, qs_i, qs_l, qs_7, sp_lnD]
    · simpa [xb_ri, xb_rl, xb_i_l, xb_l_i, ps_i, ps_l, qs_i, qs_l, qs_7, sp_lnD] using hC.ro
    · simpa [xb_ri, xb_rl, xb_i_l, xb_l_i, ps_i, ps_l, qs_i, qs_l, qs_7, sp_lnD] using hC.he
    · simpa [xb_ri, xb_rl, xb_i_l, xb_l_i, ps_i, ps_l, qs_i, qs_l, qs_7, sp_lnD] using hC.ta
    · simpa [xb_ri, xb_rl, xb_i_l, xb_l_i, ps_i, ps_l, qs_i, qs_l, qs_7, sp_lnD] using e1
    · simpa [xb_ri, xb_rl, xb_i_l, xb_l_i, ps_i, ps_l, qs_i, qs_l, qs_7, sp_lnD] using e2
    · simpa [xb_ri, xb_rl, xb_i_l, xb_l_i, ps_i, ps_l, qs_i, qs_l, qs_7, sp_lnD] using e3
    · simpa [xb_ri, xb_rl, xb_i_l, xb_l_i, ps_i, ps_l, qs_i, qs_l, qs_7, sp_lnD] using e4
    · simpa [xb_ri, xb_rl, xb_i_l, xb_l_i, ps_i, ps_l, qs_i, qs_l, qs_7, sp_lnD] using hi
    · simp [xb_ri, xb_rl, xb_i_l, xb_l_i, ps_i, ps_l, qs_i, qs_l, qs_7, sp_lnD]
theorem Rel_free (hQ : rQ C q c) (h : Rel σ τ) : Rel (p_Ch_free C σ) (q_release q τ) := by
  have hC := h.Ch hQ
  refine Rel_C1 hQ h ?_ ?_
  · unfold p_Ch_free p_Ch_empty q_release
    refine ⟨?_, ?_, ?_, ?_, ?_, ?_, ?_⟩ <;> intros <;> simp [xb_ri, xb_rl, xb_i_l, xb_l_i, *]
  · unfold p_Ch_free p_Ch_empty q_release
    refine ⟨?_, ?_, ?_, ?_, ?_, ?_, ?_, ⟨0, 0, 0, 0, by decide, by decide, ?_, ?_, ?_, ?_, ?_⟩, ?_⟩
    · simpa [xb_ri, xb_rl, xb_i_l, xb_l_i, ps_i, ps_l, qs_i, qs_l, qs_7, sp_lnD] using hC.ix
    · simp [xb_ri, xb_rl, xb_i_l, xb_l_i, ps_i, ps_l, qs_i, qs_l, qs_7, sp_lnD]
    · simp [xb_ri, xb_rl, xb_i_l, xb_l_i, ps_i, ps_l, qs_i, qs_l, qs_7, sp_lnD]
    · simp [xb_ri, xb_rl, xb_i_l, xb_l_i, ps_i, ps_l, qs_i, qs_l, qs_7, sp_lnD]
    · simp [xb_ri, xb_rl, xb_i_l, xb_l_i, ps_i, ps_l, qs_i, qs_l, qs_7, sp_lnD]
    · simp [xb_ri, xb_rl, xb_i_l, xb_l_i, ps_i, ps_l, qs_i, qs_l, qs_7, sp_lnD]
    · simp [xb_ri, xb_rl, xb_i_l, xb_l_i, ps_i, ps_l, qs_i, qs_l, qs_7, sp_lnD]
    · simp [xb_ri, xb_rl, xb_i_l, xb_l_i, ps_i, ps_l, qs_i, qs_l, qs_7, sp_lnD]; rfl
    · simp [xb_ri, xb_rl, xb_i_l, xb_l_i, ps_i, ps_l, qs_i, qs_l, qs_7, sp_lnD]; rfl
    · simp [xb_ri, xb_rl, xb_i_l, xb_l_i, ps_i, ps_l, qs_i, qs_l, qs_7, sp_lnD]; rfl
    · simp [xb_ri, xb_rl, xb_i_l, xb_l_i, ps_i, ps_l, qs_i, qs_l, qs_7, sp_lnD]; rfl
    · intro i hi; omega
    · simp [xb_ri, xb_rl, xb_i_l, xb_l_i, ps_i, ps_l, qs_i, qs_l, qs_7, sp_lnD]
theorem Rel_window (hQ : rQ C q c) (h : Rel σ τ) {x : Int64} (hs : ¬ τ.1 28 q = 0) : Rel (xb_sl σ C 4 (σ.2 C 4 + x)) (xb_sl τ 30 q (τ.2 30 q + x)) := by
  have hC := h.Ch hQ
  refine Rel_C1 hQ h ?_ ?_
  · refine ⟨?_, ?_, ?_, ?_, ?_, ?_, ?_⟩ <;> intros <;> simp [xb_ri, xb_rl, xb_i_l, xb_l_i, *]
  · obtain ⟨f, a, b, d, hf, hu, e1, e2, e3, e4, hi⟩ := hC.nu
    refine ⟨?_, ?_, ?_, ?_, ?_, ?_, ?_, ⟨f, a, b, d, hf, hu, ?_, ?_, ?_, ?_, ?_⟩, ?_⟩
    · simpa [xb_ri, xb_rl, xb_i_l, xb_l_i, ps_i, ps_l, qs_i, qs_l, qs_7, sp_lnD] using hC.ix
    · simpa [xb_ri, xb_rl, xb_i_l, xb_l_i, ps_i, ps_l, qs_i, qs_l, qs_7, sp_lnD] using hC.st
    · simpa [xb_ri, xb_rl, xb_i_l, xb_l_i, ps_i, ps_l, qs_i, qs_l, qs_7, sp_lnD] using hC.pe
    · simp [xb_ri, xb_rl, xb_i_l, xb_l_i, ps_i, ps_l, qs_i, qs_l, qs_7, sp_lnD, hC.wi]
    · simpa [xb_ri, xb_rl, xb_i_l, xb_l_i, ps_i, ps_l, qs_i, qs_l, qs_7, sp_lnD] using hC.ro
    · simpa [xb_ri, xb_rl, xb_i_l, xb_l_i, ps_i, ps_l, qs_i, qs_l, qs_7, sp_lnD] using hC.he
    · simpa [xb_ri, xb_rl, xb_i_l, xb_l_i, ps_i, ps_l, qs_i, qs_l, qs_7, sp_lnD] using hC.ta
    · simpa [xb_ri, xb_rl, xb_i_l, xb_l_i, ps_i, ps_l, qs_i, qs_l, qs_7, sp_lnD] using e1
    · simpa [xb_ri, xb_rl, xb_i_l, xb_l_i, ps_i, ps_l, qs_i, qs_l, qs_7, sp_lnD] using e2
    · simpa [xb_ri, xb_rl, xb_i_l, xb_l_i, ps_i, ps_l, qs_i, qs_l, qs_7, sp_lnD] using e3
    · simpa [xb_ri, xb_rl, xb_i_l, xb_l_i, ps_i, ps_l, qs_i, qs_l, qs_7, sp_lnD] using e4
    · simpa [xb_ri, xb_rl, xb_i_l, xb_l_i, ps_i, ps_l, qs_i, qs_l, qs_7, sp_lnD] using hi
    · simp [xb_ri, xb_rl, xb_i_l, xb_l_i, ps_i, ps_l, qs_i, qs_l, qs_7, sp_lnD, hs]
theorem Rel_windowS (hQ : rQ C q c) (h : Rel σ τ) {x : Int64} (hs : ¬ τ.1 28 q = 0) : Rel (xb_sl σ C 4 (σ.2 C 4 - x)) (xb_sl τ 30 q (τ.2 30 q - x)) := by
  have hC := h.Ch hQ
  refine Rel_C1 hQ h ?_ ?_
  · refine ⟨?_, ?_, ?_, ?_, ?_, ?_, ?_⟩ <;> intros <;> simp [xb_ri, xb_rl, xb_i_l, xb_l_i, *]
  · obtain ⟨f, a, b, d, hf, hu, e1, e2, e3, e4, hi⟩ := hC.nu
    refine ⟨?_, ?_, ?_, ?_, ?_, ?_, ?_, ⟨f, a, b, d, hf, hu, ?_, ?_, ?_, ?_, ?_⟩, ?_⟩
    · simpa [xb_ri, xb_rl, xb_i_l, xb_l_i, ps_i, ps_l, qs_i, qs_l, qs_7, sp_lnD] using hC.ix
    · simpa [xb_ri, xb_rl, xb_i_l, xb_l_i, ps_i, ps_l, qs_i, qs_l, qs_7, sp_lnD] using hC.st
    · simpa [xb_ri, xb_rl, xb_i_l, xb_l_i, ps_i, ps_l, qs_i, qs_l, qs_7, sp_lnD] using hC.pe
    · simp [xb_ri, xb_rl, xb_i_l, xb_l_i, ps_i, ps_l, qs_i, qs_l, qs_7, sp_lnD, hC.wi]
    · simpa [xb_ri, xb_rl, xb_i_l, xb_l_i, ps_i, ps_l, qs_i, qs_l, qs_7, sp_lnD] using hC.ro
    · simpa [xb_ri, xb_rl, xb_i_l, xb_l_i, ps_i, ps_l, qs_i, qs_l, qs_7, sp_lnD] using hC.he
    · simpa [xb_ri, xb_rl, xb_i_l, xb_l_i, ps_i, ps_l, qs_i, qs_l, qs_7, sp_lnD] using hC.ta
    · simpa [xb_ri, xb_rl, xb_i_l, xb_l_i, ps_i, ps_l, qs_i, qs_l, qs_7, sp_lnD] using e1
    · simpa [xb_ri, xb_rl, xb_i_l, xb_l_i, ps_i, ps_l, qs_i, qs_l, qs_7, sp_lnD] using e2
    · simpa [xb_ri, xb_rl, xb_i_l, xb_l_i, ps_i, ps_l, qs_i, qs_l, qs_7, sp_lnD] using e3
    · simpa [xb_ri, xb_rl, xb_i_l, xb_l_i, ps_i, ps_l, qs_i, qs_l, qs_7, sp_lnD] using e4
    · simpa [xb_ri, xb_rl, xb_i_l, xb_l_i, ps_i, ps_l, qs_i, qs_l, qs_7, sp_lnD] using hi
    · simp [xb_ri, xb_rl, xb_i_l, xb_l_i, ps_i, ps_l, qs_i, qs_l, qs_7, sp_lnD, hs]
/-- room for what is read -/
theorem Rel_room (hQ : rQ C q c) (h : Rel σ τ) (hs : ¬ τ.1 28 q = 0) : Rel (xb_si (xb_si σ C 5 (σ.1 C 5 + σ.1 C 8)) C 8 0) (xb_si (xb_si τ 33 q 0) 31 q (τ.1 31 q + τ.1 33 q)) := by
  have hC := h.Ch hQ
  refine Rel_C1 hQ h ?_ ?_
  · refine ⟨?_, ?_, ?_, ?_, ?_, ?_, ?_⟩ <;> intros <;> simp [xb_ri, xb_rl, xb_i_l, xb_l_i, *]
  · obtain ⟨f, a, b, d, hf, hu, e1, e2, e3, e4, hi⟩ := hC.nu
    refine ⟨?_, ?_, ?_, ?_, ?_, ?_, ?_, ⟨f, a + d, b, 0, hf, by omega, ?_, ?_, ?_, ?_, ?_⟩, ?_⟩
    · simpa [xb_ri, xb_rl, xb_i_l, xb_l_i, ps_i, ps_l, qs_i, qs_l, qs_7, sp_lnD] using hC.ix
    · simpa [xb_ri, xb_rl, xb_i_l, xb_l_i, ps_i, ps_l, qs_i, qs_l, qs_7, sp_lnD] using hC.st
    · simpa [xb_ri, xb_rl, xb_i_l, xb_l_i, ps_i, ps_l, qs_i, qs_l, qs_7, sp_lnD] using hC.pe
    · simpa [xb_ri, xb_rl, xb_i_l, xb_l_i, ps_i, ps_l, qs_i, qs_l, qs_7, sp_lnD] using hC.wi
    · simp [xb_ri, xb_rl, xb_i_l, xb_l_i, ps_i, ps_l, qs_i, qs_l, qs_7, sp_lnD, hC.ro, hC.ta]
    · simpa [xb_ri, xb_rl, xb_i_l, xb_l_i, ps_i, ps_l, qs_i, qs_l, qs_7, sp_lnD] using hC.he
    · simp [xb_ri, xb_rl, xb_i_l, xb_l_i, ps_i, ps_l, qs_i, qs_l, qs_7, sp_lnD]
    · simpa [xb_ri, xb_rl, xb_i_l, xb_l_i, ps_i, ps_l, qs_i, qs_l, qs_7, sp_lnD] using e1
    · simp [xb_ri, xb_rl, xb_i_l, xb_l_i, ps_i, ps_l, qs_i, qs_l, qs_7, sp_lnD, e2, e4]; exact nI_add a d
    · simpa [xb_ri, xb_rl, xb_i_l, xb_l_i, ps_i, ps_l, qs_i, qs_l, qs_7, sp_lnD] using e3
    · simp [xb_ri, xb_rl, xb_i_l, xb_l_i, ps_i, ps_l, qs_i, qs_l, qs_7, sp_lnD]; rfl
    · simpa [xb_ri, xb_rl, xb_i_l, xb_l_i, ps_i, ps_l, qs_i, qs_l, qs_7, sp_lnD] using hi
    · simp [xb_ri, xb_rl, xb_i_l, xb_l_i, ps_i, ps_l, qs_i, qs_l, qs_7, sp_lnD, hs]
/-- closed by this end: nothing is held, stage 3 -/
theorem Rel_shut (hQ : rQ C q c) (h : Rel σ τ) : Rel (xb_si (p_Ch_empty C σ) C 2 3) (xb_si (xb_si τ 28 q 3) 32 q 0) := by
  have hC := h.Ch hQ
  refine Rel_C1 hQ h ?_ ?_
  · unfold p_Ch_empty
    refine ⟨?_, ?_, ?_, ?_, ?_, ?_, ?_⟩ <;> intros <;> simp [xb_ri, xb_rl, xb_i_l, xb_l_i, *]
  · obtain ⟨f, a, b, d, hf, hu, e1, e2, e3, e4, hi⟩ := hC.nu
    unfold p_Ch_empty
    refine ⟨?_, ?_, ?_, ?_, ?_, ?_, ?_, ⟨0, a, 0, d, by decide, by omega, ?_, ?_, ?_, ?_, ?_⟩, ?_⟩
    · simpa [xb_ri, xb_rl, xb_i_l, xb_l_i, ps_i, ps_l, qs_i, qs_l, qs_7, sp_lnD] using hC.ix
    · simp [xb_ri, xb_rl, xb_i_l, xb_l_i, ps_i, ps_l, qs_i, qs_l, qs_7, sp_lnD]
    · simpa [xb_ri, xb_rl, xb_i_l, xb_l_i, ps_i, ps_l, qs_i, qs_l, qs_7, sp_lnD] using hC.pe
    · simpa [xb_ri, xb_rl, xb_i_l, xb_l_i, ps_i, ps_l, qs_i, qs_l, qs_7, sp_lnD] using hC.wi
    · simpa [xb_ri, xb_rl, xb_i_l, xb_l_i, ps_i, ps_l, qs_i, qs_l, qs_7, sp_lnD] using hC.ro
    · simp [xb_ri, xb_rl, xb_i_l, xb_l_i, ps_i, ps_l, qs_i, qs_l, qs_7, sp_lnD]
    · simpa [xb_ri, xb_rl, xb_i_l, xb_l_i, ps_i, ps_l, qs_i, qs_l, qs_7, sp_lnD] using hC.ta
    · simp [xb_ri, xb_rl, xb_i_l, xb_l_i, ps_i, ps_l, qs_i, qs_l, qs_7, sp_lnD]; rfl
    · simpa [xb_ri, xb_rl, xb_i_l, xb_l_i, ps_i, ps_l, qs_i, qs_l, qs_7, sp_lnD] using e2
    · simp [xb_ri, xb_rl, xb_i_l, xb_l_i, ps_i, ps_l, qs_i, qs_l, qs_7, sp_lnD]; rfl
    · simpa [xb_ri, xb_rl, xb_i_l, xb_l_i, ps_i, ps_l, qs_i, qs_l, qs_7, sp_lnD] using e4
    · intro i hi; omega
    · simp [xb_ri, xb_rl, xb_i_l, xb_l_i, ps_i, ps_l, qs_i, qs_l, qs_7, sp_lnD]
/-- a channel that was free is taken: asked for, or connected; v: its stage -/
theorem Rel_new (hQ : rQ C q c) (h : Rel σ τ) (hs : τ.1 28 q = 0) {v : Int32} {x y : Int64} (hv : ¬ v = 0) : Rel (xb_si (xb_sl (xb_sl (xb_si σ C 2 v) C 3 x) C 4 y) C 5 24) (xb_si (xb_sl (xb_sl (xb_si (q_release q τ) 28 q v) 29 q x) 30 q y) 31 q 24) := by
  have hC := h.Ch hQ
  obtain ⟨z1, z2, z3, z4, z5⟩ := hC.z hs
  refine Rel_C1 hQ h ?_ ?_
  · unfold q_release
    refine ⟨?_, ?_, ?_, ?_, ?_, ?_, ?_⟩ <;> intros <;> simp [xb_ri, xb_rl, xb_i_l, xb_l_i, *]
  · obtain ⟨f, a, b, d, hf, hu, e1, e2, e3, e4, hi⟩ := hC.nu
    have hb : b = 0 := (nI_eq (a := b) (b := 0) (by omega) (by decide)).mp (e3.symm.trans z4)
    subst hb
    unfold q_release
    refine ⟨?_, ?_, ?_, ?_, ?_, ?_, ?_, ⟨f, 24, 0, 0, hf, by decide, ?_, ?_, ?_, ?_, ?_⟩, ?_⟩
    · simpa [xb_ri, xb_rl, xb_i_l, xb_l_i, ps_i, ps_l, qs_i, qs_l, qs_7, sp_lnD] using hC.ix
    · simp [xb_ri, xb_rl, xb_i_l, xb_l_i, ps_i, ps_l, qs_i, qs_l, qs_7, sp_lnD]
    · simp [xb_ri, xb_rl, xb_i_l, xb_l_i, ps_i, ps_l, qs_i, qs_l, qs_7, sp_lnD]
    · simp [xb_ri, xb_rl, xb_i_l, xb_l_i, ps_i, ps_l, qs_i, qs_l, qs_7, sp_lnD]
    · simp [xb_ri, xb_rl, xb_i_l, xb_l_i, ps_i, ps_l, qs_i, qs_l, qs_7, sp_lnD]
    · simpa [xb_ri, xb_rl, xb_i_l, xb_l_i, ps_i, ps_l, qs_i, qs_l, qs_7, sp_lnD] using hC.he.trans z4
    · simpa [xb_ri, xb_rl, xb_i_l, xb_l_i, ps_i, ps_l, qs_i, qs_l, qs_7, sp_lnD] using hC.ta.trans z5
    · simpa [xb_ri, xb_rl, xb_i_l, xb_l_i, ps_i, ps_l, qs_i, qs_l, qs_7, sp_lnD] using e1
    · simp [xb_ri, xb_rl, xb_i_l, xb_l_i, ps_i, ps_l, qs_i, qs_l, qs_7, sp_lnD]; rfl
    · simp [xb_ri, xb_rl, xb_i_l, xb_l_i, ps_i, ps_l, qs_i, qs_l, qs_7, sp_lnD]; rfl
    · simp [xb_ri, xb_rl, xb_i_l, xb_l_i, ps_i, ps_l, qs_i, qs_l, qs_7, sp_lnD]; rfl
    · intro i hi; omega
    · simp [xb_ri, xb_rl, xb_i_l, xb_l_i, ps_i, ps_l, qs_i, qs_l, qs_7, sp_lnD, hv]
end
