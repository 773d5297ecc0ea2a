abbrev rQ (C q c : Nat) : Prop := (C = 14 ∧ q = 0 ∧ c = 0) ∨ (C = 15 ∧ q = 1 ∧ c = 1) ∨ (C = 16 ∧ q = 2 ∧ c = 2) ∨ (C = 29 ∧ q = 3 ∧ c = 0) ∨ (C = 30 ∧ q = 4 ∧ c = 1) ∨ (C = 31 ∧ q = 5 ∧ c = 2)
section
variable {B e C q c : Nat} {σ σ' τ τ' : xb_St}
theorem Rel.E (h : Rel σ τ) (hB : rB B e) : rE B e σ τ := by
  rcases hB with ⟨rfl, rfl⟩ | ⟨rfl, rfl⟩
  · exact h.e0
  · exact h.e1
theorem Rel.L (h : Rel σ τ) (he : e < 2) : rL e σ τ := by
  obtain rfl | rfl : e = 0 ∨ e = 1 := by omega
  · exact h.l0
  · exact h.l1
theorem Rel.Ch (h : Rel σ τ) (hQ : rQ C q c) : rC C q c σ τ := by
  rcases hQ with ⟨rfl, rfl, rfl⟩ | ⟨rfl, rfl, rfl⟩ | ⟨rfl, rfl, rfl⟩ | ⟨rfl, rfl, rfl⟩ | ⟨rfl, rfl, rfl⟩ | ⟨rfl, rfl, rfl⟩
  · exact h.c0
  · exact h.c1
  · exact h.c2
  · exact h.c3
  · exact h.c4
  · exact h.c5
theorem Rel.mk (l : ∀ e, e < 2 → rL e σ τ) (E : ∀ B e, rB B e → rE B e σ τ) (C : ∀ C q c, rQ C q c → rC C q c σ τ) (g : rG σ τ) : Rel σ τ :=
  ⟨l 0 (by decide), l 1 (by decide), E 5 0 (Or.inl ⟨rfl, rfl⟩), E 20 1 (Or.inr ⟨rfl, rfl⟩), C 14 0 0 (by decide), C 15 1 1 (by decide), C 16 2 2 (by decide), C 29 3 0 (by decide), C 30 4 1 (by decide), C 31 5 2 (by decide), g⟩
theorem rB.lt (hB : rB B e) : e < 2 := by omega
/-- one endpoint is touched, and the lines -/
theorem Rel_E (hB : rB B e) (h : Rel σ τ) (l : ∀ e, e < 2 → rL e σ' τ') (hE : rE B e σ' τ') (hO : sE (25 - B) (1 - e) σ σ' τ τ') (hC : ∀ C q c, rQ C q c → sC C q σ σ' τ τ') (g : rG σ' τ') : Rel σ' τ' := by
  refine Rel.mk l ?_ (fun C q c hQ => rC_s (h.Ch hQ) (hC C q c hQ)) g
  intro B' e' hB'
  by_cases q : e' = e
  · obtain rfl : B' = B := by omega
    subst q; exact hE
  · obtain ⟨rfl, rfl⟩ : B' = 25 - B ∧ e' = 1 - e := by omega
    exact rE_same (by omega) (h.E hB') hO
/-- one channel is touched, and its endpoint's keys and lines -/
theorem Rel_C (hB : rB B e) (hQ : rQ C q c) (h : Rel σ τ) (l : ∀ e, e < 2 → rL e σ' τ') (hE : rE B e σ' τ') (hO : sE (25 - B) (1 - e) σ σ' τ τ') (hC : rC C q c σ' τ') (hC' : ∀ C' q' c', rQ C' q' c' → q' ≠ q → sC C' q' σ σ' τ τ') (g : rG σ' τ') : Rel σ' τ' := by
  refine Rel.mk l ?_ ?_ g
  · intro B' e' hB'
    by_cases q : e' = e
    · obtain rfl : B' = B := by omega
      subst q; exact hE
    · obtain ⟨rfl, rfl⟩ : B' = 25 - B ∧ e' = 1 - e := by omega
      exact rE_same (by omega) (h.E hB') hO
  · intro C' q' c' hQ'
    by_cases k : q' = q
    · obtain ⟨rfl, rfl⟩ : C' = C ∧ c' = c := by omega
      subst k; exact hC
    · exact rC_s (h.Ch hQ') (hC' C' q' c' hQ' k)
theorem rL_n (h : rL e σ τ) : ∃ n : Nat, n ≤ 16 ∧ τ.1 24 e = nI n := by
  obtain ⟨n, hn, -, e2, -⟩ := h
  exact ⟨n, hn, e2⟩
theorem lines_send (hB : rB B e) {x1 : Int32} {x2 x3 x4 x5 : Int64} (k : rK (B + 4) (2 * e) (τ.1 7 e) σ τ) (l : ∀ e, e < 2 → rL e σ τ) : ∀ e', e' < 2 → rL e' (p_send B x1 x2 x3 x4 x5 σ) (q_send e x1 x2 x3 x4 x5 τ) := by
  intro e' he'
  by_cases q : e' = e
  · subst q; exact rL_send' hB (l e' he') (rL_n (l (1 - e') (by omega)))
  · obtain rfl : e' = 1 - e := by omega
    exact rL_send hB k (l _ (by omega))
set_option maxHeartbeats 4000000 in
theorem Rel_send (hB : rB B e) {x1 : Int32} {x2 x3 x4 x5 : Int64} (h : Rel σ τ) : Rel (p_send B x1 x2 x3 x4 x5 σ) (q_send e x1 x2 x3 x4 x5 τ) := by
  have hE := h.E hB
  have hl := lines_send (x1 := x1) (x2 := x2) (x3 := x3) (x4 := x4) (x5 := x5) hB hE.ko (fun e he => h.L he)
  have hg : σ.1 5 17 = τ.1 0 5 ∧ (σ.1 20 17).toInt64 = τ.2 0 4 := h.g
  rcases hB with ⟨rfl, rfl⟩ | ⟨rfl, rfl⟩
  · refine Rel_E (Or.inl ⟨rfl, rfl⟩) h hl ?_ ?_ ?_ ?_
    · refine ⟨by simpa [xb_ri, xb_rl, xb_i_l, xb_l_i, ps_i, ps_l, qs_i, qs_l, qs_7, sp_lnD] using hE.ph, by simpa [xb_ri, xb_rl, xb_i_l, xb_l_i, ps_i, ps_l, qs_i, qs_l, qs_7, sp_lnD] using hE.re, by simpa [xb_ri, xb_rl, xb_i_l, xb_l_i, ps_i, ps_l, qs_i, qs_l, qs_7, sp_lnD] using hE.di, by simpa [xb_ri, xb_rl, xb_i_l, xb_l_i, ps_i, ps_l, qs_i, qs_l, qs_7, sp_lnD] using hE.ci, by simpa [xb_ri, xb_rl, xb_i_l, xb_l_i, ps_i, ps_l, qs_i, qs_l, qs_7, sp_lnD] using hE.cl, by simpa [xb_ri, xb_rl, xb_i_l, xb_l_i, ps_i, ps_l, qs_i, qs_l, qs_7, sp_lnD] using hE.ta, by simpa [xb_ri, xb_rl, xb_i_l, xb_l_i, ps_i, ps_l, qs_i, qs_l, qs_7, sp_lnD] using hE.tl, by simpa [xb_ri, xb_rl, xb_i_l, xb_l_i, ps_i, ps_l, qs_i, qs_l, qs_7, sp_lnD] using hE.se, by simpa [xb_ri, xb_rl, xb_i_l, xb_l_i, ps_i, ps_l, qs_i, qs_l, qs_7, sp_lnD] using hE.it, by simpa [xb_ri, xb_rl, xb_i_l, xb_l_i, ps_i, ps_l, qs_i, qs_l, qs_7, sp_lnD] using hE.hs, by simpa [xb_ri, xb_rl, xb_i_l, xb_l_i, ps_i, ps_l, qs_i, qs_l, qs_7, sp_lnD] using hE.ss, by simpa [xb_ri, xb_rl, xb_i_l, xb_l_i, ps_i, ps_l, qs_i, qs_l, qs_7, sp_lnD] using hE.s0, by simpa [xb_ri, xb_rl, xb_i_l, xb_l_i, ps_i, ps_l, qs_i, qs_l, qs_7, sp_lnD] using hE.tu, ?_, rK_same hE.ki ⟨by simp [xb_ri, xb_rl, xb_i_l, xb_l_i, ps_i, ps_l, qs_i, qs_l, qs_7, sp_lnD], by simp [xb_ri, xb_rl, xb_i_l, xb_l_i, ps_i, ps_l, qs_i, qs_l, qs_7, sp_lnD], by simp [xb_ri, xb_rl, xb_i_l, xb_l_i, ps_i, ps_l, qs_i, qs_l, qs_7, sp_lnD], by simp [xb_ri, xb_rl, xb_i_l, xb_l_i, ps_i, ps_l, qs_i, qs_l, qs_7, sp_lnD], by simp [xb_ri, xb_rl, xb_i_l, xb_l_i, ps_i, ps_l, qs_i, qs_l, qs_7, sp_lnD]⟩ (by simpa [xb_ri, xb_rl, xb_i_l, xb_l_i, ps_i, ps_l, qs_i, qs_l, qs_7, sp_lnD] using hE.ki.num) ⟨by simp [xb_ri, xb_rl, xb_i_l, xb_l_i, ps_i, ps_l, qs_i, qs_l, qs_7, sp_lnD], by simp [xb_ri, xb_rl, xb_i_l, xb_l_i, ps_i, ps_l, qs_i, qs_l, qs_7, sp_lnD], by simp [xb_ri, xb_rl, xb_i_l, xb_l_i, ps_i, ps_l, qs_i, qs_l, qs_7, sp_lnD], by simp [xb_ri, xb_rl, xb_i_l, xb_l_i, ps_i, ps_l, qs_i, qs_l, qs_7, sp_lnD], by simp [xb_ri, xb_rl, xb_i_l, xb_l_i, ps_i, ps_l, qs_i, qs_l, qs_7, sp_lnD]⟩, by simpa [xb_ri, xb_rl, xb_i_l, xb_l_i, ps_i, ps_l, qs_i, qs_l, qs_7, sp_lnD] using hE.us, by simpa [xb_ri, xb_rl, xb_i_l, xb_l_i, ps_i, ps_l, qs_i, qs_l, qs_7, sp_lnD] using hE.oc, by simpa [xb_ri, xb_rl, xb_i_l, xb_l_i, ps_i, ps_l, qs_i, qs_l, qs_7, sp_lnD] using hE.os, by simpa [xb_ri, xb_rl, xb_i_l, xb_l_i, ps_i, ps_l, qs_i, qs_l, qs_7, sp_lnD] using hE.ol, by simpa [xb_ri, xb_rl, xb_i_l, xb_l_i, ps_i, ps_l, qs_i, qs_l, qs_7, sp_lnD] using hE.ch, by simpa [xb_ri, xb_rl, xb_i_l, xb_l_i, ps_i, ps_l, qs_i, qs_l, qs_7, sp_lnD] using hE.nx, by simpa [xb_ri, xb_rl, xb_i_l, xb_l_i, ps_i, ps_l, qs_i, qs_l, qs_7, sp_lnD] using hE.sh⟩
      exact rK_same hE.ko ⟨ps_k (B := 5) (by decide) (by decide), ps_k (B := 5) (by decide) (by decide), ps_k (B := 5) (by decide) (by decide), by simp [xb_ri, xb_rl, xb_i_l, xb_l_i, ps_i, ps_l, qs_i, qs_l, qs_7, sp_lnD], by simp [xb_ri, xb_rl, xb_i_l, xb_l_i, ps_i, ps_l, qs_i, qs_l, qs_7, sp_lnD]⟩ (by rw [ps_n (B := 5) (by decide), hE.ko.num]; simp [xb_ri, xb_rl, xb_i_l, xb_l_i, ps_i, ps_l, qs_i, qs_l, qs_7, sp_lnD]) ⟨by simp [xb_ri, xb_rl, xb_i_l, xb_l_i, ps_i, ps_l, qs_i, qs_l, qs_7, sp_lnD], by simp [xb_ri, xb_rl, xb_i_l, xb_l_i, ps_i, ps_l, qs_i, qs_l, qs_7, sp_lnD], by simp [xb_ri, xb_rl, xb_i_l, xb_l_i, ps_i, ps_l, qs_i, qs_l, qs_7, sp_lnD], by simp [xb_ri, xb_rl, xb_i_l, xb_l_i, ps_i, ps_l, qs_i, qs_l, qs_7, sp_lnD], by simp [xb_ri, xb_rl, xb_i_l, xb_l_i, ps_i, ps_l, qs_i, qs_l, qs_7, sp_lnD]⟩
    · (refine ⟨?_, ?_, ?_, ?_, ?_, ?_, ?_, ?_, ?_, ?_, ?_, ?_, ?_, ?_, ?_, ?_⟩ <;> (intros; simp [xb_ri, xb_rl, xb_i_l, xb_l_i, ps_i, ps_l, qs_i, qs_l, qs_7, sp_lnD]))
    · intro C q c hQ
      rcases hQ with ⟨rfl, rfl, rfl⟩ | ⟨rfl, rfl, rfl⟩ | ⟨rfl, rfl, rfl⟩ | ⟨rfl, rfl, rfl⟩ | ⟨rfl, rfl, rfl⟩ | ⟨rfl, rfl, rfl⟩ <;> (refine ⟨?_, ?_, ?_, ?_, ?_⟩ <;> (intros; simp [xb_ri, xb_rl, xb_i_l, xb_l_i, ps_i, ps_l, qs_i, qs_l, qs_7, sp_lnD]))
    · unfold rG; simpa [xb_ri, xb_rl, xb_i_l, xb_l_i, ps_i, ps_l, qs_i, qs_l, qs_7, sp_lnD] using hg
  · refine Rel_E (Or.inr ⟨rfl, rfl⟩) h hl ?_ ?_ ?_ ?_
    · refine ⟨by simpa [xb_ri, xb_rl, xb_i_l, xb_l_i, ps_i, ps_l, qs_i, qs_l, qs_7, sp_lnD] using hE.ph, by simpa [xb_ri, xb_rl, xb_i_l, xb_l_i, ps_i, ps_l, qs_i, qs_l, qs_7, sp_lnD] using hE.re, by simpa [xb_ri, xb_rl, xb_i_l, xb_l_i, ps_i, ps_l, qs_i, qs_l, qs_7, sp_lnD] using hE.di, by simpa [xb_ri, xb_rl, xb_i_l, xb_l_i, ps_i, ps_l, qs_i, qs_l, qs_7, sp_lnD] using hE.ci, by simpa [xb_ri, xb_rl, xb_i_l, xb_l_i, ps_i, ps_l, qs_i, qs_l, qs_7, sp_lnD] using hE.cl, by simpa [xb_ri, xb_rl, xb_i_l, xb_l_i, ps_i, ps_l, qs_i, qs_l, qs_7, sp_lnD] using hE.ta, by simpa [xb_ri, xb_rl, xb_i_l, xb_l_i, ps_i, ps_l, qs_i, qs_l, qs_7, sp_lnD] using hE.tl, by simpa [xb_ri, xb_rl, xb_i_l, xb_l_i, ps_i, ps_l, qs_i, qs_l, qs_7, sp_lnD] using hE.se, by simpa [xb_ri, xb_rl, xb_i_l, xb_l_i, ps_i, ps_l, qs_i, qs_l, qs_7, sp_lnD] using hE.it, by simpa [xb_ri, xb_rl, xb_i_l, xb_l_i, ps_i, ps_l, qs_i, qs_l, qs_7, sp_lnD] using hE.hs, by simpa [xb_ri, xb_rl, xb_i_l, xb_l_i, ps_i, ps_l, qs_i, qs_l, qs_7, sp_lnD] using hE.ss, by simpa [xb_ri, xb_rl, xb_i_l, xb_l_i, ps_i, ps_l, qs_i, qs_l, qs_7, sp_lnD] using hE.s0, by simpa [xb_ri, xb_rl, xb_i_l, xb_l_i, ps_i, ps_l, qs_i, qs_l, qs_7, sp_lnD] using hE.tu, ?_, rK_same hE.ki ⟨by simp [xb_ri, xb_rl, xb_i_l, xb_l_i, ps_i, ps_l, qs_i, qs_l, qs_7, sp_lnD], by simp [xb_ri, xb_rl, xb_i_l, xb_l_i, ps_i, ps_l, qs_i, qs_l, qs_7, sp_lnD], by simp [xb_ri, xb_rl, xb_i_l, xb_l_i, ps_i, ps_l, qs_i, qs_l, qs_7, sp_lnD], by simp [xb_ri, xb_rl, xb_i_l, xb_l_i, ps_i, ps_l, qs_i, qs_l, qs_7, sp_lnD], by simp [xb_ri, xb_rl, xb_i_l, xb_l_i, ps_i, ps_l, qs_i, qs_l, qs_7, sp_lnD]⟩ (by simpa [xb_ri, xb_rl, xb_i_l, xb_l_i, ps_i, ps_l, qs_i, qs_l, qs_7, sp_lnD] using hE.ki.num) ⟨by simp [xb_ri, xb_rl, xb_i_l, xb_l_i, ps_i, ps_l, qs_i, qs_l, qs_7, sp_lnD], by simp [xb_ri, xb_rl, xb_i_l, xb_l_i, ps_i, ps_l, qs_i, qs_l, qs_7, sp_lnD], by simp [xb_ri, xb_rl, xb_i_l, xb_l_i, ps_i, ps_l, qs_i, qs_l, qs_7, sp_lnD], by simp [xb_ri, xb_rl, xb_i_l, xb_l_i, ps_i, ps_l, qs_i, qs_l, qs_7, sp_lnD], by simp [xb_ri, xb_rl, xb_i_l, xb_l_i, ps_i, ps_l, qs_i, qs_l, qs_7, sp_lnD]⟩, by simpa [xb_ri, xb_rl, xb_i_l, xb_l_i, ps_i, ps_l, qs_i, qs_l, qs_7, sp_lnD] using hE.us, by simpa [xb_ri, xb_rl, xb_i_l, xb_l_i, ps_i, ps_l, qs_i, qs_l, qs_7, sp_lnD] using hE.oc, by simpa [xb_ri, xb_rl, xb_i_l, xb_l_i, ps_i, ps_l, qs_i, qs_l, qs_7, sp_lnD] using hE.os, by simpa [xb_ri, xb_rl, xb_i_l, xb_l_i, ps_i, ps_l, qs_i, qs_l, qs_7, sp_lnD] using hE.ol, by simpa [xb_ri, xb_rl, xb_i_l, xb_l_i, ps_i, ps_l, qs_i, qs_l, qs_7, sp_lnD] using hE.ch, by simpa [xb_ri, xb_rl, xb_i_l, xb_l_i, ps_i, ps_l, qs_i, qs_l, qs_7, sp_lnD] using hE.nx, by simpa [xb_ri, xb_rl, xb_i_l, xb_l_i, ps_i, ps_l, qs_i, qs_l, qs_7, sp_lnD] using hE.sh⟩
      exact rK_same hE.ko ⟨ps_k (B := 20) (by decide) (by decide), ps_k (B := 20) (by decide) (by decide), ps_k (B := 20) (by decide) (by decide), by simp [xb_ri, xb_rl, xb_i_l, xb_l_i, ps_i, ps_l, qs_i, qs_l, qs_7, sp_lnD], by simp [xb_ri, xb_rl, xb_i_l, xb_l_i, ps_i, ps_l, qs_i, qs_l, qs_7, sp_lnD]⟩ (by rw [ps_n (B := 20) (by decide), hE.ko.num]; simp [xb_ri, xb_rl, xb_i_l, xb_l_i, ps_i, ps_l, qs_i, qs_l, qs_7, sp_lnD]) ⟨by simp [xb_ri, xb_rl, xb_i_l, xb_l_i, ps_i, ps_l, qs_i, qs_l, qs_7, sp_lnD], by simp [xb_ri, xb_rl, xb_i_l, xb_l_i, ps_i, ps_l, qs_i, qs_l, qs_7, sp_lnD], by simp [xb_ri, xb_rl, xb_i_l, xb_l_i, ps_i, ps_l, qs_i, qs_l, qs_7, sp_lnD], by simp [xb_ri, xb_rl, xb_i_l, xb_l_i, ps_i, ps_l, qs_i, qs_l, qs_7, sp_lnD], by simp [xb_ri, xb_rl, xb_i_l, xb_l_i, ps_i, ps_l, qs_i, qs_l, qs_7, sp_lnD]⟩
    · (refine ⟨?_, ?_, ?_, ?_, ?_, ?_, ?_, ?_, ?_, ?_, ?_, ?_, ?_, ?_, ?_, ?_⟩ <;> (intros; simp [xb_ri, xb_rl, xb_i_l, xb_l_i, ps_i, ps_l, qs_i, qs_l, qs_7, sp_lnD]))
    · intro C q c hQ
      rcases hQ with ⟨rfl, rfl, rfl⟩ | ⟨rfl, rfl, rfl⟩ | ⟨rfl, rfl, rfl⟩ | ⟨rfl, rfl, rfl⟩ | ⟨rfl, rfl, rfl⟩ | ⟨rfl, rfl, rfl⟩ <;> (refine ⟨?_, ?_, ?_, ?_, ?_⟩ <;> (intros; simp [xb_ri, xb_rl, xb_i_l, xb_l_i, ps_i, ps_l, qs_i, qs_l, qs_7, sp_lnD]))
    · unfold rG; simpa [xb_ri, xb_rl, xb_i_l, xb_l_i, ps_i, ps_l, qs_i, qs_l, qs_7, sp_lnD] using hg
end
