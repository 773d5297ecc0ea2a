/-! copy, and the row that send writes -/
theorem qc_i {fr to K j : Nat} {τ : xb_St} : (q_copy fr to τ).1 K j = if K = 25 then (if j = to then τ.1 25 fr else τ.1 25 j) else τ.1 K j := by
  unfold q_copy
  simp only [xb_i_l, xb_ri]
  by_cases h : K = 25
  · subst h; rfl
  · rw [if_neg h, if_neg h]
theorem qc_27 {fr to j : Nat} {τ : xb_St} : (q_copy fr to τ).2 27 j = if j = to then τ.2 27 fr else τ.2 27 j := by
  unfold q_copy
  simp [xb_rl, xb_l_i]
theorem qc_k {fr to K j : Nat} {τ : xb_St} (h1 : K ≠ 26) (h2 : K ≠ 27) : (q_copy fr to τ).2 K j = τ.2 K j := by
  unfold q_copy
  simp [xb_rl, xb_l_i, h1, h2]
theorem qc_26 {fr to r j : Nat} {τ : xb_St} (hj : j < 4) (hne : fr ≠ to) : (q_copy fr to τ).2 26 (4 * r + j) = if r = to then τ.2 26 (4 * fr + j) else τ.2 26 (4 * r + j) := by
  unfold q_copy
  simp only [xb_rl, xb_l_i, if_pos, show ((26 : Nat) = 27) = False from by simp, if_false]
  by_cases h : r = to
  · subst h
    rw [if_pos rfl]
    obtain rfl | rfl | rfl | rfl : j = 0 ∨ j = 1 ∨ j = 2 ∨ j = 3 := by omega
    · rw [if_neg (by omega), if_neg (by omega), if_neg (by omega), if_pos rfl]
    · rw [if_neg (by omega), if_neg (by omega), if_pos rfl, if_neg (by omega)]
    · rw [if_neg (by omega), if_pos rfl, if_neg (by omega), if_neg (by omega)]
    · rw [if_pos rfl, if_neg (by omega), if_neg (by omega), if_neg (by omega)]
  · rw [if_neg h]
    rw [if_neg (by omega), if_neg (by omega), if_neg (by omega), if_neg (by omega)]
theorem add_i {K P K' j : Nat} {σ : xb_St} (h : K' ≠ K) : (p_Line_add K P σ).1 K' j = σ.1 K' j := by
  unfold p_Line_add
  split
  · simp [xb_ri, xb_i_l, h]
  · rfl
theorem add_l {K P K' j : Nat} {σ : xb_St} (h : K' ≠ K + 2) : (p_Line_add K P σ).2 K' j = σ.2 K' j := by
  unfold p_Line_add
  split
  · simp [xb_rl, xb_l_i, h]
  · rfl
theorem cov_i {K P : Nat} {σ : xb_St} : (p_Keys_cover K P σ).1 = σ.1 := by
  unfold p_Keys_cover
  split <;> rfl
theorem cov_l {K P K' j : Nat} {σ : xb_St} (h : K' ≠ P) : (p_Keys_cover K P σ).2 K' j = σ.2 K' j := by
  unfold p_Keys_cover
  split
  · rfl
  · simp [xb_rl, h]
/-- the reference's line with row 32 behind it -/
def q_put (to : Nat) (τ : xb_St) : xb_St := if (16 : Int32) ≤ τ.1 24 to then τ else xb_si (q_copy 32 (16 * to + (τ.1 24 to).toNatClampNeg) τ) 24 to ((q_copy 32 (16 * to + (τ.1 24 to).toNatClampNeg) τ).1 24 to + 1)
theorem rL_put {to P : Nat} {σ τ : xb_St} (ht : to < 2) (hP : P ≠ 3 + to) (h : rL to σ τ) (p0 : σ.1 P 0 = τ.1 25 32) (pj : ∀ j, j < 4 → σ.2 P (1 + j) = τ.2 26 (128 + j)) (p5 : σ.2 P 5 = τ.2 27 32) : rL to (p_Line_add (1 + to) P σ) (q_put to τ) := by
  obtain ⟨n, hn, e1, e2, hk⟩ := h
  unfold p_Line_add q_put
  rw [e1, e2]
  by_cases hl : n < 16
  · have c1 : nI n < (16 : Int32) := (nI_ltI (b := 16) (by omega) (by decide)).mpr hl
    have c2 : ¬ (16 : Int32) ≤ nI n := mt (nI_leI (a := 16) (by decide) (by omega)).mp (by omega)
    rw [if_pos c1, if_neg c2, nI_clamp (by omega)]
    have hP' : P ≠ 1 + to + 2 := by omega
    refine ⟨n + 1, hl, ?_, ?_, fun k hk' => ?_⟩
    · rw [xb_i_hit]; exact nI_1 n
    · rw [xb_i_hit, qc_i, if_neg (by decide), e2]; exact nI_1 n
    · have e3 : 3 + to = 1 + to + 2 := by omega
      rw [e3]
      simp only [xb_l_i, xb_rl, if_pos]
      rw [xb_ri, if_neg (show (25 : Nat) ≠ 24 by decide), qc_i, if_pos rfl, qc_27]
      by_cases q : k = n
      · subst q
        rw [if_pos rfl, if_pos rfl]
        refine ⟨?_, fun j hj => ?_, ?_⟩
        · rw [if_neg (by omega), if_neg (by omega), if_neg (by omega), if_neg (by omega), if_neg (by omega), if_pos (by omega), p0]
        · rw [qc_26 hj (by omega), if_pos rfl]
          have := pj j hj
          obtain rfl | rfl | rfl | rfl : j = 0 ∨ j = 1 ∨ j = 2 ∨ j = 3 := by omega
          · rw [if_neg (by omega), if_neg (by omega), if_neg (by omega), if_neg (by omega), if_pos (by omega)]; exact this
          · rw [if_neg (by omega), if_neg (by omega), if_neg (by omega), if_pos (by omega)]; exact this
          · rw [if_neg (by omega), if_neg (by omega), if_pos (by omega)]; exact this
          · rw [if_neg (by omega), if_pos (by omega)]; exact this
        · rw [if_pos (by omega)]; exact p5
      · have f := hk k (by omega)
        rw [e3] at f
        have hne : ¬ (16 * to + k = 16 * to + n) := by omega
        rw [if_neg hne, if_neg hne]
        refine ⟨?_, fun j hj => ?_, ?_⟩
        · rw [if_neg (by omega), if_neg (by omega), if_neg (by omega), if_neg (by omega), if_neg (by omega), if_neg (by omega)]; exact f.1
        · rw [qc_26 hj (by omega), if_neg (by omega)]
          rw [if_neg (by omega), if_neg (by omega), if_neg (by omega), if_neg (by omega), if_neg (by omega), if_neg (by omega)]; exact f.2.1 j hj
        · rw [if_neg (by omega), if_neg (by omega), if_neg (by omega), if_neg (by omega), if_neg (by omega), if_neg (by omega)]; exact f.2.2
  · obtain rfl : n = 16 := by omega
    have c1 : ¬ nI 16 < (16 : Int32) := by decide
    have c2 : (16 : Int32) ≤ nI 16 := by decide
    rw [if_neg c1, if_pos c2]
    exact ⟨16, hn, e1, e2, hk⟩
/-- what send writes into row 32 before it puts it into the line -/
def q_row (e1 : Nat) (x2 : Int32) (x3 x4 x5 x6 : Int64) (τ : xb_St) : xb_St :=
  if τ.1 17 (2 * e1) = 0 then xb_si (xb_sl (xb_sl (xb_sl (xb_sl (xb_sl (xb_si τ 25 32 x2) 27 32 0) 26 128 x3) 26 129 x4) 26 130 x5) 26 131 x6) 7 e1 (τ.1 7 e1 + 1)
  else xb_si (xb_sl (xb_sl (xb_sl (xb_sl (xb_sl (xb_sl (xb_sl (xb_sl (xb_sl (xb_si τ 25 32 x2) 27 32 (g_tagOf (τ.2 19 (2 * e1)) (τ.1 21 (2 * e1)) (τ.1 7 e1) x2 x3 x4 x5 x6)) 26 128 x3) 26 129 x4) 26 130 x5) 26 131 x6) 26 128 (x3 ^^^ (g_mask (τ.2 18 (2 * e1)) (τ.1 20 (2 * e1)) (τ.1 7 e1) 1))) 26 129 (x4 ^^^ (g_mask (τ.2 18 (2 * e1)) (τ.1 20 (2 * e1)) (τ.1 7 e1) 2))) 26 130 (x5 ^^^ (g_mask (τ.2 18 (2 * e1)) (τ.1 20 (2 * e1)) (τ.1 7 e1) 3))) 26 131 (x6 ^^^ (g_mask (τ.2 18 (2 * e1)) (τ.1 20 (2 * e1)) (τ.1 7 e1) 4))) 7 e1 (τ.1 7 e1 + 1)
theorem q_send_is {e1 : Nat} {x2 : Int32} {x3 x4 x5 x6 : Int64} {τ : xb_St} : q_send e1 x2 x3 x4 x5 x6 τ = q_put (1 - e1) (q_row e1 x2 x3 x4 x5 x6 τ) := by
  unfold q_send q_put q_row
  by_cases h : τ.1 17 (2 * e1) = 0
  · simp only [if_pos h]
    rfl
  · simp only [if_neg h]
    rfl
/-- what send makes of the packet before it adds it -/
def p_made (B : Nat) (x1 : Int32) (x2 x3 x4 x5 : Int64) (σ : xb_St) : xb_St :=
  xb_sl (xb_sl (xb_sl (xb_sl (xb_sl (xb_si σ (B + 2) 0 x1) (B + 2) 1 x2) (B + 2) 2 x3) (B + 2) 3 x4) (B + 2) 4 x5) (B + 2) 5 (p_Keys_tagOf (B + 4) (B + 2) (xb_sl (xb_sl (xb_sl (xb_sl (xb_si σ (B + 2) 0 x1) (B + 2) 1 x2) (B + 2) 2 x3) (B + 2) 3 x4) (B + 2) 4 x5))
theorem p_send_is {B : Nat} {x1 : Int32} {x2 x3 x4 x5 : Int64} {σ : xb_St} : p_send B x1 x2 x3 x4 x5 σ = p_Line_add (sp_lnD B) (B + 2) (xb_si (p_Keys_cover (B + 4) (B + 2) (p_made B x1 x2 x3 x4 x5 σ)) (B + 4) 5 ((p_Keys_cover (B + 4) (B + 2) (p_made B x1 x2 x3 x4 x5 σ)).1 (B + 4) 5 + 1)) := rfl
section
variable {B e : Nat} {x1 : Int32} {x2 x3 x4 x5 : Int64} {σ τ : xb_St}
theorem ps_i {K j : Nat} (h1 : K ≠ B + 2) (h2 : K ≠ B + 4) (h3 : K ≠ sp_lnD B) : (p_send B x1 x2 x3 x4 x5 σ).1 K j = σ.1 K j := by
  rw [p_send_is, add_i h3, xb_i_nk h2, cov_i]
  unfold p_made
  simp [xb_ri, xb_i_l, h1]
theorem ps_k {j : Nat} (h3 : B + 4 ≠ sp_lnD B) (hj : j ≠ 5) : (p_send B x1 x2 x3 x4 x5 σ).1 (B + 4) j = σ.1 (B + 4) j := by
  rw [p_send_is, add_i h3, xb_i_nj hj, cov_i]
  unfold p_made
  simp [xb_ri, xb_i_l]
theorem ps_n (h3 : B + 4 ≠ sp_lnD B) : (p_send B x1 x2 x3 x4 x5 σ).1 (B + 4) 5 = σ.1 (B + 4) 5 + 1 := by
  rw [p_send_is, add_i h3, xb_i_hit, cov_i]
  unfold p_made
  simp [xb_ri, xb_i_l]
theorem ps_l {K j : Nat} (h1 : K ≠ B + 2) (h3 : K ≠ sp_lnD B + 2) : (p_send B x1 x2 x3 x4 x5 σ).2 K j = σ.2 K j := by
  rw [p_send_is, add_l h3, xb_l_i, cov_l h1]
  unfold p_made
  simp [xb_rl, xb_l_i, h1]
theorem qp_i {to K j : Nat} (h1 : K ≠ 24) (h2 : K ≠ 25) : (q_put to τ).1 K j = τ.1 K j := by
  unfold q_put
  split
  · rfl
  · rw [xb_i_nk h1, qc_i, if_neg h2]
theorem qp_l {to K j : Nat} (h1 : K ≠ 26) (h2 : K ≠ 27) : (q_put to τ).2 K j = τ.2 K j := by
  unfold q_put
  split
  · rfl
  · rw [xb_l_i, qc_k h1 h2]
theorem qs_i {K j : Nat} (h1 : K ≠ 24) (h2 : K ≠ 25) (h3 : K ≠ 7) : (q_send e x1 x2 x3 x4 x5 τ).1 K j = τ.1 K j := by
  rw [q_send_is, qp_i h1 h2]
  unfold q_row
  split <;> simp [xb_ri, xb_i_l, h2, h3]
theorem qs_7 {j : Nat} : (q_send e x1 x2 x3 x4 x5 τ).1 7 j = if j = e then τ.1 7 e + 1 else τ.1 7 j := by
  rw [q_send_is, qp_i (by decide) (by decide)]
  unfold q_row
  split <;> simp [xb_ri, xb_i_l]
theorem qs_l {K j : Nat} (h1 : K ≠ 26) (h2 : K ≠ 27) : (q_send e x1 x2 x3 x4 x5 τ).2 K j = τ.2 K j := by
  rw [q_send_is, qp_l h1 h2]
  unfold q_row
  split <;> simp [xb_rl, xb_l_i, h1, h2]
end
