abbrev rB (B e : Nat) : Prop := (B = 5 ∧ e = 0) ∨ (B = 20 ∧ e = 1)
/-- nothing of endpoint e was touched -/
abbrev sE (B e : Nat) (σ σ' τ τ' : xb_St) : Prop := (∀ j, σ'.1 B j = σ.1 B j) ∧ (∀ j, σ'.2 B j = σ.2 B j) ∧ (∀ j, σ'.1 (B + 3) j = σ.1 (B + 3) j) ∧ (∀ j, σ'.2 (B + 3) j = σ.2 (B + 3) j) ∧ (∀ j, σ'.1 (B + 4) j = σ.1 (B + 4) j) ∧ (∀ j, σ'.2 (B + 4) j = σ.2 (B + 4) j) ∧ (∀ j, σ'.1 (B + 5) j = σ.1 (B + 5) j) ∧ (∀ j, σ'.2 (B + 5) j = σ.2 (B + 5) j) ∧ (∀ j, σ'.2 (B + 6) j = σ.2 (B + 6) j) ∧ (∀ j, σ'.2 (B + 7) j = σ.2 (B + 7) j) ∧ (τ'.1 1 e = τ.1 1 e ∧ τ'.1 2 e = τ.1 2 e ∧ τ'.1 3 e = τ.1 3 e ∧ τ'.1 4 e = τ.1 4 e ∧ τ'.1 6 e = τ.1 6 e ∧ τ'.1 7 e = τ.1 7 e ∧ τ'.1 8 e = τ.1 8 e ∧ τ'.1 10 e = τ.1 10 e ∧ τ'.1 11 e = τ.1 11 e ∧ τ'.1 15 e = τ.1 15 e ∧ τ'.1 16 e = τ.1 16 e) ∧ (τ'.2 5 e = τ.2 5 e ∧ τ'.2 9 e = τ.2 9 e ∧ τ'.2 13 e = τ.2 13 e ∧ τ'.2 14 e = τ.2 14 e) ∧ (τ'.1 17 (2 * e) = τ.1 17 (2 * e) ∧ τ'.2 18 (2 * e) = τ.2 18 (2 * e) ∧ τ'.2 19 (2 * e) = τ.2 19 (2 * e) ∧ τ'.1 20 (2 * e) = τ.1 20 (2 * e) ∧ τ'.1 21 (2 * e) = τ.1 21 (2 * e)) ∧ (τ'.1 17 (2 * e + 1) = τ.1 17 (2 * e + 1) ∧ τ'.2 18 (2 * e + 1) = τ.2 18 (2 * e + 1) ∧ τ'.2 19 (2 * e + 1) = τ.2 19 (2 * e + 1) ∧ τ'.1 20 (2 * e + 1) = τ.1 20 (2 * e + 1) ∧ τ'.1 21 (2 * e + 1) = τ.1 21 (2 * e + 1)) ∧ (τ'.2 22 (2 * e + 1) = τ.2 22 (2 * e + 1) ∧ τ'.2 23 (2 * e + 1) = τ.2 23 (2 * e + 1)) ∧ (τ'.2 12 (6 * e) = τ.2 12 (6 * e) ∧ τ'.2 12 (6 * e + 1) = τ.2 12 (6 * e + 1) ∧ τ'.2 12 (6 * e + 2) = τ.2 12 (6 * e + 2) ∧ τ'.2 12 (6 * e + 3) = τ.2 12 (6 * e + 3) ∧ τ'.2 12 (6 * e + 4) = τ.2 12 (6 * e + 4) ∧ τ'.2 12 (6 * e + 5) = τ.2 12 (6 * e + 5))
theorem sE.b {B e : Nat} {σ σ' τ τ' : xb_St} (h : sE B e σ σ' τ τ') : ∀ j, σ'.1 B j = σ.1 B j := h.1
theorem sE.bl {B e : Nat} {σ σ' τ τ' : xb_St} (h : sE B e σ σ' τ τ') : ∀ j, σ'.2 B j = σ.2 B j := h.2.1
theorem sE.k3 {B e : Nat} {σ σ' τ τ' : xb_St} (h : sE B e σ σ' τ τ') : ∀ j, σ'.1 (B + 3) j = σ.1 (B + 3) j := h.2.2.1
theorem sE.k3l {B e : Nat} {σ σ' τ τ' : xb_St} (h : sE B e σ σ' τ τ') : ∀ j, σ'.2 (B + 3) j = σ.2 (B + 3) j := h.2.2.2.1
theorem sE.k4 {B e : Nat} {σ σ' τ τ' : xb_St} (h : sE B e σ σ' τ τ') : ∀ j, σ'.1 (B + 4) j = σ.1 (B + 4) j := h.2.2.2.2.1
theorem sE.k4l {B e : Nat} {σ σ' τ τ' : xb_St} (h : sE B e σ σ' τ τ') : ∀ j, σ'.2 (B + 4) j = σ.2 (B + 4) j := h.2.2.2.2.2.1
theorem sE.x {B e : Nat} {σ σ' τ τ' : xb_St} (h : sE B e σ σ' τ τ') : ∀ j, σ'.1 (B + 5) j = σ.1 (B + 5) j := h.2.2.2.2.2.2.1
theorem sE.xl {B e : Nat} {σ σ' τ τ' : xb_St} (h : sE B e σ σ' τ τ') : ∀ j, σ'.2 (B + 5) j = σ.2 (B + 5) j := h.2.2.2.2.2.2.2.1
theorem sE.i6 {B e : Nat} {σ σ' τ τ' : xb_St} (h : sE B e σ σ' τ τ') : ∀ j, σ'.2 (B + 6) j = σ.2 (B + 6) j := h.2.2.2.2.2.2.2.2.1
theorem sE.i7 {B e : Nat} {σ σ' τ τ' : xb_St} (h : sE B e σ σ' τ τ') : ∀ j, σ'.2 (B + 7) j = σ.2 (B + 7) j := h.2.2.2.2.2.2.2.2.2.1
theorem sE.t {B e : Nat} {σ σ' τ τ' : xb_St} (h : sE B e σ σ' τ τ') : τ'.1 1 e = τ.1 1 e ∧ τ'.1 2 e = τ.1 2 e ∧ τ'.1 3 e = τ.1 3 e ∧ τ'.1 4 e = τ.1 4 e ∧ τ'.1 6 e = τ.1 6 e ∧ τ'.1 7 e = τ.1 7 e ∧ τ'.1 8 e = τ.1 8 e ∧ τ'.1 10 e = τ.1 10 e ∧ τ'.1 11 e = τ.1 11 e ∧ τ'.1 15 e = τ.1 15 e ∧ τ'.1 16 e = τ.1 16 e := h.2.2.2.2.2.2.2.2.2.2.1
theorem sE.tl {B e : Nat} {σ σ' τ τ' : xb_St} (h : sE B e σ σ' τ τ') : τ'.2 5 e = τ.2 5 e ∧ τ'.2 9 e = τ.2 9 e ∧ τ'.2 13 e = τ.2 13 e ∧ τ'.2 14 e = τ.2 14 e := h.2.2.2.2.2.2.2.2.2.2.2.1
theorem sE.d0 {B e : Nat} {σ σ' τ τ' : xb_St} (h : sE B e σ σ' τ τ') : τ'.1 17 (2 * e) = τ.1 17 (2 * e) ∧ τ'.2 18 (2 * e) = τ.2 18 (2 * e) ∧ τ'.2 19 (2 * e) = τ.2 19 (2 * e) ∧ τ'.1 20 (2 * e) = τ.1 20 (2 * e) ∧ τ'.1 21 (2 * e) = τ.1 21 (2 * e) := h.2.2.2.2.2.2.2.2.2.2.2.2.1
theorem sE.d1 {B e : Nat} {σ σ' τ τ' : xb_St} (h : sE B e σ σ' τ τ') : τ'.1 17 (2 * e + 1) = τ.1 17 (2 * e + 1) ∧ τ'.2 18 (2 * e + 1) = τ.2 18 (2 * e + 1) ∧ τ'.2 19 (2 * e + 1) = τ.2 19 (2 * e + 1) ∧ τ'.1 20 (2 * e + 1) = τ.1 20 (2 * e + 1) ∧ τ'.1 21 (2 * e + 1) = τ.1 21 (2 * e + 1) := h.2.2.2.2.2.2.2.2.2.2.2.2.2.1
theorem sE.n1 {B e : Nat} {σ σ' τ τ' : xb_St} (h : sE B e σ σ' τ τ') : τ'.2 22 (2 * e + 1) = τ.2 22 (2 * e + 1) ∧ τ'.2 23 (2 * e + 1) = τ.2 23 (2 * e + 1) := h.2.2.2.2.2.2.2.2.2.2.2.2.2.2.1
theorem sE.o {B e : Nat} {σ σ' τ τ' : xb_St} (h : sE B e σ σ' τ τ') : τ'.2 12 (6 * e) = τ.2 12 (6 * e) ∧ τ'.2 12 (6 * e + 1) = τ.2 12 (6 * e + 1) ∧ τ'.2 12 (6 * e + 2) = τ.2 12 (6 * e + 2) ∧ τ'.2 12 (6 * e + 3) = τ.2 12 (6 * e + 3) ∧ τ'.2 12 (6 * e + 4) = τ.2 12 (6 * e + 4) ∧ τ'.2 12 (6 * e + 5) = τ.2 12 (6 * e + 5) := h.2.2.2.2.2.2.2.2.2.2.2.2.2.2.2
theorem rE_same {B e : Nat} {σ σ' τ τ' : xb_St} (he : e < 2) (h : rE B e σ τ) (s : sE B e σ σ' τ τ') : rE B e σ' τ' := by
  obtain ⟨t1, t2, t3, t4, t6, t7, t8, t10, t11, t15, t16⟩ := s.t
  obtain ⟨l5, l9, l13, l14⟩ := s.tl
  obtain ⟨o0, o1, o2, o3, o4, o5⟩ := s.o
  refine ⟨?_, ?_, ?_, ?_, ?_, ?_, ?_, ?_, ?_, ?_, ?_, ?_, ?_, ?_, ?_, ?_, ?_, ?_, ?_, ?_, ?_, ?_⟩
  · rw [s.b, t4]; exact h.ph
  · rw [s.bl, t4, l5]; exact h.re
  · rw [s.b]; exact h.di
  · rw [s.b, t1]; exact h.ci
  · rw [t1]; exact h.cl
  · rw [s.b, t2]; exact h.ta
  · rw [t2]; exact h.tl
  · rw [s.b, t3]; exact h.se
  · rw [s.b, t6]; exact h.it
  · rw [s.b, t10]; exact h.hs
  · rw [s.bl, l9]; exact h.ss
  · rw [t10, l9]; exact h.s0
  · rw [t11, s.d1.1]; exact h.tu
  · exact rK_same h.ko ⟨s.k4 _, s.k4 _, s.k4 _, s.k4l _, s.k4l _⟩ (by rw [s.k4, t7]; exact h.ko.num) s.d0
  · exact rK_same h.ki ⟨s.k3 _, s.k3 _, s.k3 _, s.k3l _, s.k3l _⟩ (by rw [s.k3, t8]; exact h.ki.num) s.d1
  · rw [s.xl, l13]; exact h.us
  · rw [s.i6, s.i6, s.i6, o0, o1, o2]; exact h.oc
  · rw [s.i7, s.i7, s.i7, o3, o4, o5]; exact h.os
  · rw [t4]
    obtain rfl | rfl : e = 0 ∨ e = 1 := by omega
    · rw [show 9 * 0 + 1 = 6 * 0 + 1 from rfl, show 9 * 0 + 2 = 6 * 0 + 2 from rfl, o1, o2]; exact h.ol
    · rw [show 9 * 1 + 1 = 6 * 1 + 4 from rfl, show 9 * 1 + 2 = 6 * 1 + 5 from rfl, o4, o5]; exact h.ol
  · rw [t4, s.x, s.x, t15, t16]; exact h.ch
  · rw [t4, s.n1.1, s.n1.2, s.xl, s.xl, l9]; exact h.nx
  · rw [t4, l14, l13]; exact h.sh
/-- the same for a channel, and for a line -/
abbrev sC (C q : Nat) (σ σ' τ τ' : xb_St) : Prop := (∀ j, σ'.1 C j = σ.1 C j) ∧ (∀ j, σ'.2 C j = σ.2 C j) ∧ (∀ j, σ'.1 (C + 3) j = σ.1 (C + 3) j) ∧ (τ'.1 28 q = τ.1 28 q ∧ τ'.2 29 q = τ.2 29 q ∧ τ'.2 30 q = τ.2 30 q ∧ τ'.1 31 q = τ.1 31 q ∧ τ'.1 32 q = τ.1 32 q ∧ τ'.1 33 q = τ.1 33 q) ∧ (∀ i, i < 24 → τ'.1 34 (32 * q + i) = τ.1 34 (32 * q + i))
theorem sC.i {C q : Nat} {σ σ' τ τ' : xb_St} (h : sC C q σ σ' τ τ') : ∀ j, σ'.1 C j = σ.1 C j := h.1
theorem sC.l {C q : Nat} {σ σ' τ τ' : xb_St} (h : sC C q σ σ' τ τ') : ∀ j, σ'.2 C j = σ.2 C j := h.2.1
theorem sC.x {C q : Nat} {σ σ' τ τ' : xb_St} (h : sC C q σ σ' τ τ') : ∀ j, σ'.1 (C + 3) j = σ.1 (C + 3) j := h.2.2.1
theorem sC.t {C q : Nat} {σ σ' τ τ' : xb_St} (h : sC C q σ σ' τ τ') : τ'.1 28 q = τ.1 28 q ∧ τ'.2 29 q = τ.2 29 q ∧ τ'.2 30 q = τ.2 30 q ∧ τ'.1 31 q = τ.1 31 q ∧ τ'.1 32 q = τ.1 32 q ∧ τ'.1 33 q = τ.1 33 q := h.2.2.2.1
theorem sC.b {C q : Nat} {σ σ' τ τ' : xb_St} (h : sC C q σ σ' τ τ') : ∀ i, i < 24 → τ'.1 34 (32 * q + i) = τ.1 34 (32 * q + i) := h.2.2.2.2
theorem rC_s {C q c : Nat} {σ σ' τ τ' : xb_St} (h : rC C q c σ τ) (s : sC C q σ σ' τ τ') : rC C q c σ' τ' := rC_same h (fun j _ => s.i j) s.l (fun j _ => s.x j) s.t s.b


theorem rL_send {B e : Nat} (hB : rB B e) {x1 : Int32} {x2 x3 x4 x5 : Int64} {σ τ : xb_St} (k : rK (B + 4) (2 * e) (τ.1 7 e) σ τ) (h : rL (1 - e) σ τ) : rL (1 - e) (p_send B x1 x2 x3 x4 x5 σ) (q_send e x1 x2 x3 x4 x5 τ) := by
  rw [p_send_is, q_send_is]
  have hl : sp_lnD B = 1 + (1 - e) := by rcases hB with ⟨rfl, rfl⟩ | ⟨rfl, rfl⟩ <;> rfl
  have h1 : B + 2 ≠ 3 + (1 - e) := by rcases hB with ⟨rfl, rfl⟩ | ⟨rfl, rfl⟩ <;> decide
  have h2 : B + 4 ≠ 1 + (1 - e) := by rcases hB with ⟨rfl, rfl⟩ | ⟨rfl, rfl⟩ <;> decide
  have h4 : B + 2 ≠ 1 + (1 - e) := by rcases hB with ⟨rfl, rfl⟩ | ⟨rfl, rfl⟩ <;> decide
  have h5 : 1 - e < 2 := by omega
  have h6 : B + 2 ≠ B + 4 := by omega
  rw [hl]
  have ca : (p_Keys_cover (B + 4) (B + 2) (p_made B x1 x2 x3 x4 x5 σ)).1 = (p_made B x1 x2 x3 x4 x5 σ).1 := cov_i
  refine rL_put h5 h1 ?_ ?_ ?_ ?_
  · refine rL_same h ?_ ?_ ?_ ?_
    · rw [xb_i_nk h2.symm, ca]; unfold p_made; simp [xb_ri, xb_i_l, h4.symm]
    · intro j _; rw [xb_l_i, cov_l h1.symm]; unfold p_made; simp [xb_rl, xb_l_i, h1.symm]
    · unfold q_row; split <;> simp [xb_ri, xb_i_l]
    · intro k hk
      have a1 : 16 * (1 - e) + k ≠ 32 := by omega
      refine ⟨?_, ?_, fun j hj => ?_⟩
      · unfold q_row; split <;> simp [xb_ri, xb_i_l, a1]
      · unfold q_row; split <;> simp [xb_rl, xb_l_i, a1]
      · have b1 : 4 * (16 * (1 - e) + k) + j ≠ 128 := by omega
        have b2 : 4 * (16 * (1 - e) + k) + j ≠ 129 := by omega
        have b3 : 4 * (16 * (1 - e) + k) + j ≠ 130 := by omega
        have b4 : 4 * (16 * (1 - e) + k) + j ≠ 131 := by omega
        unfold q_row; split <;> simp [xb_rl, xb_l_i, b1, b2, b3, b4]
  · rw [xb_i_nk h6, ca]
    unfold p_made q_row
    split <;> simp [xb_ri, xb_i_l]
  · intro j hj
    rw [xb_l_i]
    unfold p_Keys_cover q_row
    have on : (p_made B x1 x2 x3 x4 x5 σ).1 (B + 4) 0 = τ.1 17 (2 * e) := by
      unfold p_made; simp [xb_ri, xb_i_l]; exact k.on
    rw [on]
    by_cases c : τ.1 17 (2 * e) = 0
    · rw [if_pos c, if_pos c]
      unfold p_made
      obtain rfl | rfl | rfl | rfl : j = 0 ∨ j = 1 ∨ j = 2 ∨ j = 3 := by omega
      all_goals simp [xb_rl, xb_l_i]
    · rw [if_neg c, if_neg c]
      have ck : (p_made B x1 x2 x3 x4 x5 σ).2 (B + 4) 1 = τ.2 18 (2 * e) := by
        unfold p_made; simp [xb_rl, xb_l_i]; exact k.ck c
      have ci : (p_made B x1 x2 x3 x4 x5 σ).1 (B + 4) 3 = τ.1 20 (2 * e) := by
        unfold p_made; simp [xb_ri, xb_i_l]; rw [k.ci, if_neg c]
      have nu : (p_made B x1 x2 x3 x4 x5 σ).1 (B + 4) 5 = τ.1 7 e := by
        unfold p_made; simp [xb_ri, xb_i_l]; exact k.num
      rw [ck, ci, nu]
      have m1 : (p_made B x1 x2 x3 x4 x5 σ).2 (B + 2) 1 = x2 := by unfold p_made; simp [xb_rl, xb_l_i]
      have m2 : (p_made B x1 x2 x3 x4 x5 σ).2 (B + 2) 2 = x3 := by unfold p_made; simp [xb_rl, xb_l_i]
      have m3 : (p_made B x1 x2 x3 x4 x5 σ).2 (B + 2) 3 = x4 := by unfold p_made; simp [xb_rl, xb_l_i]
      have m4 : (p_made B x1 x2 x3 x4 x5 σ).2 (B + 2) 4 = x5 := by unfold p_made; simp [xb_rl, xb_l_i]
      rw [m1, m2, m3, m4]
      obtain rfl | rfl | rfl | rfl : j = 0 ∨ j = 1 ∨ j = 2 ∨ j = 3 := by omega
      all_goals simp [xb_rl, xb_l_i, g_mask, k_mix]
  · rw [xb_l_i]
    have t5 : ∀ (s : xb_St), (p_Keys_cover (B + 4) (B + 2) s).2 (B + 2) 5 = s.2 (B + 2) 5 := by
      intro s; unfold p_Keys_cover; split <;> simp [xb_rl]
    rw [t5]
    unfold p_made q_row p_Keys_tagOf
    simp only [xb_ri, xb_rl, xb_i_l, xb_l_i]
    simp
    rw [k.on]
    by_cases c : τ.1 17 (2 * e) = 0
    · simp [c, xb_rl, xb_l_i]
    · simp [c, xb_rl, xb_l_i, g_tagOf, k_mix, k.tk c, k.ta, k.num]
theorem rL_send' {B e : Nat} (hB : rB B e) {x1 : Int32} {x2 x3 x4 x5 : Int64} {σ τ : xb_St} (h : rL e σ τ) (hn : ∃ n : Nat, n ≤ 16 ∧ τ.1 24 (1 - e) = nI n) : rL e (p_send B x1 x2 x3 x4 x5 σ) (q_send e x1 x2 x3 x4 x5 τ) := by
  refine rL_same h ?_ ?_ ?_ ?_
  · rcases hB with ⟨rfl, rfl⟩ | ⟨rfl, rfl⟩ <;> simp [xb_ri, xb_rl, xb_i_l, xb_l_i, ps_i, ps_l, qs_i, qs_l, qs_7, sp_lnD]
  · intro j _; rcases hB with ⟨rfl, rfl⟩ | ⟨rfl, rfl⟩ <;> simp [xb_ri, xb_rl, xb_i_l, xb_l_i, ps_i, ps_l, qs_i, qs_l, qs_7, sp_lnD]
  · rw [q_send_is]
    have : e ≠ 1 - e := by rcases hB with ⟨rfl, rfl⟩ | ⟨rfl, rfl⟩ <;> decide
    unfold q_put
    split
    · unfold q_row; split <;> simp [xb_ri, xb_i_l]
    · rw [xb_i_nj this, qc_i, if_neg (by decide)]
      unfold q_row; split <;> simp [xb_ri, xb_i_l]
  · intro k hk
    rw [q_send_is]
    have r24 : (q_row e x1 x2 x3 x4 x5 τ).1 24 (1 - e) = τ.1 24 (1 - e) := by unfold q_row; split <;> simp [xb_ri, xb_i_l]
    have a1 : 16 * e + k ≠ 32 := by rcases hB with ⟨rfl, rfl⟩ | ⟨rfl, rfl⟩ <;> omega
    have u1 : (q_row e x1 x2 x3 x4 x5 τ).1 25 (16 * e + k) = τ.1 25 (16 * e + k) := by unfold q_row; split <;> simp [xb_ri, xb_i_l, a1]
    have u2 : (q_row e x1 x2 x3 x4 x5 τ).2 27 (16 * e + k) = τ.2 27 (16 * e + k) := by unfold q_row; split <;> simp [xb_rl, xb_l_i, a1]
    have u3 : ∀ j, j < 4 → (q_row e x1 x2 x3 x4 x5 τ).2 26 (4 * (16 * e + k) + j) = τ.2 26 (4 * (16 * e + k) + j) := by
      intro j hj
      have b1 : 4 * (16 * e + k) + j ≠ 128 := by omega
      have b2 : 4 * (16 * e + k) + j ≠ 129 := by omega
      have b3 : 4 * (16 * e + k) + j ≠ 130 := by omega
      have b4 : 4 * (16 * e + k) + j ≠ 131 := by omega
      unfold q_row; split <;> simp [xb_rl, xb_l_i, b1, b2, b3, b4]
    unfold q_put
    obtain ⟨n, hn, en⟩ := hn
    rw [r24, en]
    by_cases hl : n < 16
    · have c2 : ¬ (16 : Int32) ≤ nI n := mt (nI_leI (a := 16) (by decide) (by omega)).mp (by omega)
      have a2 : 16 * e + k ≠ 16 * (1 - e) + n := by rcases hB with ⟨rfl, rfl⟩ | ⟨rfl, rfl⟩ <;> omega
      have a3 : 32 ≠ 16 * (1 - e) + n := by omega
      rw [if_neg c2, nI_clamp (by omega)]
      refine ⟨?_, ?_, fun j hj => ?_⟩
      · rw [xb_i_nk (by decide), qc_i, if_pos rfl, if_neg a2]; exact u1
      · rw [xb_l_i, qc_27, if_neg a2]; exact u2
      · rw [xb_l_i, qc_26 hj a3, if_neg a2]; exact u3 j hj
    · obtain rfl : n = 16 := by omega
      rw [if_pos (by decide)]
      exact ⟨u1, u2, u3⟩
