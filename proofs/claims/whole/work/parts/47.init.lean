/-! taking an INIT -/
def q_it (e1 : Nat) (x2 : Int64) (x3 : Int64) (x4 : Int64) (σ : xb_St) : xb_St := (if (g_isList x3) = 0 then (q_fail e1 (3 : Int64) (xb_si (xb_si (xb_sl (xb_sl (xb_sl σ 12 ((6 * e1) + (3 * (1 - e1))) x2) 12 (((6 * e1) + (3 * (1 - e1))) + 1) x3) 12 (((6 * e1) + (3 * (1 - e1))) + 2) x4) 15 e1 (0 : Int32)) 16 e1 (0 : Int32))) else (if (g_isList x4) = 0 then (q_fail e1 (3 : Int64) (xb_si (xb_si (xb_sl (xb_sl (xb_sl σ 12 ((6 * e1) + (3 * (1 - e1))) x2) 12 (((6 * e1) + (3 * (1 - e1))) + 1) x3) 12 (((6 * e1) + (3 * (1 - e1))) + 2) x4) 15 e1 (0 : Int32)) 16 e1 (0 : Int32))) else (if (g_common ((xb_sl (xb_sl (xb_sl σ 12 ((6 * e1) + (3 * (1 - e1))) x2) 12 (((6 * e1) + (3 * (1 - e1))) + 1) x3) 12 (((6 * e1) + (3 * (1 - e1))) + 2) x4).2 12 ((6 * e1) + 1)) ((xb_sl (xb_sl (xb_sl σ 12 ((6 * e1) + (3 * (1 - e1))) x2) 12 (((6 * e1) + (3 * (1 - e1))) + 1) x3) 12 (((6 * e1) + (3 * (1 - e1))) + 2) x4).2 12 ((6 * e1) + 4))) = 0 then (q_fail e1 (3 : Int64) (xb_si (xb_si (xb_sl (xb_sl (xb_sl σ 12 ((6 * e1) + (3 * (1 - e1))) x2) 12 (((6 * e1) + (3 * (1 - e1))) + 1) x3) 12 (((6 * e1) + (3 * (1 - e1))) + 2) x4) 15 e1 (g_common ((xb_sl (xb_sl (xb_sl σ 12 ((6 * e1) + (3 * (1 - e1))) x2) 12 (((6 * e1) + (3 * (1 - e1))) + 1) x3) 12 (((6 * e1) + (3 * (1 - e1))) + 2) x4).2 12 ((6 * e1) + 1)) ((xb_sl (xb_sl (xb_sl σ 12 ((6 * e1) + (3 * (1 - e1))) x2) 12 (((6 * e1) + (3 * (1 - e1))) + 1) x3) 12 (((6 * e1) + (3 * (1 - e1))) + 2) x4).2 12 ((6 * e1) + 4)))) 16 e1 (g_common ((xb_sl (xb_sl (xb_sl σ 12 ((6 * e1) + (3 * (1 - e1))) x2) 12 (((6 * e1) + (3 * (1 - e1))) + 1) x3) 12 (((6 * e1) + (3 * (1 - e1))) + 2) x4).2 12 ((6 * e1) + 2)) ((xb_sl (xb_sl (xb_sl σ 12 ((6 * e1) + (3 * (1 - e1))) x2) 12 (((6 * e1) + (3 * (1 - e1))) + 1) x3) 12 (((6 * e1) + (3 * (1 - e1))) + 2) x4).2 12 ((6 * e1) + 5))))) else (if (g_common ((xb_sl (xb_sl (xb_sl σ 12 ((6 * e1) + (3 * (1 - e1))) x2) 12 (((6 * e1) + (3 * (1 - e1))) + 1) x3) 12 (((6 * e1) + (3 * (1 - e1))) + 2) x4).2 12 ((6 * e1) + 2)) ((xb_sl (xb_sl (xb_sl σ 12 ((6 * e1) + (3 * (1 - e1))) x2) 12 (((6 * e1) + (3 * (1 - e1))) + 1) x3) 12 (((6 * e1) + (3 * (1 - e1))) + 2) x4).2 12 ((6 * e1) + 5))) = 0 then (q_fail e1 (3 : Int64) (xb_si (xb_si (xb_sl (xb_sl (xb_sl σ 12 ((6 * e1) + (3 * (1 - e1))) x2) 12 (((6 * e1) + (3 * (1 - e1))) + 1) x3) 12 (((6 * e1) + (3 * (1 - e1))) + 2) x4) 15 e1 (g_common ((xb_sl (xb_sl (xb_sl σ 12 ((6 * e1) + (3 * (1 - e1))) x2) 12 (((6 * e1) + (3 * (1 - e1))) + 1) x3) 12 (((6 * e1) + (3 * (1 - e1))) + 2) x4).2 12 ((6 * e1) + 1)) ((xb_sl (xb_sl (xb_sl σ 12 ((6 * e1) + (3 * (1 - e1))) x2) 12 (((6 * e1) + (3 * (1 - e1))) + 1) x3) 12 (((6 * e1) + (3 * (1 - e1))) + 2) x4).2 12 ((6 * e1) + 4)))) 16 e1 (g_common ((xb_sl (xb_sl (xb_sl σ 12 ((6 * e1) + (3 * (1 - e1))) x2) 12 (((6 * e1) + (3 * (1 - e1))) + 1) x3) 12 (((6 * e1) + (3 * (1 - e1))) + 2) x4).2 12 ((6 * e1) + 2)) ((xb_sl (xb_sl (xb_sl σ 12 ((6 * e1) + (3 * (1 - e1))) x2) 12 (((6 * e1) + (3 * (1 - e1))) + 1) x3) 12 (((6 * e1) + (3 * (1 - e1))) + 2) x4).2 12 ((6 * e1) + 5))))) else (if (nI e1) = 0 then (q_send 0 (30 : Int32) (g_power (7 : Int64) (σ.2 13 0)) (0 : Int64) (0 : Int64) (0 : Int64) (xb_sl (xb_si (xb_si (xb_si (xb_sl (xb_sl (xb_sl σ 12 ((6 * e1) + (3 * (1 - e1))) x2) 12 (((6 * e1) + (3 * (1 - e1))) + 1) x3) 12 (((6 * e1) + (3 * (1 - e1))) + 2) x4) 15 e1 (g_common ((xb_sl (xb_sl (xb_sl σ 12 ((6 * e1) + (3 * (1 - e1))) x2) 12 (((6 * e1) + (3 * (1 - e1))) + 1) x3) 12 (((6 * e1) + (3 * (1 - e1))) + 2) x4).2 12 ((6 * e1) + 1)) ((xb_sl (xb_sl (xb_sl σ 12 ((6 * e1) + (3 * (1 - e1))) x2) 12 (((6 * e1) + (3 * (1 - e1))) + 1) x3) 12 (((6 * e1) + (3 * (1 - e1))) + 2) x4).2 12 ((6 * e1) + 4)))) 16 e1 (g_common ((xb_sl (xb_sl (xb_sl σ 12 ((6 * e1) + (3 * (1 - e1))) x2) 12 (((6 * e1) + (3 * (1 - e1))) + 1) x3) 12 (((6 * e1) + (3 * (1 - e1))) + 2) x4).2 12 ((6 * e1) + 2)) ((xb_sl (xb_sl (xb_sl σ 12 ((6 * e1) + (3 * (1 - e1))) x2) 12 (((6 * e1) + (3 * (1 - e1))) + 1) x3) 12 (((6 * e1) + (3 * (1 - e1))) + 2) x4).2 12 ((6 * e1) + 5)))) 4 e1 (2 : Int32)) 14 0 (g_power (7 : Int64) (σ.2 13 0)))) else (xb_si (xb_si (xb_si (xb_sl (xb_sl (xb_sl σ 12 ((6 * e1) + (3 * (1 - e1))) x2) 12 (((6 * e1) + (3 * (1 - e1))) + 1) x3) 12 (((6 * e1) + (3 * (1 - e1))) + 2) x4) 15 e1 (g_common ((xb_sl (xb_sl (xb_sl σ 12 ((6 * e1) + (3 * (1 - e1))) x2) 12 (((6 * e1) + (3 * (1 - e1))) + 1) x3) 12 (((6 * e1) + (3 * (1 - e1))) + 2) x4).2 12 ((6 * e1) + 1)) ((xb_sl (xb_sl (xb_sl σ 12 ((6 * e1) + (3 * (1 - e1))) x2) 12 (((6 * e1) + (3 * (1 - e1))) + 1) x3) 12 (((6 * e1) + (3 * (1 - e1))) + 2) x4).2 12 ((6 * e1) + 4)))) 16 e1 (g_common ((xb_sl (xb_sl (xb_sl σ 12 ((6 * e1) + (3 * (1 - e1))) x2) 12 (((6 * e1) + (3 * (1 - e1))) + 1) x3) 12 (((6 * e1) + (3 * (1 - e1))) + 2) x4).2 12 ((6 * e1) + 2)) ((xb_sl (xb_sl (xb_sl σ 12 ((6 * e1) + (3 * (1 - e1))) x2) 12 (((6 * e1) + (3 * (1 - e1))) + 1) x3) 12 (((6 * e1) + (3 * (1 - e1))) + 2) x4).2 12 ((6 * e1) + 5)))) 4 e1 (2 : Int32)))))))
section
variable {B e C q c : Nat} {σ σ' τ τ' : xb_St}
theorem q_init_1 {w x y : Int64} (h1 : τ.1 4 e = 1) : q_init e w x y τ = q_it e w x y τ := by
  unfold q_init
  rw [if_neg (show ¬ τ.1 4 e = 0 by rw [h1]; decide), if_neg (show ¬ τ.1 4 e = 4 by rw [h1]; decide), if_pos h1]
  rfl
theorem q_init_s {w x y : Int64} (h : τ.1 4 e = 0 ∨ τ.1 4 e = 4) : q_init e w x y τ = q_it e w x y (q_start e τ) := by
  unfold q_init
  rcases h with h | h
  · rw [if_pos h, if_neg (show ¬ τ.1 4 e = 1 by rw [h]; decide)]
    rfl
  · rw [if_neg (show ¬ τ.1 4 e = 0 by rw [h]; decide), if_pos h, if_neg (show ¬ τ.1 4 e = 1 by rw [h]; decide)]
    rfl
theorem q_init_x {w x y : Int64} (h0 : ¬ τ.1 4 e = 0) (h4 : ¬ τ.1 4 e = 4) (h1 : ¬ τ.1 4 e = 1) : q_init e w x y τ = q_fail e 2 τ := by
  unfold q_init
  rw [if_neg h0, if_neg h4, if_neg h1]
/-- the peer's offer and what is chosen; K: the peer's Init -/
def p_of (B K : Nat) (w x y : Int64) (a b : Int32) (σ : xb_St) : xb_St := xb_si (xb_si (p_Init_set K w x y σ) (B + 5) 3 a) (B + 5) 4 b
def q_of (e : Nat) (w x y : Int64) (a b : Int32) (τ : xb_St) : xb_St := xb_si (xb_si (xb_sl (xb_sl (xb_sl τ 12 (6 * e + 3 * (1 - e)) w) 12 (6 * e + 3 * (1 - e) + 1) x) 12 (6 * e + 3 * (1 - e) + 2) y) 15 e a) 16 e b
theorem Rel_of (hB : rB B e) {w x y : Int64} {a b a' b' : Int32} (h : Rel σ τ) (hp : τ.1 4 e = 1) : Rel (p_of B (12 + 14 * e) w x y a b σ) (q_of e w x y a' b' τ) := by
  have hE := h.E hB
  have hg : σ.1 5 17 = τ.1 0 5 ∧ (σ.1 20 17).toInt64 = τ.2 0 4 := h.g
  have ol := hE.ol hp
  unfold p_of q_of p_Init_set
  rcases hB with ⟨rfl, rfl⟩ | ⟨rfl, rfl⟩
  · refine Rel_E1 (Or.inl ⟨rfl, rfl⟩) h ?_ (by (refine ⟨?_, ?_, ?_, ?_, ?_, ?_, ?_, ?_, ?_, ?_, ?_, ?_, ?_, ?_, ?_, ?_⟩ <;> (intros; simp [xb_ri, xb_rl, xb_i_l, xb_l_i, ps_i, ps_l, qs_i, qs_l, qs_7, sp_lnD]))) ⟨by (refine ⟨?_, ?_, ?_, ?_, ?_, ?_⟩ <;> (intros; simp [xb_ri, xb_rl, xb_i_l, xb_l_i, ps_i, ps_l, qs_i, qs_l, qs_7, sp_lnD])), by (refine ⟨?_, ?_, ?_, ?_, ?_, ?_⟩ <;> (intros; simp [xb_ri, xb_rl, xb_i_l, xb_l_i, ps_i, ps_l, qs_i, qs_l, qs_7, sp_lnD]))⟩ ⟨by (refine ⟨?_, ?_, ?_, ?_, ?_⟩ <;> (intros; simp [xb_ri, xb_rl, xb_i_l, xb_l_i, ps_i, ps_l, qs_i, qs_l, qs_7, sp_lnD])), by (refine ⟨?_, ?_, ?_, ?_, ?_⟩ <;> (intros; simp [xb_ri, xb_rl, xb_i_l, xb_l_i, ps_i, ps_l, qs_i, qs_l, qs_7, sp_lnD])), by (refine ⟨?_, ?_, ?_, ?_, ?_⟩ <;> (intros; simp [xb_ri, xb_rl, xb_i_l, xb_l_i, ps_i, ps_l, qs_i, qs_l, qs_7, sp_lnD])), by (refine ⟨?_, ?_, ?_, ?_, ?_⟩ <;> (intros; simp [xb_ri, xb_rl, xb_i_l, xb_l_i, ps_i, ps_l, qs_i, qs_l, qs_7, sp_lnD])), by (refine ⟨?_, ?_, ?_, ?_, ?_⟩ <;> (intros; simp [xb_ri, xb_rl, xb_i_l, xb_l_i, ps_i, ps_l, qs_i, qs_l, qs_7, sp_lnD])), by (refine ⟨?_, ?_, ?_, ?_, ?_⟩ <;> (intros; simp [xb_ri, xb_rl, xb_i_l, xb_l_i, ps_i, ps_l, qs_i, qs_l, qs_7, sp_lnD]))⟩ (by show _ ∧ _; simpa [xb_ri, xb_rl, xb_i_l, xb_l_i, ps_i, ps_l, qs_i, qs_l, qs_7, sp_lnD] using hg)
    refine ⟨by simpa [xb_ri, xb_rl, xb_i_l, xb_l_i, ps_i, ps_l, qs_i, qs_l, qs_7, sp_lnD] using hE.ph, by simpa [xb_ri, xb_rl, xb_i_l, xb_l_i, ps_i, ps_l, qs_i, qs_l, qs_7, sp_lnD] using hE.re, by simpa [xb_ri, xb_rl, xb_i_l, xb_l_i, ps_i, ps_l, qs_i, qs_l, qs_7, sp_lnD] using hE.di, by simpa [xb_ri, xb_rl, xb_i_l, xb_l_i, ps_i, ps_l, qs_i, qs_l, qs_7, sp_lnD] using hE.ci, by simpa [xb_ri, xb_rl, xb_i_l, xb_l_i, ps_i, ps_l, qs_i, qs_l, qs_7, sp_lnD] using hE.cl, by simpa [xb_ri, xb_rl, xb_i_l, xb_l_i, ps_i, ps_l, qs_i, qs_l, qs_7, sp_lnD] using hE.ta, by simpa [xb_ri, xb_rl, xb_i_l, xb_l_i, ps_i, ps_l, qs_i, qs_l, qs_7, sp_lnD] using hE.tl, by simpa [xb_ri, xb_rl, xb_i_l, xb_l_i, ps_i, ps_l, qs_i, qs_l, qs_7, sp_lnD] using hE.se, by simpa [xb_ri, xb_rl, xb_i_l, xb_l_i, ps_i, ps_l, qs_i, qs_l, qs_7, sp_lnD] using hE.it, by simpa [xb_ri, xb_rl, xb_i_l, xb_l_i, ps_i, ps_l, qs_i, qs_l, qs_7, sp_lnD] using hE.hs, by simpa [xb_ri, xb_rl, xb_i_l, xb_l_i, ps_i, ps_l, qs_i, qs_l, qs_7, sp_lnD] using hE.ss, by simpa [xb_ri, xb_rl, xb_i_l, xb_l_i, ps_i, ps_l, qs_i, qs_l, qs_7, sp_lnD] using hE.s0, by simpa [xb_ri, xb_rl, xb_i_l, xb_l_i, ps_i, ps_l, qs_i, qs_l, qs_7, sp_lnD] using hE.tu, rK_same hE.ko ⟨by simp [xb_ri, xb_rl, xb_i_l, xb_l_i, ps_i, ps_l, qs_i, qs_l, qs_7, sp_lnD], by simp [xb_ri, xb_rl, xb_i_l, xb_l_i, ps_i, ps_l, qs_i, qs_l, qs_7, sp_lnD], by simp [xb_ri, xb_rl, xb_i_l, xb_l_i, ps_i, ps_l, qs_i, qs_l, qs_7, sp_lnD], by simp [xb_ri, xb_rl, xb_i_l, xb_l_i, ps_i, ps_l, qs_i, qs_l, qs_7, sp_lnD], by simp [xb_ri, xb_rl, xb_i_l, xb_l_i, ps_i, ps_l, qs_i, qs_l, qs_7, sp_lnD]⟩ (by simpa [xb_ri, xb_rl, xb_i_l, xb_l_i, ps_i, ps_l, qs_i, qs_l, qs_7, sp_lnD] using hE.ko.num) ⟨by simp [xb_ri, xb_rl, xb_i_l, xb_l_i, ps_i, ps_l, qs_i, qs_l, qs_7, sp_lnD], by simp [xb_ri, xb_rl, xb_i_l, xb_l_i, ps_i, ps_l, qs_i, qs_l, qs_7, sp_lnD], by simp [xb_ri, xb_rl, xb_i_l, xb_l_i, ps_i, ps_l, qs_i, qs_l, qs_7, sp_lnD], by simp [xb_ri, xb_rl, xb_i_l, xb_l_i, ps_i, ps_l, qs_i, qs_l, qs_7, sp_lnD], by simp [xb_ri, xb_rl, xb_i_l, xb_l_i, ps_i, ps_l, qs_i, qs_l, qs_7, sp_lnD]⟩, rK_same hE.ki ⟨by simp [xb_ri, xb_rl, xb_i_l, xb_l_i, ps_i, ps_l, qs_i, qs_l, qs_7, sp_lnD], by simp [xb_ri, xb_rl, xb_i_l, xb_l_i, ps_i, ps_l, qs_i, qs_l, qs_7, sp_lnD], by simp [xb_ri, xb_rl, xb_i_l, xb_l_i, ps_i, ps_l, qs_i, qs_l, qs_7, sp_lnD], by simp [xb_ri, xb_rl, xb_i_l, xb_l_i, ps_i, ps_l, qs_i, qs_l, qs_7, sp_lnD], by simp [xb_ri, xb_rl, xb_i_l, xb_l_i, ps_i, ps_l, qs_i, qs_l, qs_7, sp_lnD]⟩ (by simpa [xb_ri, xb_rl, xb_i_l, xb_l_i, ps_i, ps_l, qs_i, qs_l, qs_7, sp_lnD] using hE.ki.num) ⟨by simp [xb_ri, xb_rl, xb_i_l, xb_l_i, ps_i, ps_l, qs_i, qs_l, qs_7, sp_lnD], by simp [xb_ri, xb_rl, xb_i_l, xb_l_i, ps_i, ps_l, qs_i, qs_l, qs_7, sp_lnD], by simp [xb_ri, xb_rl, xb_i_l, xb_l_i, ps_i, ps_l, qs_i, qs_l, qs_7, sp_lnD], by simp [xb_ri, xb_rl, xb_i_l, xb_l_i, ps_i, ps_l, qs_i, qs_l, qs_7, sp_lnD], by simp [xb_ri, xb_rl, xb_i_l, xb_l_i, ps_i, ps_l, qs_i, qs_l, qs_7, sp_lnD]⟩, by simpa [xb_ri, xb_rl, xb_i_l, xb_l_i, ps_i, ps_l, qs_i, qs_l, qs_7, sp_lnD] using hE.us, by simpa [xb_ri, xb_rl, xb_i_l, xb_l_i, ps_i, ps_l, qs_i, qs_l, qs_7, sp_lnD] using hE.oc, ?_, ?_, ?_, ?_, ?_⟩
    · simp [xb_ri, xb_rl, xb_i_l, xb_l_i, ps_i, ps_l, qs_i, qs_l, qs_7, sp_lnD]
    · simpa [xb_ri, xb_rl, xb_i_l, xb_l_i, ps_i, ps_l, qs_i, qs_l, qs_7, sp_lnD] using hE.ol
    · simp [xb_ri, xb_rl, xb_i_l, xb_l_i, ps_i, ps_l, qs_i, qs_l, qs_7, sp_lnD, hp]
    · simp [xb_ri, xb_rl, xb_i_l, xb_l_i, ps_i, ps_l, qs_i, qs_l, qs_7, sp_lnD, hp]
    · simp [xb_ri, xb_rl, xb_i_l, xb_l_i, ps_i, ps_l, qs_i, qs_l, qs_7, sp_lnD, hp]
  · refine Rel_E1 (Or.inr ⟨rfl, rfl⟩) h ?_ (by (refine ⟨?_, ?_, ?_, ?_, ?_, ?_, ?_, ?_, ?_, ?_, ?_, ?_, ?_, ?_, ?_, ?_⟩ <;> (intros; simp [xb_ri, xb_rl, xb_i_l, xb_l_i, ps_i, ps_l, qs_i, qs_l, qs_7, sp_lnD]))) ⟨by (refine ⟨?_, ?_, ?_, ?_, ?_, ?_⟩ <;> (intros; simp [xb_ri, xb_rl, xb_i_l, xb_l_i, ps_i, ps_l, qs_i, qs_l, qs_7, sp_lnD])), by (refine ⟨?_, ?_, ?_, ?_, ?_, ?_⟩ <;> (intros; simp [xb_ri, xb_rl, xb_i_l, xb_l_i, ps_i, ps_l, qs_i, qs_l, qs_7, sp_lnD]))⟩ ⟨by (refine ⟨?_, ?_, ?_, ?_, ?_⟩ <;> (intros; simp [xb_ri, xb_rl, xb_i_l, xb_l_i, ps_i, ps_l, qs_i, qs_l, qs_7, sp_lnD])), by (refine ⟨?_, ?_, ?_, ?_, ?_⟩ <;> (intros; simp [xb_ri, xb_rl, xb_i_l, xb_l_i, ps_i, ps_l, qs_i, qs_l, qs_7, sp_lnD])), by (refine ⟨?_, ?_, ?_, ?_, ?_⟩ <;> (intros; simp [xb_ri, xb_rl, xb_i_l, xb_l_i, ps_i, ps_l, qs_i, qs_l, qs_7, sp_lnD])), by (refine ⟨?_, ?_, ?_, ?_, ?_⟩ <;> (intros; simp [xb_ri, xb_rl, xb_i_l, xb_l_i, ps_i, ps_l, qs_i, qs_l, qs_7, sp_lnD])), by (refine ⟨?_, ?_, ?_, ?_, ?_⟩ <;> (intros; simp [xb_ri, xb_rl, xb_i_l, xb_l_i, ps_i, ps_l, qs_i, qs_l, qs_7, sp_lnD])), by (refine ⟨?_, ?_, ?_, ?_, ?_⟩ <;> (intros; simp [xb_ri, xb_rl, xb_i_l, xb_l_i, ps_i, ps_l, qs_i, qs_l, qs_7, sp_lnD]))⟩ (by show _ ∧ _; simpa [xb_ri, xb_rl, xb_i_l, xb_l_i, ps_i, ps_l, qs_i, qs_l, qs_7, sp_lnD] using hg)
    refine ⟨by simpa [xb_ri, xb_rl, xb_i_l, xb_l_i, ps_i, ps_l, qs_i, qs_l, qs_7, sp_lnD] using hE.ph, by simpa [xb_ri, xb_rl, xb_i_l, xb_l_i, ps_i, ps_l, qs_i, qs_l, qs_7, sp_lnD] using hE.re, by simpa [xb_ri, xb_rl, xb_i_l, xb_l_i, ps_i, ps_l, qs_i, qs_l, qs_7, sp_lnD] using hE.di, by simpa [xb_ri, xb_rl, xb_i_l, xb_l_i, ps_i, ps_l, qs_i, qs_l, qs_7, sp_lnD] using hE.ci, by simpa [xb_ri, xb_rl, xb_i_l, xb_l_i, ps_i, ps_l, qs_i, qs_l, qs_7, sp_lnD] using hE.cl, by simpa [xb_ri, xb_rl, xb_i_l, xb_l_i, ps_i, ps_l, qs_i, qs_l, qs_7, sp_lnD] using hE.ta, by simpa [xb_ri, xb_rl, xb_i_l, xb_l_i, ps_i, ps_l, qs_i, qs_l, qs_7, sp_lnD] using hE.tl, by simpa [xb_ri, xb_rl, xb_i_l, xb_l_i, ps_i, ps_l, qs_i, qs_l, qs_7, sp_lnD] using hE.se, by simpa [xb_ri, xb_rl, xb_i_l, xb_l_i, ps_i, ps_l, qs_i, qs_l, qs_7, sp_lnD] using hE.it, by simpa [xb_ri, xb_rl, xb_i_l, xb_l_i, ps_i, ps_l, qs_i, qs_l, qs_7, sp_lnD] using hE.hs, by simpa [xb_ri, xb_rl, xb_i_l, xb_l_i, ps_i, ps_l, qs_i, qs_l, qs_7, sp_lnD] using hE.ss, by simpa [xb_ri, xb_rl, xb_i_l, xb_l_i, ps_i, ps_l, qs_i, qs_l, qs_7, sp_lnD] using hE.s0, by simpa [xb_ri, xb_rl, xb_i_l, xb_l_i, ps_i, ps_l, qs_i, qs_l, qs_7, sp_lnD] using hE.tu, rK_same hE.ko ⟨by simp [xb_ri, xb_rl, xb_i_l, xb_l_i, ps_i, ps_l, qs_i, qs_l, qs_7, sp_lnD], by simp [xb_ri, xb_rl, xb_i_l, xb_l_i, ps_i, ps_l, qs_i, qs_l, qs_7, sp_lnD], by simp [xb_ri, xb_rl, xb_i_l, xb_l_i, ps_i, ps_l, qs_i, qs_l, qs_7, sp_lnD], by simp [xb_ri, xb_rl, xb_i_l, xb_l_i, ps_i, ps_l, qs_i, qs_l, qs_7, sp_lnD], by simp [xb_ri, xb_rl, xb_i_l, xb_l_i, ps_i, ps_l, qs_i, qs_l, qs_7, sp_lnD]⟩ (by simpa [xb_ri, xb_rl, xb_i_l, xb_l_i, ps_i, ps_l, qs_i, qs_l, qs_7, sp_lnD] using hE.ko.num) ⟨by simp [xb_ri, xb_rl, xb_i_l, xb_l_i, ps_i, ps_l, qs_i, qs_l, qs_7, sp_lnD], by simp [xb_ri, xb_rl, xb_i_l, xb_l_i, ps_i, ps_l, qs_i, qs_l, qs_7, sp_lnD], by simp [xb_ri, xb_rl, xb_i_l, xb_l_i, ps_i, ps_l, qs_i, qs_l, qs_7, sp_lnD], by simp [xb_ri, xb_rl, xb_i_l, xb_l_i, ps_i, ps_l, qs_i, qs_l, qs_7, sp_lnD], by simp [xb_ri, xb_rl, xb_i_l, xb_l_i, ps_i, ps_l, qs_i, qs_l, qs_7, sp_lnD]⟩, rK_same hE.ki ⟨by simp [xb_ri, xb_rl, xb_i_l, xb_l_i, ps_i, ps_l, qs_i, qs_l, qs_7, sp_lnD], by simp [xb_ri, xb_rl, xb_i_l, xb_l_i, ps_i, ps_l, qs_i, qs_l, qs_7, sp_lnD], by simp [xb_ri, xb_rl, xb_i_l, xb_l_i, ps_i, ps_l, qs_i, qs_l, qs_7, sp_lnD], by simp [xb_ri, xb_rl, xb_i_l, xb_l_i, ps_i, ps_l, qs_i, qs_l, qs_7, sp_lnD], by simp [xb_ri, xb_rl, xb_i_l, xb_l_i, ps_i, ps_l, qs_i, qs_l, qs_7, sp_lnD]⟩ (by simpa [xb_ri, xb_rl, xb_i_l, xb_l_i, ps_i, ps_l, qs_i, qs_l, qs_7, sp_lnD] using hE.ki.num) ⟨by simp [xb_ri, xb_rl, xb_i_l, xb_l_i, ps_i, ps_l, qs_i, qs_l, qs_7, sp_lnD], by simp [xb_ri, xb_rl, xb_i_l, xb_l_i, ps_i, ps_l, qs_i, qs_l, qs_7, sp_lnD], by simp [xb_ri, xb_rl, xb_i_l, xb_l_i, ps_i, ps_l, qs_i, qs_l, qs_7, sp_lnD], by simp [xb_ri, xb_rl, xb_i_l, xb_l_i, ps_i, ps_l, qs_i, qs_l, qs_7, sp_lnD], by simp [xb_ri, xb_rl, xb_i_l, xb_l_i, ps_i, ps_l, qs_i, qs_l, qs_7, sp_lnD]⟩, by simpa [xb_ri, xb_rl, xb_i_l, xb_l_i, ps_i, ps_l, qs_i, qs_l, qs_7, sp_lnD] using hE.us, ?_, by simpa [xb_ri, xb_rl, xb_i_l, xb_l_i, ps_i, ps_l, qs_i, qs_l, qs_7, sp_lnD] using hE.os, ?_, ?_, ?_, ?_⟩
    · simp [xb_ri, xb_rl, xb_i_l, xb_l_i, ps_i, ps_l, qs_i, qs_l, qs_7, sp_lnD]
    · simpa [xb_ri, xb_rl, xb_i_l, xb_l_i, ps_i, ps_l, qs_i, qs_l, qs_7, sp_lnD] using hE.ol
    · simp [xb_ri, xb_rl, xb_i_l, xb_l_i, ps_i, ps_l, qs_i, qs_l, qs_7, sp_lnD, hp]
    · simp [xb_ri, xb_rl, xb_i_l, xb_l_i, ps_i, ps_l, qs_i, qs_l, qs_7, sp_lnD, hp]
    · simp [xb_ri, xb_rl, xb_i_l, xb_l_i, ps_i, ps_l, qs_i, qs_l, qs_7, sp_lnD, hp]
theorem Rel_sh0 (h : Rel σ τ) (hp : τ.1 4 0 = 1) (hc : σ.1 10 3 = τ.1 15 0 ∧ σ.1 10 4 = τ.1 16 0) : Rel (xb_si σ 5 9 2) (xb_sl (xb_si τ 4 0 2) 14 0 (g_power 7 (τ.2 13 0))) := by
  have hE := h.e0
  have hg : σ.1 5 17 = τ.1 0 5 ∧ (σ.1 20 17).toInt64 = τ.2 0 4 := h.g
  have re := hE.re
  rw [hp] at re
  refine Rel_E1 (Or.inl ⟨rfl, rfl⟩) h ?_ (by (refine ⟨?_, ?_, ?_, ?_, ?_, ?_, ?_, ?_, ?_, ?_, ?_, ?_, ?_, ?_, ?_, ?_⟩ <;> (intros; simp [xb_ri, xb_rl, xb_i_l, xb_l_i, ps_i, ps_l, qs_i, qs_l, qs_7, sp_lnD]))) ⟨by (refine ⟨?_, ?_, ?_, ?_, ?_, ?_⟩ <;> (intros; simp [xb_ri, xb_rl, xb_i_l, xb_l_i, ps_i, ps_l, qs_i, qs_l, qs_7, sp_lnD])), by (refine ⟨?_, ?_, ?_, ?_, ?_, ?_⟩ <;> (intros; simp [xb_ri, xb_rl, xb_i_l, xb_l_i, ps_i, ps_l, qs_i, qs_l, qs_7, sp_lnD]))⟩ ⟨by (refine ⟨?_, ?_, ?_, ?_, ?_⟩ <;> (intros; simp [xb_ri, xb_rl, xb_i_l, xb_l_i, ps_i, ps_l, qs_i, qs_l, qs_7, sp_lnD])), by (refine ⟨?_, ?_, ?_, ?_, ?_⟩ <;> (intros; simp [xb_ri, xb_rl, xb_i_l, xb_l_i, ps_i, ps_l, qs_i, qs_l, qs_7, sp_lnD])), by (refine ⟨?_, ?_, ?_, ?_, ?_⟩ <;> (intros; simp [xb_ri, xb_rl, xb_i_l, xb_l_i, ps_i, ps_l, qs_i, qs_l, qs_7, sp_lnD])), by (refine ⟨?_, ?_, ?_, ?_, ?_⟩ <;> (intros; simp [xb_ri, xb_rl, xb_i_l, xb_l_i, ps_i, ps_l, qs_i, qs_l, qs_7, sp_lnD])), by (refine ⟨?_, ?_, ?_, ?_, ?_⟩ <;> (intros; simp [xb_ri, xb_rl, xb_i_l, xb_l_i, ps_i, ps_l, qs_i, qs_l, qs_7, sp_lnD])), by (refine ⟨?_, ?_, ?_, ?_, ?_⟩ <;> (intros; simp [xb_ri, xb_rl, xb_i_l, xb_l_i, ps_i, ps_l, qs_i, qs_l, qs_7, sp_lnD]))⟩ (by show _ ∧ _; simpa [xb_ri, xb_rl, xb_i_l, xb_l_i, ps_i, ps_l, qs_i, qs_l, qs_7, sp_lnD] using hg)
  refine ⟨?_, ?_, by simpa [xb_ri, xb_rl, xb_i_l, xb_l_i, ps_i, ps_l, qs_i, qs_l, qs_7, sp_lnD] using hE.di, by simpa [xb_ri, xb_rl, xb_i_l, xb_l_i, ps_i, ps_l, qs_i, qs_l, qs_7, sp_lnD] using hE.ci, by simpa [xb_ri, xb_rl, xb_i_l, xb_l_i, ps_i, ps_l, qs_i, qs_l, qs_7, sp_lnD] using hE.cl, by simpa [xb_ri, xb_rl, xb_i_l, xb_l_i, ps_i, ps_l, qs_i, qs_l, qs_7, sp_lnD] using hE.ta, by simpa [xb_ri, xb_rl, xb_i_l, xb_l_i, ps_i, ps_l, qs_i, qs_l, qs_7, sp_lnD] using hE.tl, by simpa [xb_ri, xb_rl, xb_i_l, xb_l_i, ps_i, ps_l, qs_i, qs_l, qs_7, sp_lnD] using hE.se, by simpa [xb_ri, xb_rl, xb_i_l, xb_l_i, ps_i, ps_l, qs_i, qs_l, qs_7, sp_lnD] using hE.it, by simpa [xb_ri, xb_rl, xb_i_l, xb_l_i, ps_i, ps_l, qs_i, qs_l, qs_7, sp_lnD] using hE.hs, by simpa [xb_ri, xb_rl, xb_i_l, xb_l_i, ps_i, ps_l, qs_i, qs_l, qs_7, sp_lnD] using hE.ss, by simpa [xb_ri, xb_rl, xb_i_l, xb_l_i, ps_i, ps_l, qs_i, qs_l, qs_7, sp_lnD] using hE.s0, by simpa [xb_ri, xb_rl, xb_i_l, xb_l_i, ps_i, ps_l, qs_i, qs_l, qs_7, sp_lnD] using hE.tu, rK_same hE.ko ⟨by simp [xb_ri, xb_rl, xb_i_l, xb_l_i, ps_i, ps_l, qs_i, qs_l, qs_7, sp_lnD], by simp [xb_ri, xb_rl, xb_i_l, xb_l_i, ps_i, ps_l, qs_i, qs_l, qs_7, sp_lnD], by simp [xb_ri, xb_rl, xb_i_l, xb_l_i, ps_i, ps_l, qs_i, qs_l, qs_7, sp_lnD], by simp [xb_ri, xb_rl, xb_i_l, xb_l_i, ps_i, ps_l, qs_i, qs_l, qs_7, sp_lnD], by simp [xb_ri, xb_rl, xb_i_l, xb_l_i, ps_i, ps_l, qs_i, qs_l, qs_7, sp_lnD]⟩ (by simpa [xb_ri, xb_rl, xb_i_l, xb_l_i, ps_i, ps_l, qs_i, qs_l, qs_7, sp_lnD] using hE.ko.num) ⟨by simp [xb_ri, xb_rl, xb_i_l, xb_l_i, ps_i, ps_l, qs_i, qs_l, qs_7, sp_lnD], by simp [xb_ri, xb_rl, xb_i_l, xb_l_i, ps_i, ps_l, qs_i, qs_l, qs_7, sp_lnD], by simp [xb_ri, xb_rl, xb_i_l, xb_l_i, ps_i, ps_l, qs_i, qs_l, qs_7, sp_lnD], by simp [xb_ri, xb_rl, xb_i_l, xb_l_i, ps_i, ps_l, qs_i, qs_l, qs_7, sp_lnD], by simp [xb_ri, xb_rl, xb_i_l, xb_l_i, ps_i, ps_l, qs_i, qs_l, qs_7, sp_lnD]⟩, rK_same hE.ki ⟨by simp [xb_ri, xb_rl, xb_i_l, xb_l_i, ps_i, ps_l, qs_i, qs_l, qs_7, sp_lnD], by simp [xb_ri, xb_rl, xb_i_l, xb_l_i, ps_i, ps_l, qs_i, qs_l, qs_7, sp_lnD], by simp [xb_ri, xb_rl, xb_i_l, xb_l_i, ps_i, ps_l, qs_i, qs_l, qs_7, sp_lnD], by simp [xb_ri, xb_rl, xb_i_l, xb_l_i, ps_i, ps_l, qs_i, qs_l, qs_7, sp_lnD], by simp [xb_ri, xb_rl, xb_i_l, xb_l_i, ps_i, ps_l, qs_i, qs_l, qs_7, sp_lnD]⟩ (by simpa [xb_ri, xb_rl, xb_i_l, xb_l_i, ps_i, ps_l, qs_i, qs_l, qs_7, sp_lnD] using hE.ki.num) ⟨by simp [xb_ri, xb_rl, xb_i_l, xb_l_i, ps_i, ps_l, qs_i, qs_l, qs_7, sp_lnD], by simp [xb_ri, xb_rl, xb_i_l, xb_l_i, ps_i, ps_l, qs_i, qs_l, qs_7, sp_lnD], by simp [xb_ri, xb_rl, xb_i_l, xb_l_i, ps_i, ps_l, qs_i, qs_l, qs_7, sp_lnD], by simp [xb_ri, xb_rl, xb_i_l, xb_l_i, ps_i, ps_l, qs_i, qs_l, qs_7, sp_lnD], by simp [xb_ri, xb_rl, xb_i_l, xb_l_i, ps_i, ps_l, qs_i, qs_l, qs_7, sp_lnD]⟩, by simpa [xb_ri, xb_rl, xb_i_l, xb_l_i, ps_i, ps_l, qs_i, qs_l, qs_7, sp_lnD] using hE.us, by simpa [xb_ri, xb_rl, xb_i_l, xb_l_i, ps_i, ps_l, qs_i, qs_l, qs_7, sp_lnD] using hE.oc, by simpa [xb_ri, xb_rl, xb_i_l, xb_l_i, ps_i, ps_l, qs_i, qs_l, qs_7, sp_lnD] using hE.os, ?_, ?_, ?_, ?_⟩
  · simp [xb_ri, xb_rl, xb_i_l, xb_l_i, ps_i, ps_l, qs_i, qs_l, qs_7, sp_lnD]
  · simpa [xb_ri, xb_rl, xb_i_l, xb_l_i, ps_i, ps_l, qs_i, qs_l, qs_7, sp_lnD] using re
  · simp [xb_ri, xb_rl, xb_i_l, xb_l_i, ps_i, ps_l, qs_i, qs_l, qs_7, sp_lnD]
  · simpa [xb_ri, xb_rl, xb_i_l, xb_l_i, ps_i, ps_l, qs_i, qs_l, qs_7, sp_lnD] using hc
  · simp [xb_ri, xb_rl, xb_i_l, xb_l_i, ps_i, ps_l, qs_i, qs_l, qs_7, sp_lnD]
  · simp [xb_ri, xb_rl, xb_i_l, xb_l_i, ps_i, ps_l, qs_i, qs_l, qs_7, sp_lnD, k_power]
theorem Rel_sh1 (h : Rel σ τ) (hp : τ.1 4 1 = 1) (hc : σ.1 25 3 = τ.1 15 1 ∧ σ.1 25 4 = τ.1 16 1) : Rel (xb_si σ 20 9 2) (xb_si τ 4 1 2) := by
  have hE := h.e1
  have hg : σ.1 5 17 = τ.1 0 5 ∧ (σ.1 20 17).toInt64 = τ.2 0 4 := h.g
  have re := hE.re
  rw [hp] at re
  refine Rel_E1 (Or.inr ⟨rfl, rfl⟩) h ?_ (by (refine ⟨?_, ?_, ?_, ?_, ?_, ?_, ?_, ?_, ?_, ?_, ?_, ?_, ?_, ?_, ?_, ?_⟩ <;> (intros; simp [xb_ri, xb_rl, xb_i_l, xb_l_i, ps_i, ps_l, qs_i, qs_l, qs_7, sp_lnD]))) ⟨by (refine ⟨?_, ?_, ?_, ?_, ?_, ?_⟩ <;> (intros; simp [xb_ri, xb_rl, xb_i_l, xb_l_i, ps_i, ps_l, qs_i, qs_l, qs_7, sp_lnD])), by (refine ⟨?_, ?_, ?_, ?_, ?_, ?_⟩ <;> (intros; simp [xb_ri, xb_rl, xb_i_l, xb_l_i, ps_i, ps_l, qs_i, qs_l, qs_7, sp_lnD]))⟩ ⟨by (refine ⟨?_, ?_, ?_, ?_, ?_⟩ <;> (intros; simp [xb_ri, xb_rl, xb_i_l, xb_l_i, ps_i, ps_l, qs_i, qs_l, qs_7, sp_lnD])), by (refine ⟨?_, ?_, ?_, ?_, ?_⟩ <;> (intros; simp [xb_ri, xb_rl, xb_i_l, xb_l_i, ps_i, ps_l, qs_i, qs_l, qs_7, sp_lnD])), by (refine ⟨?_, ?_, ?_, ?_, ?_⟩ <;> (intros; simp [xb_ri, xb_rl, xb_i_l, xb_l_i, ps_i, ps_l, qs_i, qs_l, qs_7, sp_lnD])), by (refine ⟨?_, ?_, ?_, ?_, ?_⟩ <;> (intros; simp [xb_ri, xb_rl, xb_i_l, xb_l_i, ps_i, ps_l, qs_i, qs_l, qs_7, sp_lnD])), by (refine ⟨?_, ?_, ?_, ?_, ?_⟩ <;> (intros; simp [xb_ri, xb_rl, xb_i_l, xb_l_i, ps_i, ps_l, qs_i, qs_l, qs_7, sp_lnD])), by (refine ⟨?_, ?_, ?_, ?_, ?_⟩ <;> (intros; simp [xb_ri, xb_rl, xb_i_l, xb_l_i, ps_i, ps_l, qs_i, qs_l, qs_7, sp_lnD]))⟩ (by show _ ∧ _; simpa [xb_ri, xb_rl, xb_i_l, xb_l_i, ps_i, ps_l, qs_i, qs_l, qs_7, sp_lnD] using hg)
  refine ⟨?_, ?_, by simpa [xb_ri, xb_rl, xb_i_l, xb_l_i, ps_i, ps_l, qs_i, qs_l, qs_7, sp_lnD] using hE.di, by simpa [xb_ri, xb_rl, xb_i_l, xb_l_i, ps_i, ps_l, qs_i, qs_l, qs_7, sp_lnD] using hE.ci, by simpa [xb_ri, xb_rl, xb_i_l, xb_l_i, ps_i, ps_l, qs_i, qs_l, qs_7, sp_lnD] using hE.cl, by simpa [xb_ri, xb_rl, xb_i_l, xb_l_i, ps_i, ps_l, qs_i, qs_l, qs_7, sp_lnD] using hE.ta, by simpa [xb_ri, xb_rl, xb_i_l, xb_l_i, ps_i, ps_l, qs_i, qs_l, qs_7, sp_lnD] using hE.tl, by simpa [xb_ri, xb_rl, xb_i_l, xb_l_i, ps_i, ps_l, qs_i, qs_l, qs_7, sp_lnD] using hE.se, by simpa [xb_ri, xb_rl, xb_i_l, xb_l_i, ps_i, ps_l, qs_i, qs_l, qs_7, sp_lnD] using hE.it, by simpa [xb_ri, xb_rl, xb_i_l, xb_l_i, ps_i, ps_l, qs_i, qs_l, qs_7, sp_lnD] using hE.hs, by simpa [xb_ri, xb_rl, xb_i_l, xb_l_i, ps_i, ps_l, qs_i, qs_l, qs_7, sp_lnD] using hE.ss, by simpa [xb_ri, xb_rl, xb_i_l, xb_l_i, ps_i, ps_l, qs_i, qs_l, qs_7, sp_lnD] using hE.s0, by simpa [xb_ri, xb_rl, xb_i_l, xb_l_i, ps_i, ps_l, qs_i, qs_l, qs_7, sp_lnD] using hE.tu, rK_same hE.ko ⟨by simp [xb_ri, xb_rl, xb_i_l, xb_l_i, ps_i, ps_l, qs_i, qs_l, qs_7, sp_lnD], by simp [xb_ri, xb_rl, xb_i_l, xb_l_i, ps_i, ps_l, qs_i, qs_l, qs_7, sp_lnD], by simp [xb_ri, xb_rl, xb_i_l, xb_l_i, ps_i, ps_l, qs_i, qs_l, qs_7, sp_lnD], by simp [xb_ri, xb_rl, xb_i_l, xb_l_i, ps_i, ps_l, qs_i, qs_l, qs_7, sp_lnD], by simp [xb_ri, xb_rl, xb_i_l, xb_l_i, ps_i, ps_l, qs_i, qs_l, qs_7, sp_lnD]⟩ (by simpa [xb_ri, xb_rl, xb_i_l, xb_l_i, ps_i, ps_l, qs_i, qs_l, qs_7, sp_lnD] using hE.ko.num) ⟨by simp [xb_ri, xb_rl, xb_i_l, xb_l_i, ps_i, ps_l, qs_i, qs_l, qs_7, sp_lnD], by simp [xb_ri, xb_rl, xb_i_l, xb_l_i, ps_i, ps_l, qs_i, qs_l, qs_7, sp_lnD], by simp [xb_ri, xb_rl, xb_i_l, xb_l_i, ps_i, ps_l, qs_i, qs_l, qs_7, sp_lnD], by simp [xb_ri, xb_rl, xb_i_l, xb_l_i, ps_i, ps_l, qs_i, qs_l, qs_7, sp_lnD], by simp [xb_ri, xb_rl, xb_i_l, xb_l_i, ps_i, ps_l, qs_i, qs_l, qs_7, sp_lnD]⟩, rK_same hE.ki ⟨by simp [xb_ri, xb_rl, xb_i_l, xb_l_i, ps_i, ps_l, qs_i, qs_l, qs_7, sp_lnD], by simp [xb_ri, xb_rl, xb_i_l, xb_l_i, ps_i, ps_l, qs_i, qs_l, qs_7, sp_lnD], by simp [xb_ri, xb_rl, xb_i_l, xb_l_i, ps_i, ps_l, qs_i, qs_l, qs_7, sp_lnD], by simp [xb_ri, xb_rl, xb_i_l, xb_l_i, ps_i, ps_l, qs_i, qs_l, qs_7, sp_lnD], by simp [xb_ri, xb_rl, xb_i_l, xb_l_i, ps_i, ps_l, qs_i, qs_l, qs_7, sp_lnD]⟩ (by simpa [xb_ri, xb_rl, xb_i_l, xb_l_i, ps_i, ps_l, qs_i, qs_l, qs_7, sp_lnD] using hE.ki.num) ⟨by simp [xb_ri, xb_rl, xb_i_l, xb_l_i, ps_i, ps_l, qs_i, qs_l, qs_7, sp_lnD], by simp [xb_ri, xb_rl, xb_i_l, xb_l_i, ps_i, ps_l, qs_i, qs_l, qs_7, sp_lnD], by simp [xb_ri, xb_rl, xb_i_l, xb_l_i, ps_i, ps_l, qs_i, qs_l, qs_7, sp_lnD], by simp [xb_ri, xb_rl, xb_i_l, xb_l_i, ps_i, ps_l, qs_i, qs_l, qs_7, sp_lnD], by simp [xb_ri, xb_rl, xb_i_l, xb_l_i, ps_i, ps_l, qs_i, qs_l, qs_7, sp_lnD]⟩, by simpa [xb_ri, xb_rl, xb_i_l, xb_l_i, ps_i, ps_l, qs_i, qs_l, qs_7, sp_lnD] using hE.us, by simpa [xb_ri, xb_rl, xb_i_l, xb_l_i, ps_i, ps_l, qs_i, qs_l, qs_7, sp_lnD] using hE.oc, by simpa [xb_ri, xb_rl, xb_i_l, xb_l_i, ps_i, ps_l, qs_i, qs_l, qs_7, sp_lnD] using hE.os, ?_, ?_, ?_, ?_⟩
  · simp [xb_ri, xb_rl, xb_i_l, xb_l_i, ps_i, ps_l, qs_i, qs_l, qs_7, sp_lnD]
  · simpa [xb_ri, xb_rl, xb_i_l, xb_l_i, ps_i, ps_l, qs_i, qs_l, qs_7, sp_lnD] using re
  · simp [xb_ri, xb_rl, xb_i_l, xb_l_i, ps_i, ps_l, qs_i, qs_l, qs_7, sp_lnD]
  · simpa [xb_ri, xb_rl, xb_i_l, xb_l_i, ps_i, ps_l, qs_i, qs_l, qs_7, sp_lnD] using hc
  · simp [xb_ri, xb_rl, xb_i_l, xb_l_i, ps_i, ps_l, qs_i, qs_l, qs_7, sp_lnD]
  · simp [xb_ri, xb_rl, xb_i_l, xb_l_i, ps_i, ps_l, qs_i, qs_l, qs_7, sp_lnD]
/-- what the program does once it is offering: the number that it fails with, or 0 -/
def p_it (B K : Nat) (w x y : Int64) (σ : xb_St) : Int32 × xb_St :=
  if (p_Ex_choose (B + 5) (p_Init_set K w x y σ)).1 = 0 then (3, (p_Ex_choose (B + 5) (p_Init_set K w x y σ)).2) else if B = 5 then (0, p_Cl_answer B (xb_si (p_Ex_choose (B + 5) (p_Init_set K w x y σ)).2 B 9 2)) else (0, p_Sv_answer B (xb_si (p_Ex_choose (B + 5) (p_Init_set K w x y σ)).2 B 9 2))
/-- a take and its outcome: what receive does then -/
def p_end (B : Nat) (r : Int32 × xb_St) : xb_St := if r.1 = 0 then r.2 else p_fail B r.1.toInt64 r.2
theorem choose_1 {K : Nat} : (p_Ex_choose K σ).1 = if f_first (σ.2 (K + 1) 1) (σ.2 (K + 2) 1) = 0 then 0 else if f_first (σ.2 (K + 1) 2) (σ.2 (K + 2) 2) = 0 then 0 else 1 := by
  unfold p_Ex_choose
  split
  · rfl
  · split <;> rfl
theorem choose_2 {K : Nat} : (p_Ex_choose K σ).2 = xb_si (xb_si σ K 3 (f_first (σ.2 (K + 1) 1) (σ.2 (K + 2) 1))) K 4 (f_first (σ.2 (K + 1) 2) (σ.2 (K + 2) 2)) := by
  unfold p_Ex_choose
  split
  · rfl
  · split <;> rfl
theorem Rel_it (hB : rB B e) {w x y : Int64} (h : Rel σ τ) (hp : τ.1 4 e = 1) : Rel (p_end B (p_it B (12 + 14 * e) w x y σ)) (q_it e w x y τ) := by
  have hE := h.E hB
  have ol := hE.ol hp
  unfold p_it
  rw [choose_1, choose_2]
  rcases hB with ⟨rfl, rfl⟩ | ⟨rfl, rfl⟩
  · have ra := fun (a b a' b' : Int32) => Rel_of (Or.inl ⟨rfl, rfl⟩) (w := w) (x := x) (y := y) (a := a) (b := b) (a' := a') (b' := b') h hp
    have e1 : (p_Init_set (12 + 14 * 0) w x y σ).2 (5 + 5 + 1) 1 = τ.2 12 1 := by unfold p_Init_set; simpa [xb_ri, xb_rl, xb_i_l, xb_l_i, ps_i, ps_l, qs_i, qs_l, qs_7, sp_lnD] using hE.oc.2.1
    have e2 : (p_Init_set (12 + 14 * 0) w x y σ).2 (5 + 5 + 1) 2 = τ.2 12 2 := by unfold p_Init_set; simpa [xb_ri, xb_rl, xb_i_l, xb_l_i, ps_i, ps_l, qs_i, qs_l, qs_7, sp_lnD] using hE.oc.2.2
    have e3 : (p_Init_set (12 + 14 * 0) w x y σ).2 (5 + 5 + 2) 1 = x := by unfold p_Init_set; simp [xb_ri, xb_rl, xb_i_l, xb_l_i, ps_i, ps_l, qs_i, qs_l, qs_7, sp_lnD]
    have e4 : (p_Init_set (12 + 14 * 0) w x y σ).2 (5 + 5 + 2) 2 = y := by unfold p_Init_set; simp [xb_ri, xb_rl, xb_i_l, xb_l_i, ps_i, ps_l, qs_i, qs_l, qs_7, sp_lnD]
    rw [e1, e2, e3, e4]
    have f1 : (xb_sl (xb_sl (xb_sl τ 12 (6 * 0 + 3 * (1 - 0)) w) 12 (6 * 0 + 3 * (1 - 0) + 1) x) 12 (6 * 0 + 3 * (1 - 0) + 2) y).2 12 (6 * 0 + 1) = τ.2 12 1 := by simp [xb_ri, xb_rl, xb_i_l, xb_l_i, ps_i, ps_l, qs_i, qs_l, qs_7, sp_lnD]
    have f2 : (xb_sl (xb_sl (xb_sl τ 12 (6 * 0 + 3 * (1 - 0)) w) 12 (6 * 0 + 3 * (1 - 0) + 1) x) 12 (6 * 0 + 3 * (1 - 0) + 2) y).2 12 (6 * 0 + 2) = τ.2 12 2 := by simp [xb_ri, xb_rl, xb_i_l, xb_l_i, ps_i, ps_l, qs_i, qs_l, qs_7, sp_lnD]
    have f3 : (xb_sl (xb_sl (xb_sl τ 12 (6 * 0 + 3 * (1 - 0)) w) 12 (6 * 0 + 3 * (1 - 0) + 1) x) 12 (6 * 0 + 3 * (1 - 0) + 2) y).2 12 (6 * 0 + 4) = x := by simp [xb_ri, xb_rl, xb_i_l, xb_l_i, ps_i, ps_l, qs_i, qs_l, qs_7, sp_lnD]
    have f4 : (xb_sl (xb_sl (xb_sl τ 12 (6 * 0 + 3 * (1 - 0)) w) 12 (6 * 0 + 3 * (1 - 0) + 1) x) 12 (6 * 0 + 3 * (1 - 0) + 2) y).2 12 (6 * 0 + 5) = y := by simp [xb_ri, xb_rl, xb_i_l, xb_l_i, ps_i, ps_l, qs_i, qs_l, qs_7, sp_lnD]
    unfold q_it
    rw [f1, f2, f3, f4, ← k_isList, ← k_isList]
    by_cases hx : f_isList x = 0
    · rw [if_pos hx, if_pos (k_first0 (Or.inr hx)), if_pos rfl]
      exact Rel_fail (Or.inl ⟨rfl, rfl⟩) (ra _ _ _ _)
    · rw [if_neg hx]
      by_cases hy : f_isList y = 0
      · rw [if_pos hy, if_pos (k_first0 (Or.inr hy)), ite_self, if_pos rfl]
        exact Rel_fail (Or.inl ⟨rfl, rfl⟩) (ra _ _ _ _)
      · rw [if_neg hy, ← k_first ol.1 hx, ← k_first ol.2 hy]
        by_cases z1 : f_first (τ.2 12 (9 * 0 + 1)) x = 0
        · rw [if_pos z1, if_pos rfl, if_pos z1]
          exact Rel_fail (Or.inl ⟨rfl, rfl⟩) (ra _ _ _ _)
        · rw [if_neg z1]
          by_cases z2 : f_first (τ.2 12 (9 * 0 + 2)) y = 0
          · rw [if_pos z2, if_pos rfl, if_neg z1, if_pos z2]
            exact Rel_fail (Or.inl ⟨rfl, rfl⟩) (ra _ _ _ _)
          · rw [if_neg z2, if_neg (show ¬ (1 : Int32) = 0 by decide), if_pos rfl, if_neg z1, if_neg z2, if_pos (show nI 0 = 0 from rfl)]
            have R := Rel_sh0 (ra (f_first (τ.2 12 (9 * 0 + 1)) x) (f_first (τ.2 12 (9 * 0 + 2)) y) (f_first (τ.2 12 (9 * 0 + 1)) x) (f_first (τ.2 12 (9 * 0 + 2)) y)) (by unfold q_of; simpa [xb_ri, xb_rl, xb_i_l, xb_l_i, ps_i, ps_l, qs_i, qs_l, qs_7, sp_lnD] using hp) (by unfold p_of q_of p_Init_set; simp [xb_ri, xb_rl, xb_i_l, xb_l_i, ps_i, ps_l, qs_i, qs_l, qs_7, sp_lnD])
            have us : f_power 7 (σ.2 10 2) = g_power 7 (τ.2 13 0) := by rw [show σ.2 10 2 = τ.2 13 0 from hE.us]; rfl
            have S := Rel_send (Or.inl ⟨rfl, rfl⟩) (x1 := 30) (x2 := g_power 7 (τ.2 13 0)) (x3 := 0) (x4 := 0) (x5 := 0) R
            show Rel (p_send 5 30 (f_power 7 (σ.2 10 2)) 0 0 0 _) _
            rw [us]
            exact S
  · have ra := fun (a b a' b' : Int32) => Rel_of (Or.inr ⟨rfl, rfl⟩) (w := w) (x := x) (y := y) (a := a) (b := b) (a' := a') (b' := b') h hp
    have e1 : (p_Init_set (12 + 14 * 1) w x y σ).2 (20 + 5 + 1) 1 = x := by unfold p_Init_set; simp [xb_ri, xb_rl, xb_i_l, xb_l_i, ps_i, ps_l, qs_i, qs_l, qs_7, sp_lnD]
    have e2 : (p_Init_set (12 + 14 * 1) w x y σ).2 (20 + 5 + 1) 2 = y := by unfold p_Init_set; simp [xb_ri, xb_rl, xb_i_l, xb_l_i, ps_i, ps_l, qs_i, qs_l, qs_7, sp_lnD]
    have e3 : (p_Init_set (12 + 14 * 1) w x y σ).2 (20 + 5 + 2) 1 = τ.2 12 10 := by unfold p_Init_set; simpa [xb_ri, xb_rl, xb_i_l, xb_l_i, ps_i, ps_l, qs_i, qs_l, qs_7, sp_lnD] using hE.os.2.1
    have e4 : (p_Init_set (12 + 14 * 1) w x y σ).2 (20 + 5 + 2) 2 = τ.2 12 11 := by unfold p_Init_set; simpa [xb_ri, xb_rl, xb_i_l, xb_l_i, ps_i, ps_l, qs_i, qs_l, qs_7, sp_lnD] using hE.os.2.2
    rw [e1, e2, e3, e4]
    have f1 : (xb_sl (xb_sl (xb_sl τ 12 (6 * 1 + 3 * (1 - 1)) w) 12 (6 * 1 + 3 * (1 - 1) + 1) x) 12 (6 * 1 + 3 * (1 - 1) + 2) y).2 12 (6 * 1 + 1) = x := by simp [xb_ri, xb_rl, xb_i_l, xb_l_i, ps_i, ps_l, qs_i, qs_l, qs_7, sp_lnD]
    have f2 : (xb_sl (xb_sl (xb_sl τ 12 (6 * 1 + 3 * (1 - 1)) w) 12 (6 * 1 + 3 * (1 - 1) + 1) x) 12 (6 * 1 + 3 * (1 - 1) + 2) y).2 12 (6 * 1 + 2) = y := by simp [xb_ri, xb_rl, xb_i_l, xb_l_i, ps_i, ps_l, qs_i, qs_l, qs_7, sp_lnD]
    have f3 : (xb_sl (xb_sl (xb_sl τ 12 (6 * 1 + 3 * (1 - 1)) w) 12 (6 * 1 + 3 * (1 - 1) + 1) x) 12 (6 * 1 + 3 * (1 - 1) + 2) y).2 12 (6 * 1 + 4) = τ.2 12 10 := by simp [xb_ri, xb_rl, xb_i_l, xb_l_i, ps_i, ps_l, qs_i, qs_l, qs_7, sp_lnD]
    have f4 : (xb_sl (xb_sl (xb_sl τ 12 (6 * 1 + 3 * (1 - 1)) w) 12 (6 * 1 + 3 * (1 - 1) + 1) x) 12 (6 * 1 + 3 * (1 - 1) + 2) y).2 12 (6 * 1 + 5) = τ.2 12 11 := by simp [xb_ri, xb_rl, xb_i_l, xb_l_i, ps_i, ps_l, qs_i, qs_l, qs_7, sp_lnD]
    unfold q_it
    rw [f1, f2, f3, f4, ← k_isList, ← k_isList]
    by_cases hx : f_isList x = 0
    · rw [if_pos hx, if_pos (k_first0 (Or.inl hx)), if_pos rfl]
      exact Rel_fail (Or.inr ⟨rfl, rfl⟩) (ra _ _ _ _)
    · rw [if_neg hx]
      by_cases hy : f_isList y = 0
      · rw [if_pos hy, if_pos (k_first0 (Or.inl hy)), ite_self, if_pos rfl]
        exact Rel_fail (Or.inr ⟨rfl, rfl⟩) (ra _ _ _ _)
      · rw [if_neg hy, ← k_first hx ol.1, ← k_first hy ol.2]
        by_cases z1 : f_first x (τ.2 12 (9 * 1 + 1)) = 0
        · rw [if_pos z1, if_pos rfl, if_pos z1]
          exact Rel_fail (Or.inr ⟨rfl, rfl⟩) (ra _ _ _ _)
        · rw [if_neg z1]
          by_cases z2 : f_first y (τ.2 12 (9 * 1 + 2)) = 0
          · rw [if_pos z2, if_pos rfl, if_neg z1, if_pos z2]
            exact Rel_fail (Or.inr ⟨rfl, rfl⟩) (ra _ _ _ _)
          · rw [if_neg z2, if_neg (show ¬ (1 : Int32) = 0 by decide), if_neg (by decide), if_neg z1, if_neg z2, if_neg (show ¬ nI 1 = 0 by decide)]
            have R := Rel_sh1 (ra (f_first x (τ.2 12 (9 * 1 + 1))) (f_first y (τ.2 12 (9 * 1 + 2))) (f_first x (τ.2 12 (9 * 1 + 1))) (f_first y (τ.2 12 (9 * 1 + 2)))) (by unfold q_of; simpa [xb_ri, xb_rl, xb_i_l, xb_l_i, ps_i, ps_l, qs_i, qs_l, qs_7, sp_lnD] using hp) (by unfold p_of q_of p_Init_set; simp [xb_ri, xb_rl, xb_i_l, xb_l_i, ps_i, ps_l, qs_i, qs_l, qs_7, sp_lnD])
            exact R
theorem start_ph (hB : rB B e) : (q_start e τ).1 4 e = 1 := by
  rw [q_start_is (rB.lt hB), xb_i_hit]
theorem p_start_ph (hB : rB B e) (h : Rel σ τ) (hp : ¬ τ.1 4 e = 5) : (p_start B σ).1 B 9 = 1 := by
  rw [((Rel_start hB h hp).E hB).ph]; exact start_ph hB
theorem p_start_P (hB : rB B e) (h : Rel σ τ) {j : Nat} : (p_start B σ).2 (B + 1) j = σ.2 (B + 1) j := by
  have hE := h.E hB
  rcases hB with ⟨rfl, rfl⟩ | ⟨rfl, rfl⟩
  · rw [p_start0 hE.di]; unfold p_st; simp [xb_ri, xb_rl, xb_i_l, xb_l_i, ps_i, ps_l, qs_i, qs_l, qs_7, sp_lnD]
  · rw [p_start1 hE.di]; unfold p_st; simp [xb_ri, xb_rl, xb_i_l, xb_l_i, ps_i, ps_l, qs_i, qs_l, qs_7, sp_lnD]
theorem p_peer (hB : rB B e) (h : Rel σ τ) : p_peerInit B σ = some (12 + 14 * e) := by
  have hE := h.E hB
  rcases hB with ⟨rfl, rfl⟩ | ⟨rfl, rfl⟩
  · exact p_peer0 hE.di
  · exact p_peer1 hE.di
theorem Rel_takeInit (hB : rB B e) (h : Rel σ τ) : Rel (p_end B (p_takeInit B (B + 1) σ)) (q_init e (σ.2 (B + 1) 1) (σ.2 (B + 1) 2) (σ.2 (B + 1) 3) τ) := by
  have hE := h.E hB
  have hph := hE.ph
  unfold p_takeInit p_mayStart
  rw [hph]
  by_cases h0 : τ.1 4 e = 0 ∨ τ.1 4 e = 4
  · have hp : ¬ τ.1 4 e = 5 := by rcases h0 with q | q <;> rw [q] <;> decide
    have m : ¬ (if τ.1 4 e = 0 then (1 : Int32) else if τ.1 4 e = 4 then 1 else 0) = 0 := by rcases h0 with q | q <;> rw [q] <;> decide
    rw [if_neg m, if_pos (p_start_ph hB h hp), xb_om_some (p_peer hB (Rel_start hB h hp)), q_init_s h0, p_start_P hB h, p_start_P hB h, p_start_P hB h]
    have R := Rel_it hB (w := σ.2 (B + 1) 1) (x := σ.2 (B + 1) 2) (y := σ.2 (B + 1) 3) (Rel_start hB h hp) (start_ph hB)
    unfold p_it at R
    exact R
  · have m : (if τ.1 4 e = 0 then (1 : Int32) else if τ.1 4 e = 4 then 1 else 0) = 0 := by
      rw [if_neg (fun q => h0 (Or.inl q)), if_neg (fun q => h0 (Or.inr q))]
    rw [if_pos m]
    by_cases h1 : τ.1 4 e = 1
    · rw [if_pos h1, xb_om_some (p_peer hB h), q_init_1 h1]
      have R := Rel_it hB (w := σ.2 (B + 1) 1) (x := σ.2 (B + 1) 2) (y := σ.2 (B + 1) 3) h h1
      unfold p_it at R
      exact R
    · rw [if_neg h1, q_init_x (fun q => h0 (Or.inl q)) (fun q => h0 (Or.inr q)) h1]
      exact Rel_fail hB h
end
