/-! new keys: share, reply, turn -/
theorem xb_si_comm {σ : xb_St} {K K' j j' : Nat} {v v' : Int32} (h : K ≠ K') : xb_si (xb_si σ K j v) K' j' v' = xb_si (xb_si σ K' j' v') K j v := by
  refine Prod.ext (funext fun a => funext fun b => ?_) rfl
  rw [xb_ri, xb_ri, xb_ri, xb_ri]
  by_cases h1 : a = K'
  · have h2 : ¬ a = K := fun q => h (q.symm.trans h1)
    simp only [if_pos h1, if_neg h2]
  · simp only [if_neg h1]
theorem xb_sl_comm {σ : xb_St} {K K' j j' : Nat} {v v' : Int64} (h : K ≠ K') : xb_sl (xb_sl σ K j v) K' j' v' = xb_sl (xb_sl σ K' j' v') K j v := by
  refine Prod.ext rfl (funext fun a => funext fun b => ?_)
  rw [xb_rl, xb_rl, xb_rl, xb_rl]
  by_cases h1 : a = K'
  · have h2 : ¬ a = K := fun q => h (q.symm.trans h1)
    simp only [if_pos h1, if_neg h2]
  · simp only [if_neg h1]
theorem xb_sil {σ : xb_St} {K K' j j' : Nat} {v : Int32} {v' : Int64} : xb_sl (xb_si σ K j v) K' j' v' = xb_si (xb_sl σ K' j' v') K j v := rfl
theorem add_si {K P K' j : Nat} {v : Int32} {σ : xb_St} (h1 : K' ≠ K) (h2 : K' ≠ P) : p_Line_add K P (xb_si σ K' j v) = xb_si (p_Line_add K P σ) K' j v := by
  unfold p_Line_add
  rw [xb_i_nk h1.symm, xb_i_nk h2.symm]
  simp only [xb_l_i]
  by_cases c : σ.1 K 1 < 16
  · simp only [if_pos c, xb_sil]
    rw [xb_si_comm h1]
  · simp only [if_neg c]
theorem add_sl {K P K' j : Nat} {v : Int64} {σ : xb_St} (h1 : K' ≠ K + 2) (h2 : K' ≠ P) : p_Line_add K P (xb_sl σ K' j v) = xb_sl (p_Line_add K P σ) K' j v := by
  unfold p_Line_add
  rw [xb_l_nk h2.symm, xb_l_nk h2.symm, xb_l_nk h2.symm, xb_l_nk h2.symm, xb_l_nk h2.symm]
  by_cases c : σ.1 K 1 < 16
  · have c' : (xb_sl σ K' j v).1 K 1 < 16 := c
    rw [if_pos c, if_pos c']
    simp only [xb_i_l]
    rw [xb_sil, xb_sl_comm h1, xb_sl_comm h1, xb_sl_comm h1, xb_sl_comm h1, xb_sl_comm h1, xb_sl_comm h1]
  · have c' : ¬ (xb_sl σ K' j v).1 K 1 < 16 := c
    rw [if_neg c, if_neg c']
theorem cov_si {K P K' j : Nat} {v : Int32} {σ : xb_St} (h1 : K' ≠ K) : p_Keys_cover K P (xb_si σ K' j v) = xb_si (p_Keys_cover K P σ) K' j v := by
  unfold p_Keys_cover
  rw [xb_i_nk h1.symm, xb_i_nk h1.symm, xb_i_nk h1.symm]
  by_cases c : σ.1 K 0 = 0
  · rw [if_pos c, if_pos c]
  · rw [if_neg c, if_neg c]; rfl
theorem cov_sl {K P K' j : Nat} {v : Int64} {σ : xb_St} (h1 : K' ≠ K) (h2 : K' ≠ P) : p_Keys_cover K P (xb_sl σ K' j v) = xb_sl (p_Keys_cover K P σ) K' j v := by
  unfold p_Keys_cover
  rw [xb_l_nk h1.symm, xb_l_nk h2.symm, xb_l_nk h2.symm, xb_l_nk h2.symm, xb_l_nk h2.symm]
  by_cases c : σ.1 K 0 = 0
  · have c' : (xb_sl σ K' j v).1 K 0 = 0 := c
    rw [if_pos c, if_pos c']
  · have c' : ¬ (xb_sl σ K' j v).1 K 0 = 0 := c
    rw [if_neg c, if_neg c']
    simp only [xb_i_l]
    rw [xb_sl_comm h2, xb_sl_comm h2, xb_sl_comm h2, xb_sl_comm h2]
theorem tag_si {K P K' j : Nat} {v : Int32} {s : xb_St} (h1 : K' ≠ K) (h2 : K' ≠ P) : p_Keys_tagOf K P (xb_si s K' j v) = p_Keys_tagOf K P s := by
  unfold p_Keys_tagOf
  by_cases c : s.1 K 0 = 0
  · have c' : (xb_si s K' j v).1 K 0 = 0 := (xb_i_nk h1.symm).trans c
    rw [if_pos c, if_pos c']
  · have c' : ¬ (xb_si s K' j v).1 K 0 = 0 := fun q => c ((xb_i_nk h1.symm).symm.trans q)
    rw [if_neg c, if_neg c', xb_i_nk h1.symm, xb_i_nk h1.symm, xb_i_nk h2.symm]
    rfl
theorem tag_sl {K P K' j : Nat} {v : Int64} {s : xb_St} (h1 : K' ≠ K) (h2 : K' ≠ P) : p_Keys_tagOf K P (xb_sl s K' j v) = p_Keys_tagOf K P s := by
  unfold p_Keys_tagOf
  by_cases c : s.1 K 0 = 0
  · have c' : (xb_sl s K' j v).1 K 0 = 0 := c
    rw [if_pos c, if_pos c']
  · have c' : ¬ (xb_sl s K' j v).1 K 0 = 0 := c
    rw [if_neg c, if_neg c', xb_l_nk h1.symm, xb_l_nk h2.symm, xb_l_nk h2.symm, xb_l_nk h2.symm, xb_l_nk h2.symm]
    rfl
theorem made_si {B K' j : Nat} {v : Int32} {x1 : Int32} {x2 x3 x4 x5 : Int64} {σ : xb_St} (h1 : K' ≠ B + 4) (h2 : K' ≠ B + 2) : p_made B x1 x2 x3 x4 x5 (xb_si σ K' j v) = xb_si (p_made B x1 x2 x3 x4 x5 σ) K' j v := by
  unfold p_made
  rw [xb_si_comm h2]
  simp only [xb_sil]
  rw [tag_si h1 h2]
theorem made_sl {B K' j : Nat} {v : Int64} {x1 : Int32} {x2 x3 x4 x5 : Int64} {σ : xb_St} (h1 : K' ≠ B + 4) (h2 : K' ≠ B + 2) : p_made B x1 x2 x3 x4 x5 (xb_sl σ K' j v) = xb_sl (p_made B x1 x2 x3 x4 x5 σ) K' j v := by
  have e : ∀ s : xb_St, xb_sl (xb_sl (xb_sl (xb_sl (xb_si (xb_sl s K' j v) (B + 2) 0 x1) (B + 2) 1 x2) (B + 2) 2 x3) (B + 2) 3 x4) (B + 2) 4 x5 = xb_sl (xb_sl (xb_sl (xb_sl (xb_sl (xb_si s (B + 2) 0 x1) (B + 2) 1 x2) (B + 2) 2 x3) (B + 2) 3 x4) (B + 2) 4 x5) K' j v := by
    intro s
    rw [← xb_sil, xb_sl_comm h2, xb_sl_comm h2, xb_sl_comm h2, xb_sl_comm h2]
  unfold p_made
  rw [e, tag_sl h1 h2, xb_sl_comm h2]
theorem send_si {B K' j : Nat} {v : Int32} {x1 : Int32} {x2 x3 x4 x5 : Int64} {σ : xb_St} (h1 : K' ≠ B + 4) (h2 : K' ≠ B + 2) (h3 : K' ≠ sp_lnD B) : p_send B x1 x2 x3 x4 x5 (xb_si σ K' j v) = xb_si (p_send B x1 x2 x3 x4 x5 σ) K' j v := by
  rw [p_send_is, p_send_is, made_si h1 h2, cov_si h1, xb_i_nk h1.symm, xb_si_comm h1, add_si h3 h2]
theorem send_sl {B K' j : Nat} {v : Int64} {x1 : Int32} {x2 x3 x4 x5 : Int64} {σ : xb_St} (h1 : K' ≠ B + 4) (h2 : K' ≠ B + 2) (h3 : K' ≠ sp_lnD B + 2) : p_send B x1 x2 x3 x4 x5 (xb_sl σ K' j v) = xb_sl (p_send B x1 x2 x3 x4 x5 σ) K' j v := by
  rw [p_send_is, p_send_is, made_sl h1 h2, cov_sl h1 h2, xb_i_l, ← xb_sil, add_sl h3 h2]
/-- the session is set, as turn sets it -/
def p_sess (B : Nat) (σ : xb_St) : xb_St := if σ.1 B 15 = 0 then xb_sl (xb_si σ B 15 1) B 16 (σ.2 (B + 5) 6) else σ
def p_tn (B : Nat) (s : xb_St) : xb_St := xb_si (p_Keys_renew (B + 4) (B + 5) (s.2 B 16) (s.1 B 2) s) B 9 3
section
variable {B e C q c : Nat} {σ σ' τ τ' : xb_St} {x1 : Int32} {x2 x3 x4 x5 : Int64}
theorem sess_send (hB : rB B e) : p_sess B (p_send B x1 x2 x3 x4 x5 σ) = p_send B x1 x2 x3 x4 x5 (p_sess B σ) := by
  have h1 : B ≠ B + 4 := by omega
  have h2 : B ≠ B + 2 := by omega
  have h3 : B ≠ sp_lnD B := by rcases hB with ⟨rfl, rfl⟩ | ⟨rfl, rfl⟩ <;> decide
  have h4 : B ≠ sp_lnD B + 2 := by rcases hB with ⟨rfl, rfl⟩ | ⟨rfl, rfl⟩ <;> decide
  have h5 : B + 5 ≠ sp_lnD B + 2 := by rcases hB with ⟨rfl, rfl⟩ | ⟨rfl, rfl⟩ <;> decide
  unfold p_sess
  rw [ps_i h2 h1 h3, ps_l (by omega) h5]
  split
  · rw [send_sl h1 h2 h4, send_si h1 h2 h3]
  · rfl
theorem p_turn_is (hB : rB B e) : p_turn B σ = p_tn B (p_send B 21 0 0 0 0 (p_sess B σ)) := by
  rw [← sess_send hB]
  unfold p_turn p_tn p_sess
  have h1 : B ≠ B + 4 := by omega
  have h2 : B ≠ B + 2 := by omega
  have h3 : B ≠ sp_lnD B := by rcases hB with ⟨rfl, rfl⟩ | ⟨rfl, rfl⟩ <;> decide
  generalize p_send B 21 0 0 0 0 σ = S
  by_cases c : S.1 B 15 = 0
  · rw [if_pos c, if_pos c, xb_l_hit, xb_i_l, xb_i_nj (by decide)]
  · rw [if_neg c, if_neg c]
/-- what agree leaves for the two directions -/
def rN (B e : Nat) (s t : xb_St) : Prop := t.2 22 (2 * e) = f_mix (f_mix (f_mix (f_mix 0 (s.2 (B + 5) 5)) (s.2 (B + 5) 6)) (nI (e + 1)).toInt64) (t.2 9 e) ∧ t.2 23 (2 * e) = f_mix (f_mix (f_mix (f_mix 0 (s.2 (B + 5) 5)) (s.2 (B + 5) 6)) (nI (e + 1) + 2).toInt64) (t.2 9 e) ∧ t.2 22 (2 * e + 1) = f_mix (f_mix (f_mix (f_mix 0 (s.2 (B + 5) 5)) (s.2 (B + 5) 6)) (3 - nI (e + 1)).toInt64) (t.2 9 e) ∧ t.2 23 (2 * e + 1) = f_mix (f_mix (f_mix (f_mix 0 (s.2 (B + 5) 5)) (s.2 (B + 5) 6)) (3 - nI (e + 1) + 2).toInt64) (t.2 9 e)
theorem rN_send (hB : rB B e) (h : rN B e σ τ) : rN B e (p_send B x1 x2 x3 x4 x5 σ) (q_send e x1 x2 x3 x4 x5 τ) := by
  unfold rN at h ⊢
  rcases hB with ⟨rfl, rfl⟩ | ⟨rfl, rfl⟩ <;> simpa [xb_ri, xb_rl, xb_i_l, xb_l_i, ps_i, ps_l, qs_i, qs_l, qs_7, sp_lnD] using h
theorem Rel_tn (hB : rB B e) (h : Rel σ τ) (hp : τ.1 4 e = 2) (hn : rN B e σ τ) : Rel (p_tn B σ) (xb_si (xb_si (q_change e 0 τ) 7 e 0) 4 e 3) := by
  have hE := h.E hB
  have hg : σ.1 5 17 = τ.1 0 5 ∧ (σ.1 20 17).toInt64 = τ.2 0 4 := h.g
  have hc := hE.ch (Or.inl hp)
  have re := hE.re
  rw [hp] at re
  obtain ⟨n1, n2, n3, n4⟩ := hn
  have ss := hE.ss
  have di := hE.di
  unfold p_tn p_Keys_renew q_change
  rcases hB with ⟨rfl, rfl⟩ | ⟨rfl, rfl⟩
  · refine Rel_E1 (Or.inl ⟨rfl, rfl⟩) h ?_ (by (refine ⟨?_, ?_, ?_, ?_, ?_, ?_, ?_, ?_, ?_, ?_, ?_, ?_, ?_, ?_, ?_, ?_⟩ <;> (intros; simp [xb_ri, xb_rl, xb_i_l, xb_l_i, ps_i, ps_l, qs_i, qs_l, qs_7, sp_lnD]))) ⟨by (refine ⟨?_, ?_, ?_, ?_, ?_, ?_⟩ <;> (intros; simp [xb_ri, xb_rl, xb_i_l, xb_l_i, ps_i, ps_l, qs_i, qs_l, qs_7, sp_lnD])), by (refine ⟨?_, ?_, ?_, ?_, ?_, ?_⟩ <;> (intros; simp [xb_ri, xb_rl, xb_i_l, xb_l_i, ps_i, ps_l, qs_i, qs_l, qs_7, sp_lnD]))⟩ ⟨by (refine ⟨?_, ?_, ?_, ?_, ?_⟩ <;> (intros; simp [xb_ri, xb_rl, xb_i_l, xb_l_i, ps_i, ps_l, qs_i, qs_l, qs_7, sp_lnD])), by (refine ⟨?_, ?_, ?_, ?_, ?_⟩ <;> (intros; simp [xb_ri, xb_rl, xb_i_l, xb_l_i, ps_i, ps_l, qs_i, qs_l, qs_7, sp_lnD])), by (refine ⟨?_, ?_, ?_, ?_, ?_⟩ <;> (intros; simp [xb_ri, xb_rl, xb_i_l, xb_l_i, ps_i, ps_l, qs_i, qs_l, qs_7, sp_lnD])), by (refine ⟨?_, ?_, ?_, ?_, ?_⟩ <;> (intros; simp [xb_ri, xb_rl, xb_i_l, xb_l_i, ps_i, ps_l, qs_i, qs_l, qs_7, sp_lnD])), by (refine ⟨?_, ?_, ?_, ?_, ?_⟩ <;> (intros; simp [xb_ri, xb_rl, xb_i_l, xb_l_i, ps_i, ps_l, qs_i, qs_l, qs_7, sp_lnD])), by (refine ⟨?_, ?_, ?_, ?_, ?_⟩ <;> (intros; simp [xb_ri, xb_rl, xb_i_l, xb_l_i, ps_i, ps_l, qs_i, qs_l, qs_7, sp_lnD]))⟩ (by show _ ∧ _; simpa [xb_ri, xb_rl, xb_i_l, xb_l_i, ps_i, ps_l, qs_i, qs_l, qs_7, sp_lnD] using hg)
    refine ⟨?_, ?_, by simpa [xb_ri, xb_rl, xb_i_l, xb_l_i, ps_i, ps_l, qs_i, qs_l, qs_7, sp_lnD] using hE.di, by simpa [xb_ri, xb_rl, xb_i_l, xb_l_i, ps_i, ps_l, qs_i, qs_l, qs_7, sp_lnD] using hE.ci, by simpa [xb_ri, xb_rl, xb_i_l, xb_l_i, ps_i, ps_l, qs_i, qs_l, qs_7, sp_lnD] using hE.cl, by simpa [xb_ri, xb_rl, xb_i_l, xb_l_i, ps_i, ps_l, qs_i, qs_l, qs_7, sp_lnD] using hE.ta, by simpa [xb_ri, xb_rl, xb_i_l, xb_l_i, ps_i, ps_l, qs_i, qs_l, qs_7, sp_lnD] using hE.tl, by simpa [xb_ri, xb_rl, xb_i_l, xb_l_i, ps_i, ps_l, qs_i, qs_l, qs_7, sp_lnD] using hE.se, by simpa [xb_ri, xb_rl, xb_i_l, xb_l_i, ps_i, ps_l, qs_i, qs_l, qs_7, sp_lnD] using hE.it, by simpa [xb_ri, xb_rl, xb_i_l, xb_l_i, ps_i, ps_l, qs_i, qs_l, qs_7, sp_lnD] using hE.hs, by simpa [xb_ri, xb_rl, xb_i_l, xb_l_i, ps_i, ps_l, qs_i, qs_l, qs_7, sp_lnD] using hE.ss, by simpa [xb_ri, xb_rl, xb_i_l, xb_l_i, ps_i, ps_l, qs_i, qs_l, qs_7, sp_lnD] using hE.s0, by simpa [xb_ri, xb_rl, xb_i_l, xb_l_i, ps_i, ps_l, qs_i, qs_l, qs_7, sp_lnD] using hE.tu, ?_, rK_same hE.ki ⟨by simp [xb_ri, xb_rl, xb_i_l, xb_l_i, ps_i, ps_l, qs_i, qs_l, qs_7, sp_lnD], by simp [xb_ri, xb_rl, xb_i_l, xb_l_i, ps_i, ps_l, qs_i, qs_l, qs_7, sp_lnD], by simp [xb_ri, xb_rl, xb_i_l, xb_l_i, ps_i, ps_l, qs_i, qs_l, qs_7, sp_lnD], by simp [xb_ri, xb_rl, xb_i_l, xb_l_i, ps_i, ps_l, qs_i, qs_l, qs_7, sp_lnD], by simp [xb_ri, xb_rl, xb_i_l, xb_l_i, ps_i, ps_l, qs_i, qs_l, qs_7, sp_lnD]⟩ (by simpa [xb_ri, xb_rl, xb_i_l, xb_l_i, ps_i, ps_l, qs_i, qs_l, qs_7, sp_lnD] using hE.ki.num) ⟨by simp [xb_ri, xb_rl, xb_i_l, xb_l_i, ps_i, ps_l, qs_i, qs_l, qs_7, sp_lnD], by simp [xb_ri, xb_rl, xb_i_l, xb_l_i, ps_i, ps_l, qs_i, qs_l, qs_7, sp_lnD], by simp [xb_ri, xb_rl, xb_i_l, xb_l_i, ps_i, ps_l, qs_i, qs_l, qs_7, sp_lnD], by simp [xb_ri, xb_rl, xb_i_l, xb_l_i, ps_i, ps_l, qs_i, qs_l, qs_7, sp_lnD], by simp [xb_ri, xb_rl, xb_i_l, xb_l_i, ps_i, ps_l, qs_i, qs_l, qs_7, sp_lnD]⟩, by simpa [xb_ri, xb_rl, xb_i_l, xb_l_i, ps_i, ps_l, qs_i, qs_l, qs_7, sp_lnD] using hE.us, by simpa [xb_ri, xb_rl, xb_i_l, xb_l_i, ps_i, ps_l, qs_i, qs_l, qs_7, sp_lnD] using hE.oc, by simpa [xb_ri, xb_rl, xb_i_l, xb_l_i, ps_i, ps_l, qs_i, qs_l, qs_7, sp_lnD] using hE.os, ?_, ?_, ?_, ?_⟩
    · simp [xb_ri, xb_rl, xb_i_l, xb_l_i, ps_i, ps_l, qs_i, qs_l, qs_7, sp_lnD]
    · simpa [xb_ri, xb_rl, xb_i_l, xb_l_i, ps_i, ps_l, qs_i, qs_l, qs_7, sp_lnD] using re
    · refine ⟨by simp [xb_ri, xb_rl, xb_i_l, xb_l_i, ps_i, ps_l, qs_i, qs_l, qs_7, sp_lnD], by simp [xb_ri, xb_rl, xb_i_l, xb_l_i, ps_i, ps_l, qs_i, qs_l, qs_7, sp_lnD], fun _ => ?_, fun _ => ?_, ?_, ?_⟩
      · simp [xb_ri, xb_rl, xb_i_l, xb_l_i, ps_i, ps_l, qs_i, qs_l, qs_7, sp_lnD, ss, di]; exact n1.symm
      · simp [xb_ri, xb_rl, xb_i_l, xb_l_i, ps_i, ps_l, qs_i, qs_l, qs_7, sp_lnD, ss, di]; exact n2.symm
      · simpa [xb_ri, xb_rl, xb_i_l, xb_l_i, ps_i, ps_l, qs_i, qs_l, qs_7, sp_lnD] using hc.1
      · simpa [xb_ri, xb_rl, xb_i_l, xb_l_i, ps_i, ps_l, qs_i, qs_l, qs_7, sp_lnD] using hc.2
    · simp [xb_ri, xb_rl, xb_i_l, xb_l_i, ps_i, ps_l, qs_i, qs_l, qs_7, sp_lnD]
    · simpa [xb_ri, xb_rl, xb_i_l, xb_l_i, ps_i, ps_l, qs_i, qs_l, qs_7, sp_lnD] using hc
    · simpa [xb_ri, xb_rl, xb_i_l, xb_l_i, ps_i, ps_l, qs_i, qs_l, qs_7, sp_lnD] using And.intro n3 n4
    · simp [xb_ri, xb_rl, xb_i_l, xb_l_i, ps_i, ps_l, qs_i, qs_l, qs_7, sp_lnD]
  · refine Rel_E1 (Or.inr ⟨rfl, rfl⟩) h ?_ (by (refine ⟨?_, ?_, ?_, ?_, ?_, ?_, ?_, ?_, ?_, ?_, ?_, ?_, ?_, ?_, ?_, ?_⟩ <;> (intros; simp [xb_ri, xb_rl, xb_i_l, xb_l_i, ps_i, ps_l, qs_i, qs_l, qs_7, sp_lnD]))) ⟨by (refine ⟨?_, ?_, ?_, ?_, ?_, ?_⟩ <;> (intros; simp [xb_ri, xb_rl, xb_i_l, xb_l_i, ps_i, ps_l, qs_i, qs_l, qs_7, sp_lnD])), by (refine ⟨?_, ?_, ?_, ?_, ?_, ?_⟩ <;> (intros; simp [xb_ri, xb_rl, xb_i_l, xb_l_i, ps_i, ps_l, qs_i, qs_l, qs_7, sp_lnD]))⟩ ⟨by (refine ⟨?_, ?_, ?_, ?_, ?_⟩ <;> (intros; simp [xb_ri, xb_rl, xb_i_l, xb_l_i, ps_i, ps_l, qs_i, qs_l, qs_7, sp_lnD])), by (refine ⟨?_, ?_, ?_, ?_, ?_⟩ <;> (intros; simp [xb_ri, xb_rl, xb_i_l, xb_l_i, ps_i, ps_l, qs_i, qs_l, qs_7, sp_lnD])), by (refine ⟨?_, ?_, ?_, ?_, ?_⟩ <;> (intros; simp [xb_ri, xb_rl, xb_i_l, xb_l_i, ps_i, ps_l, qs_i, qs_l, qs_7, sp_lnD])), by (refine ⟨?_, ?_, ?_, ?_, ?_⟩ <;> (intros; simp [xb_ri, xb_rl, xb_i_l, xb_l_i, ps_i, ps_l, qs_i, qs_l, qs_7, sp_lnD])), by (refine ⟨?_, ?_, ?_, ?_, ?_⟩ <;> (intros; simp [xb_ri, xb_rl, xb_i_l, xb_l_i, ps_i, ps_l, qs_i, qs_l, qs_7, sp_lnD])), by (refine ⟨?_, ?_, ?_, ?_, ?_⟩ <;> (intros; simp [xb_ri, xb_rl, xb_i_l, xb_l_i, ps_i, ps_l, qs_i, qs_l, qs_7, sp_lnD]))⟩ (by show _ ∧ _; simpa [xb_ri, xb_rl, xb_i_l, xb_l_i, ps_i, ps_l, qs_i, qs_l, qs_7, sp_lnD] using hg)
    refine ⟨?_, ?_, by simpa [xb_ri, xb_rl, xb_i_l, xb_l_i, ps_i, ps_l, qs_i, qs_l, qs_7, sp_lnD] using hE.di, by simpa [xb_ri, xb_rl, xb_i_l, xb_l_i, ps_i, ps_l, qs_i, qs_l, qs_7, sp_lnD] using hE.ci, by simpa [xb_ri, xb_rl, xb_i_l, xb_l_i, ps_i, ps_l, qs_i, qs_l, qs_7, sp_lnD] using hE.cl, by simpa [xb_ri, xb_rl, xb_i_l, xb_l_i, ps_i, ps_l, qs_i, qs_l, qs_7, sp_lnD] using hE.ta, by simpa [xb_ri, xb_rl, xb_i_l, xb_l_i, ps_i, ps_l, qs_i, qs_l, qs_7, sp_lnD] using hE.tl, by simpa [xb_ri, xb_rl, xb_i_l, xb_l_i, ps_i, ps_l, qs_i, qs_l, qs_7, sp_lnD] using hE.se, by simpa [xb_ri, xb_rl, xb_i_l, xb_l_i, ps_i, ps_l, qs_i, qs_l, qs_7, sp_lnD] using hE.it, by simpa [xb_ri, xb_rl, xb_i_l, xb_l_i, ps_i, ps_l, qs_i, qs_l, qs_7, sp_lnD] using hE.hs, by simpa [xb_ri, xb_rl, xb_i_l, xb_l_i, ps_i, ps_l, qs_i, qs_l, qs_7, sp_lnD] using hE.ss, by simpa [xb_ri, xb_rl, xb_i_l, xb_l_i, ps_i, ps_l, qs_i, qs_l, qs_7, sp_lnD] using hE.s0, by simpa [xb_ri, xb_rl, xb_i_l, xb_l_i, ps_i, ps_l, qs_i, qs_l, qs_7, sp_lnD] using hE.tu, ?_, rK_same hE.ki ⟨by simp [xb_ri, xb_rl, xb_i_l, xb_l_i, ps_i, ps_l, qs_i, qs_l, qs_7, sp_lnD], by simp [xb_ri, xb_rl, xb_i_l, xb_l_i, ps_i, ps_l, qs_i, qs_l, qs_7, sp_lnD], by simp [xb_ri, xb_rl, xb_i_l, xb_l_i, ps_i, ps_l, qs_i, qs_l, qs_7, sp_lnD], by simp [xb_ri, xb_rl, xb_i_l, xb_l_i, ps_i, ps_l, qs_i, qs_l, qs_7, sp_lnD], by simp [xb_ri, xb_rl, xb_i_l, xb_l_i, ps_i, ps_l, qs_i, qs_l, qs_7, sp_lnD]⟩ (by simpa [xb_ri, xb_rl, xb_i_l, xb_l_i, ps_i, ps_l, qs_i, qs_l, qs_7, sp_lnD] using hE.ki.num) ⟨by simp [xb_ri, xb_rl, xb_i_l, xb_l_i, ps_i, ps_l, qs_i, qs_l, qs_7, sp_lnD], by simp [xb_ri, xb_rl, xb_i_l, xb_l_i, ps_i, ps_l, qs_i, qs_l, qs_7, sp_lnD], by simp [xb_ri, xb_rl, xb_i_l, xb_l_i, ps_i, ps_l, qs_i, qs_l, qs_7, sp_lnD], by simp [xb_ri, xb_rl, xb_i_l, xb_l_i, ps_i, ps_l, qs_i, qs_l, qs_7, sp_lnD], by simp [xb_ri, xb_rl, xb_i_l, xb_l_i, ps_i, ps_l, qs_i, qs_l, qs_7, sp_lnD]⟩, by simpa [xb_ri, xb_rl, xb_i_l, xb_l_i, ps_i, ps_l, qs_i, qs_l, qs_7, sp_lnD] using hE.us, by simpa [xb_ri, xb_rl, xb_i_l, xb_l_i, ps_i, ps_l, qs_i, qs_l, qs_7, sp_lnD] using hE.oc, by simpa [xb_ri, xb_rl, xb_i_l, xb_l_i, ps_i, ps_l, qs_i, qs_l, qs_7, sp_lnD] using hE.os, ?_, ?_, ?_, ?_⟩
    · simp [xb_ri, xb_rl, xb_i_l, xb_l_i, ps_i, ps_l, qs_i, qs_l, qs_7, sp_lnD]
    · simpa [xb_ri, xb_rl, xb_i_l, xb_l_i, ps_i, ps_l, qs_i, qs_l, qs_7, sp_lnD] using re
    · refine ⟨by simp [xb_ri, xb_rl, xb_i_l, xb_l_i, ps_i, ps_l, qs_i, qs_l, qs_7, sp_lnD], by simp [xb_ri, xb_rl, xb_i_l, xb_l_i, ps_i, ps_l, qs_i, qs_l, qs_7, sp_lnD], fun _ => ?_, fun _ => ?_, ?_, ?_⟩
      · simp [xb_ri, xb_rl, xb_i_l, xb_l_i, ps_i, ps_l, qs_i, qs_l, qs_7, sp_lnD, ss, di]; exact n1.symm
      · simp [xb_ri, xb_rl, xb_i_l, xb_l_i, ps_i, ps_l, qs_i, qs_l, qs_7, sp_lnD, ss, di]; exact n2.symm
      · simpa [xb_ri, xb_rl, xb_i_l, xb_l_i, ps_i, ps_l, qs_i, qs_l, qs_7, sp_lnD] using hc.1
      · simpa [xb_ri, xb_rl, xb_i_l, xb_l_i, ps_i, ps_l, qs_i, qs_l, qs_7, sp_lnD] using hc.2
    · simp [xb_ri, xb_rl, xb_i_l, xb_l_i, ps_i, ps_l, qs_i, qs_l, qs_7, sp_lnD]
    · simpa [xb_ri, xb_rl, xb_i_l, xb_l_i, ps_i, ps_l, qs_i, qs_l, qs_7, sp_lnD] using hc
    · simpa [xb_ri, xb_rl, xb_i_l, xb_l_i, ps_i, ps_l, qs_i, qs_l, qs_7, sp_lnD] using And.intro n3 n4
    · simp [xb_ri, xb_rl, xb_i_l, xb_l_i, ps_i, ps_l, qs_i, qs_l, qs_7, sp_lnD]
theorem Rel_turn (hB : rB B e) (h : Rel (p_sess B σ) τ) (hp : τ.1 4 e = 2) (hn : rN B e (p_sess B σ) τ) : Rel (p_turn B σ) (q_turn e τ) := by
  rw [p_turn_is hB]
  exact Rel_tn hB (Rel_send hB h) (by rw [qs_i (by decide) (by decide) (by decide)]; exact hp) (rN_send hB hn)
end
