/-! the calls that may throw: the same exception, or the same answer, and states that stay tied -/
section
variable {B e C q c Z : Nat} {σ σ' τ τ' : xb_St}
theorem eot_some (hB : rB B e) : p_eot Z (nI e) σ = some B ∧ th_P_endpointOrThrow Z (nI e) σ = 0 := by
  unfold p_eot th_P_endpointOrThrow
  rw [xb_om_some (of_end hB), xb_om_some (of_end hB)]
  exact ⟨rfl, rfl⟩
theorem eot_none {x : Int32} (h : ¬ x = 0 ∧ ¬ x = 1) : th_P_endpointOrThrow Z x σ = 1 := by
  unfold th_P_endpointOrThrow
  rw [xb_om_none (of_none h)]
theorem raise_v {v : Int32} : (q_raise v τ).2.1 0 0 = v := xb_i_hit
theorem raise_R {v : Int32} (h : Rel σ τ) : Rel σ (q_raise v τ).2 := Rel_thrown h
/-- what is to be shown of a call that may throw: k its exception, r and s' what the program answers, r' and t' the reference -/
def k_Th (k : Nat) (r : Int32) (σ s' : xb_St) (r' : Int32) (t' : xb_St) : Prop := t'.1 0 0 = nI k ∧ (k = 0 → r = r' ∧ Rel s' t') ∧ (¬ k = 0 → Rel σ t')
theorem k_thr {k : Nat} {v : Int32} {r r' : Int32} {s' : xb_St} (h : Rel σ τ) (hk : ¬ k = 0) (hv : v = nI k) : k_Th k r σ s' r' (q_raise v τ).2 := ⟨raise_v.trans hv, fun z => absurd z hk, fun _ => raise_R h⟩
theorem k_ok {r r' : Int32} {s' t' : xb_St} (h0 : t'.1 0 0 = 0) (hr : r = r') (hR : Rel s' t') : k_Th 0 r σ s' r' t' := ⟨h0, fun _ => ⟨hr, hR⟩, fun z => absurd rfl z⟩
theorem K_begin (h : Rel σ τ) (x1 : Int32) : k_Th (th_P_begin Z x1 σ) (p_begin Z x1 σ).1 σ (p_begin Z x1 σ).2 (q_begin x1 τ).1 (q_begin x1 τ).2 := by
  rcases ends x1 with ⟨B, e, hB, rfl⟩ | hn
  · have E := eot_some (Z := Z) (σ := σ) hB
    have ph := (h.E hB).ph
    unfold th_P_begin p_begin q_begin
    rw [if_pos E.2, xb_om_some E.1, xb_om_some E.1, if_neg (isEnd_1 hB), clampE hB]
    unfold p_mayStart
    rw [ph]
    have good : ¬ τ.1 4 e = 5 → k_Th 0 ((p_start B σ).1 B 14) σ (p_start B σ) ((q_start e (xb_si τ 0 0 0)).1 6 e) (q_start e (xb_si τ 0 0 0)) := by
      intro n5
      have R := Rel_start hB (Rel_thrown (v := 0) h) (by rw [t0_i (by decide)]; exact n5)
      exact k_ok (by rw [start_0]; exact xb_i_hit) (R.E hB).it R
    by_cases a : τ.1 4 e = 0
    · rw [if_pos a, if_neg (by decide), if_neg (by decide), if_pos a]
      exact good (by rw [a]; decide)
    · rw [if_neg a, if_neg a]
      by_cases b : τ.1 4 e = 4
      · rw [if_pos b, if_neg (by decide), if_neg (by decide), if_pos b]
        exact good (by rw [b]; decide)
      · rw [if_neg b, if_pos rfl, if_pos rfl, if_neg b]
        exact k_thr h (by decide) rfl
  · have E := eot_none (Z := Z) (σ := σ) hn
    unfold th_P_begin
    rw [if_neg (by rw [E]; decide), E]
    unfold q_begin
    rw [if_pos (isEnd_0 hn)]
    exact k_thr h (by decide) rfl
theorem K_deliver (h : Rel σ τ) (x1 : Int32) : k_Th (th_P_deliver Z x1 σ) (p_deliver Z x1 σ).1 σ (p_deliver Z x1 σ).2 (q_deliver x1 τ).1 (q_deliver x1 τ).2 := by
  rw [q_deliver_is]
  rcases ends x1 with ⟨B, e, hB, rfl⟩ | hn
  · have E := eot_some (Z := Z) (σ := σ) hB
    have hE := h.E hB
    have he := rB.lt hB
    have hln : sp_lnA B = 1 + e := by rcases hB with ⟨rfl, rfl⟩ | ⟨rfl, rfl⟩ <;> rfl
    have h' := Rel_thrown (v := 0) h
    obtain ⟨n, hn, e1, e2, hk⟩ := h.L he
    unfold th_P_deliver p_deliver
    rw [if_pos E.2, xb_om_some E.1, if_neg (isEnd_1 hB), clampE hB, hln, e1, ← e2]
    by_cases a : τ.1 24 e = 0
    · rw [if_pos a, if_pos a]
      exact k_ok xb_i_hit rfl h'
    · rw [if_neg a, if_neg a]
      have a' : ¬ (xb_si τ 0 0 0).1 24 e = 0 := by rw [t0_i (by decide)]; exact a
      have D := Rel_drop he (Rel_copy (to := 33) (fr := 16 * e) (by decide) (rB_33 he) h') (by rw [qc_i, if_neg (by decide)]; exact a')
      have z0 : (q_drop e (q_copy (16 * e) 33 (xb_si τ 0 0 0))).1 0 0 = 0 := drop_0.trans xb_i_hit
      have p4 : (q_drop e (q_copy (16 * e) 33 (xb_si τ 0 0 0))).1 4 e = τ.1 4 e := by
        unfold q_drop
        rw [fd_i, if_neg (fun z => absurd z.1 (by decide)), xb_i_nk (by decide), qc_i, if_neg (by decide), t0_i (by decide)]
      rw [hE.ph, p4]
      by_cases b : τ.1 4 e = 5
      · rw [if_pos b, if_pos b]
        exact k_ok z0 rfl D
      · rw [if_neg b, if_neg b]
        have R := Rel_recv hB h' a'
        have Z0 := (rc_0 (e := e)).trans z0
        generalize q_rc e (q_drop e (q_copy (16 * e) 33 (xb_si τ 0 0 0))) = m at R Z0 ⊢
        generalize p_receive B σ = r at R ⊢
        exact k_ok Z0 R.1 R.2
  · have E := eot_none (Z := Z) (σ := σ) hn
    unfold th_P_deliver
    rw [if_neg (by rw [E]; decide), E, if_pos (isEnd_0 hn)]
    exact k_thr h (by decide) rfl
theorem Rel_ask (hQ : rQ C q c) (h : Rel σ τ) (hs : τ.1 28 q = 0) : Rel (xb_si (xb_si σ C 2 1) C 5 24) (xb_si (xb_si (q_release q τ) 28 q 1) 31 q 24) := by
  have hC := h.Ch hQ
  obtain ⟨z1, z2, z3, z4, z5⟩ := hC.z hs
  refine Rel_C1 hQ h ?_ ?_
  · unfold q_release
    refine ⟨?_, ?_, ?_, ?_, ?_, ?_, ?_⟩ <;> intros <;> simp [xb_ri, xb_rl, xb_i_l, xb_l_i, *]
  · obtain ⟨f, a, b, d, hf, hu, e1, e2, e3, e4, hi⟩ := hC.nu
    have hb : b = 0 := (nI_eq (a := b) (b := 0) (by omega) (by decide)).mp (e3.symm.trans z4)
    subst hb
    unfold q_release
    refine ⟨?_, ?_, ?_, ?_, ?_, ?_, ?_, ⟨f, 24, 0, 0, hf, by decide, ?_, ?_, ?_, ?_, ?_⟩, ?_⟩
    · simpa [xb_ri, xb_rl, xb_i_l, xb_l_i, ps_i, ps_l, qs_i, qs_l, qs_7, sp_lnD] using hC.ix
    · simp [xb_ri, xb_rl, xb_i_l, xb_l_i, ps_i, ps_l, qs_i, qs_l, qs_7, sp_lnD]
    · simpa [xb_ri, xb_rl, xb_i_l, xb_l_i, ps_i, ps_l, qs_i, qs_l, qs_7, sp_lnD] using hC.pe.trans z1
    · simpa [xb_ri, xb_rl, xb_i_l, xb_l_i, ps_i, ps_l, qs_i, qs_l, qs_7, sp_lnD] using hC.wi.trans z2
    · simp [xb_ri, xb_rl, xb_i_l, xb_l_i, ps_i, ps_l, qs_i, qs_l, qs_7, sp_lnD]
    · simpa [xb_ri, xb_rl, xb_i_l, xb_l_i, ps_i, ps_l, qs_i, qs_l, qs_7, sp_lnD] using hC.he.trans z4
    · simpa [xb_ri, xb_rl, xb_i_l, xb_l_i, ps_i, ps_l, qs_i, qs_l, qs_7, sp_lnD] using hC.ta.trans z5
    · simpa [xb_ri, xb_rl, xb_i_l, xb_l_i, ps_i, ps_l, qs_i, qs_l, qs_7, sp_lnD] using e1
    · simp [xb_ri, xb_rl, xb_i_l, xb_l_i, ps_i, ps_l, qs_i, qs_l, qs_7, sp_lnD]; rfl
    · simp [xb_ri, xb_rl, xb_i_l, xb_l_i, ps_i, ps_l, qs_i, qs_l, qs_7, sp_lnD]; rfl
    · simp [xb_ri, xb_rl, xb_i_l, xb_l_i, ps_i, ps_l, qs_i, qs_l, qs_7, sp_lnD]; rfl
    · intro i hi; omega
    · simp [xb_ri, xb_rl, xb_i_l, xb_l_i, ps_i, ps_l, qs_i, qs_l, qs_7, sp_lnD]
theorem K_open (h : Rel σ τ) (x1 : Int32) : k_Th (th_P_open Z x1 σ) (p_open Z x1 σ).1 σ (p_open Z x1 σ).2 (q_open x1 τ).1 (q_open x1 τ).2 := by
  rcases ends x1 with ⟨B, e, hB, rfl⟩ | hn
  · have E := eot_some (Z := Z) (σ := σ) hB
    have ph := (h.E hB).ph
    unfold th_P_open p_open q_open
    rw [if_pos E.2, xb_om_some E.1, xb_om_some E.1, if_neg (isEnd_1 hB), clampE hB, ph]
    by_cases a : τ.1 4 e = 4
    · rw [if_pos a, if_pos a, if_pos a]
      rcases free_rel hB h with ⟨f1, f2⟩ | ⟨c, hc, f1, f2, f3⟩
      · rw [xb_om_none f1, xb_om_none f1, f2, if_neg (by decide)]
        exact k_thr h (by decide) rfl
      · have hQ := rQ_of hB hc
        have hC := h.Ch hQ
        rw [xb_om_some f1, xb_om_some f1, f2, if_pos (nI_pos' (by omega)), nI_clamp (by omega)]
        have h' := Rel_thrown (v := 0) h
        have N := Rel_ask hQ h' (by rw [t0_i (by decide)]; exact f3)
        have R := Rel_send hB (x1 := 90) (x2 := (nI c).toInt64) (x3 := 24) (x4 := 0) (x5 := 0) N
        have ask : p_ask B (B + 9 + c) σ = p_send B 90 (nI c).toInt64 24 0 0 (xb_si (xb_si σ (B + 9 + c) 2 1) (B + 9 + c) 5 24) := by
          unfold p_ask
          rw [hC.ix]
        rw [ask]
        refine k_ok ?_ ?_ R
        · rw [send_0, xb_i_nk (by decide), xb_i_nk (by decide), rel_0, xb_i_hit]
        · have := (R.Ch hQ).ix
          exact this
    · rw [if_neg a, if_neg a, if_neg a]
      exact k_thr h (by decide) rfl
  · have E := eot_none (Z := Z) (σ := σ) hn
    unfold th_P_open
    rw [if_neg (by rw [E]; decide), E]
    unfold q_open
    rw [if_pos (isEnd_0 hn)]
    exact k_thr h (by decide) rfl
end
