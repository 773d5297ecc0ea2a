/-! close, read, write -/
section
variable {B e C q c Z : Nat} {σ σ' τ τ' : xb_St}
theorem xb_ext {σ τ : xb_St} (h1 : ∀ K j, σ.1 K j = τ.1 K j) (h2 : ∀ K j, σ.2 K j = τ.2 K j) : σ = τ := Prod.ext (funext fun K => funext fun j => h1 K j) (funext fun K => funext fun j => h2 K j)
theorem si_si {K K' j j' : Nat} {v v' : Int32} (h : K ≠ K') : xb_si (xb_si σ K j v) K' j' v' = xb_si (xb_si σ K' j' v') K j v := by
  refine xb_ext (fun a b => ?_) (fun a b => rfl)
  simp only [xb_ri]
  by_cases h1 : a = K
  · subst h1; simp [h]
  · simp [h1]
theorem copy_si {fr to K j : Nat} {v : Int32} (h : K ≠ 25) : q_copy fr to (xb_si τ K j v) = xb_si (q_copy fr to τ) K j v := by
  have h' : 25 ≠ K := Ne.symm h
  refine xb_ext (fun a b => ?_) (fun a b => ?_)
  · rw [xb_ri, qc_i, qc_i, xb_i_nk h', xb_i_nk h']
    by_cases h1 : a = 25
    · subst h1; simp [h']
    · rw [if_neg h1, if_neg h1, xb_ri]
  · unfold q_copy
    simp only [xb_rl, xb_l_i]
theorem put_si {to K j : Nat} {v : Int32} (h : K ≠ 24 ∧ K ≠ 25) : q_put to (xb_si τ K j v) = xb_si (q_put to τ) K j v := by
  have h' : 24 ≠ K := Ne.symm h.1
  unfold q_put
  rw [xb_i_nk h']
  by_cases a : (16 : Int32) ≤ τ.1 24 to
  · rw [if_pos a, if_pos a]
  · rw [if_neg a, if_neg a, copy_si h.2, xb_i_nk h', si_si h.1]
theorem row_si {x2 : Int32} {x3 x4 x5 x6 : Int64} {K j : Nat} {v : Int32} (h25 : K ≠ 25) (h7 : K ≠ 7) (h17 : K ≠ 17) (h20 : K ≠ 20) (h21 : K ≠ 21) : q_row e x2 x3 x4 x5 x6 (xb_si τ K j v) = xb_si (q_row e x2 x3 x4 x5 x6 τ) K j v := by
  have e17 : (xb_si τ K j v).1 17 (2 * e) = τ.1 17 (2 * e) := xb_i_nk (Ne.symm h17)
  have e7 : (xb_si τ K j v).1 7 e = τ.1 7 e := xb_i_nk (Ne.symm h7)
  have e20 : (xb_si τ K j v).1 20 (2 * e) = τ.1 20 (2 * e) := xb_i_nk (Ne.symm h20)
  have e21 : (xb_si τ K j v).1 21 (2 * e) = τ.1 21 (2 * e) := xb_i_nk (Ne.symm h21)
  unfold q_row
  rw [e17]
  simp only [e7, e20, e21, xb_l_i]
  by_cases z : τ.1 17 (2 * e) = 0
  · rw [if_pos z, if_pos z]
    refine xb_ext (fun a b => ?_) (fun a b => ?_)
    · simp only [xb_i_l, xb_ri]
      by_cases h1 : a = K
      · subst h1; simp [h25, h7]
      · simp [h1]
    · simp only [xb_l_i, xb_rl]
  · rw [if_neg z, if_neg z]
    refine xb_ext (fun a b => ?_) (fun a b => ?_)
    · simp only [xb_i_l, xb_ri]
      by_cases h1 : a = K
      · subst h1; simp [h25, h7]
      · simp [h1]
    · simp only [xb_l_i, xb_rl]
theorem qsend_si {x2 : Int32} {x3 x4 x5 x6 : Int64} {K j : Nat} {v : Int32} (h24 : K ≠ 24) (h25 : K ≠ 25) (h7 : K ≠ 7) (h17 : K ≠ 17) (h20 : K ≠ 20) (h21 : K ≠ 21) : q_send e x2 x3 x4 x5 x6 (xb_si τ K j v) = xb_si (q_send e x2 x3 x4 x5 x6 τ) K j v := by
  rw [q_send_is, q_send_is, row_si h25 h7 h17 h20 h21, put_si ⟨h24, h25⟩]
theorem may_is (hB : rB B e) (hQ : rQ C q c) (h : Rel σ τ) : p_mayUse B C σ = if τ.1 4 e = 4 then (if τ.1 28 q = 2 then 1 else 0) else 0 := by
  unfold p_mayUse
  rw [(h.E hB).ph, (h.Ch hQ).st]
theorem cot_y {x2 : Int32} (h1 : p_channelAt B x2.toInt64 σ = some C) : p_cot B x2 σ = some C ∧ th_P_channelOrThrow B x2 σ = 0 := by
  unfold p_cot th_P_channelOrThrow
  rw [xb_om_some h1, xb_om_some h1]
  exact ⟨rfl, rfl⟩
theorem cot_n {x2 : Int32} (h1 : p_channelAt B x2.toInt64 σ = none) : th_P_channelOrThrow B x2 σ = 1 := by
  unfold th_P_channelOrThrow
  rw [xb_om_none h1]
theorem uot_y {x2 : Int32} (h1 : p_channelAt B x2.toInt64 σ = some C) (u : ¬ p_mayUse B C σ = 0) : p_uot B x2 σ = some C ∧ th_P_usableOrThrow B x2 σ = 0 := by
  unfold p_uot th_P_usableOrThrow
  rw [if_pos (cot_y h1).2, xb_om_some (cot_y h1).1, xb_om_some (cot_y h1).1, if_neg u, if_neg u]
  exact ⟨rfl, rfl⟩
theorem uot_2 {x2 : Int32} (h1 : p_channelAt B x2.toInt64 σ = some C) (u : p_mayUse B C σ = 0) : th_P_usableOrThrow B x2 σ = 2 := by
  unfold th_P_usableOrThrow
  rw [if_pos (cot_y h1).2, xb_om_some (cot_y h1).1, if_pos u]
theorem uot_n {x2 : Int32} (h1 : p_channelAt B x2.toInt64 σ = none) : th_P_usableOrThrow B x2 σ = 1 := by
  unfold th_P_usableOrThrow
  rw [if_neg (by rw [cot_n h1]; decide), cot_n h1]
theorem chan_nn {x1 x2 : Int32} (hn : ¬ x1 = 0 ∧ ¬ x1 = 1) : g_isChannel x1 x2 = 0 := by
  unfold g_isChannel
  rw [if_pos (isEnd_0 hn)]
theorem K_close (h : Rel σ τ) (x1 x2 : Int32) : k_Th (th_P_close Z x1 x2 σ) (p_close Z x1 x2 σ).1 σ (p_close Z x1 x2 σ).2 (q_close x1 x2 τ).1 (q_close x1 x2 τ).2 := by
  rcases ends x1 with ⟨B, e, hB, rfl⟩ | hn
  · have E := eot_some (Z := Z) (σ := σ) hB
    unfold th_P_close p_close q_close
    rw [if_pos E.2, xb_om_some E.1, xb_om_some E.1]
    by_cases a : ¬ x2 < 0 ∧ ¬ 2 < x2
    · obtain ⟨c, hc, rfl, h1, h2, h3⟩ := chan_yes hB a (σ := σ)
      have hQ := rQ_of hB hc
      have hC := h.Ch hQ
      rw [if_neg h2, clampE hB, h3]
      have m := may_is hB hQ h
      by_cases p4 : τ.1 4 e = 4
      · by_cases s2 : τ.1 28 (3 * e + c) = 2
        · rw [if_pos p4, if_pos s2] at m
          obtain ⟨u1, u2⟩ := uot_y h1 (by rw [m]; decide)
          rw [if_pos u2, xb_om_some u1, if_pos p4, if_pos s2]
          have R := Rel_send hB (x1 := 97) (x2 := τ.2 29 (3 * e + c)) (x3 := 0) (x4 := 0) (x5 := 0) (Rel_shut hQ (Rel_thrown (v := 0) h))
          rw [qsend_si (by decide) (by decide) (by decide) (by decide) (by decide) (by decide), qsend_si (by decide) (by decide) (by decide) (by decide) (by decide) (by decide)] at R
          have hp : (p_Ch_empty (B + 9 + c) σ).2 (B + 9 + c) 3 = τ.2 29 (3 * e + c) := hC.pe
          unfold p_shut
          rw [hp]
          refine k_ok ?_ ?_ R
          · rw [xb_i_nk (by decide), xb_i_nk (by decide), send_0, xb_i_hit]
          · rw [qs_i (by decide) (by decide) (by decide), t0_i (by decide)]
            exact hC.he
        · rw [if_pos p4, if_neg s2] at m
          rw [if_neg (by rw [uot_2 h1 m]; decide), uot_2 h1 m, if_pos p4, if_neg s2]
          exact k_thr h (by decide) rfl
      · rw [if_neg p4] at m
        rw [if_neg (by rw [uot_2 h1 m]; decide), uot_2 h1 m, if_neg p4]
        exact k_thr h (by decide) rfl
    · obtain ⟨h1, h2⟩ := chan_no hB a (σ := σ)
      rw [if_neg (by rw [uot_n h1]; decide), uot_n h1, if_pos h2]
      exact k_thr h (by decide) rfl
  · have E := eot_none (Z := Z) (σ := σ) hn
    unfold th_P_close
    rw [if_neg (by rw [E]; decide), E]
    unfold q_close
    rw [if_pos (chan_nn hn)]
    exact k_thr h (by decide) rfl
/-! read -/
def q_mr (e q : Nat) (t : xb_St) : xb_St := if t.1 4 e = 4 then (if t.1 28 q = 2 then (if t.1 33 q < 12 then t else q_send e 93 (t.2 29 q) (t.1 33 q).toInt64 0 0 (xb_si (xb_si t 33 q 0) 31 q (t.1 31 q + t.1 33 q))) else t) else t
theorem mr_pair {v : Int32} {t : xb_St} : (if t.1 4 e = 4 then (if t.1 28 q = 2 then (if t.1 33 q < 12 then (v, t) else (v, q_send e 93 (t.2 29 q) (t.1 33 q).toInt64 0 0 (xb_si (xb_si t 33 q 0) 31 q (t.1 31 q + t.1 33 q)))) else (v, t)) else (v, t)) = (v, q_mr e q t) := by
  unfold q_mr
  by_cases a : t.1 4 e = 4
  · rw [if_pos a, if_pos a]
    by_cases b : t.1 28 q = 2
    · rw [if_pos b, if_pos b]
      by_cases d : t.1 33 q < 12
      · rw [if_pos d, if_pos d]
      · rw [if_neg d, if_neg d]
    · rw [if_neg b, if_neg b]
  · rw [if_neg a, if_neg a]
theorem mr_0 {t : xb_St} : (q_mr e q t).1 0 0 = t.1 0 0 := by
  unfold q_mr
  refine ite_z (ite_z (ite_z rfl ?_) rfl) rfl
  rw [send_0, xb_i_nk (by decide), xb_i_nk (by decide)]
theorem Rel_mr (hB : rB B e) (hQ : rQ C q c) (h : Rel σ τ) : Rel (p_makeRoom B C σ) (q_mr e q τ) := by
  have hC := h.Ch hQ
  have m := may_is hB hQ h
  unfold p_makeRoom q_mr
  by_cases p4 : τ.1 4 e = 4
  · rw [if_pos p4] at m ⊢
    by_cases s2 : τ.1 28 q = 2
    · rw [if_pos s2] at m ⊢
      rw [if_neg (by rw [m]; decide)]
      by_cases d : τ.1 33 q < 12
      · have d' : ¬ (12 : Int32) ≤ σ.1 C 8 := by
          rw [hC.ta, Int32.le_iff_toInt_le]
          rw [Int32.lt_iff_toInt_lt] at d
          omega
        rw [if_pos d, if_neg d']
        exact h
      · have d' : (12 : Int32) ≤ σ.1 C 8 := by
          rw [hC.ta, Int32.le_iff_toInt_le]
          rw [Int32.lt_iff_toInt_lt] at d
          omega
        rw [if_neg d, if_pos d']
        have R := Rel_send hB (x1 := 93) (x2 := σ.2 C 3) (x3 := (σ.1 C 8).toInt64) (x4 := 0) (x5 := 0) (Rel_room hQ h (by rw [s2]; decide))
        rw [hC.pe, hC.ta] at R ⊢
        exact R
    · rw [if_neg s2] at m ⊢
      rw [if_pos m]
      exact h
  · rw [if_neg p4] at m ⊢
    rw [if_pos m]
    exact h
theorem K_read (h : Rel σ τ) (x1 x2 : Int32) : k_Th (th_P_read Z x1 x2 σ) (p_read Z x1 x2 σ).1 σ (p_read Z x1 x2 σ).2 (q_read x1 x2 τ).1 (q_read x1 x2 τ).2 := by
  rcases ends x1 with ⟨B, e, hB, rfl⟩ | hn
  · have E := eot_some (Z := Z) (σ := σ) hB
    unfold th_P_read p_read q_read
    rw [if_pos E.2, xb_om_some E.1, xb_om_some E.1]
    by_cases a : ¬ x2 < 0 ∧ ¬ 2 < x2
    · obtain ⟨c, hc, rfl, h1, h2, h3⟩ := chan_yes hB a (σ := σ)
      have hQ := rQ_of hB hc
      have h0 := Rel_thrown (v := 0) h
      have hC := h.Ch hQ
      rw [if_neg h2, clampE hB, h3, if_pos (cot_y h1).2, xb_om_some (cot_y h1).1]
      generalize hq : 3 * e + c = q at hQ hC ⊢
      generalize B + 9 + c = C at hQ hC ⊢
      obtain ⟨f, a', b, d, hf, hu, e1, e2, e3, e4, hi⟩ := hC.nu
      have b31 : b < 2 ^ 31 := Nat.lt_of_le_of_lt (Nat.le_trans (Nat.le_trans (Nat.le_add_left b a') (Nat.le_add_right _ d)) hu) (by decide)
      by_cases m : τ.1 32 q ≤ 0
      · have b0 : b = 0 := by
          rw [e3] at m
          exact Nat.le_zero.mp ((nI_leI (b := 0) b31 (by decide)).mp m)
        rw [if_pos m]
        have M := mr_pair (e := e) (q := q) (v := -1) (t := xb_si τ 0 0 0)
        rw [t0_i (by decide), t0_i (by decide), t0_i (by decide), t0_i (by decide), xb_l_i] at M
        rw [M]
        have hz : σ.1 C 7 = 0 := by rw [hC.he, e3, b0]; rfl
        unfold p_takeByte
        rw [if_pos hz]
        exact k_ok (mr_0.trans xb_i_hit) rfl (Rel_mr hB hQ h0)
      · have b0 : 0 < b := by
          rw [e3] at m
          exact Nat.pos_of_ne_zero fun z => m (by rw [z]; decide)
        rw [if_neg m, mr_pair]
        have hz : ¬ σ.1 C 7 = 0 := by
          rw [hC.he, e3]
          exact fun z => Nat.ne_of_gt b0 ((nI_eq (b := 0) b31 (by decide)).mp z)
        unfold p_takeByte
        rw [if_neg hz, xb_nr (x := σ.1 C 6 + 1) (y := 24) (a := f + 1) (b := 24) (by rw [e1]; exact nI_1 f) rfl (by omega) (by decide) (by decide), e1, nI_clamp (by omega)]
        have Y := Rel_byte hQ h0 e1 hf (by rw [t0_i (by decide)]; exact e3) b0 (by omega)
        rw [t0_i (by decide), t0_i (by decide), t0_i (by decide)] at Y
        have ec : (τ.1 32 q).toNatClampNeg = b := by rw [e3]; exact nI_clamp b31
        rw [ec]
        refine k_ok (mr_0.trans ?_) Y.2 (Rel_mr hB hQ Y.1)
        rw [rd_i (by decide), xb_i_nk (by decide), xb_i_nk (by decide), xb_i_hit]
    · obtain ⟨h1, h2⟩ := chan_no hB a (σ := σ)
      rw [if_neg (by rw [cot_n h1]; decide), cot_n h1, if_pos h2]
      exact k_thr h (by decide) rfl
  · have E := eot_none (Z := Z) (σ := σ) hn
    unfold th_P_read
    rw [if_neg (by rw [E]; decide), E]
    unfold q_read
    rw [if_pos (chan_nn hn)]
    exact k_thr h (by decide) rfl
end
