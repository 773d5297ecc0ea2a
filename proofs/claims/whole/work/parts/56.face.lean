/-! the calls that throw nothing: the same answers, and states that stay tied -/
theorem ends (x : Int32) : (∃ B e, rB B e ∧ x = nI e) ∨ (¬ x = 0 ∧ ¬ x = 1) := by
  by_cases h0 : x = 0
  · exact Or.inl ⟨5, 0, Or.inl ⟨rfl, rfl⟩, h0⟩
  · by_cases h1 : x = 1
    · exact Or.inl ⟨20, 1, Or.inr ⟨rfl, rfl⟩, h1⟩
    · exact Or.inr ⟨h0, h1⟩
section
variable {B e C q c Z : Nat} {σ σ' τ τ' : xb_St}
theorem of_end (hB : rB B e) : p_endpointOf Z (nI e) σ = some B := by
  rcases hB with ⟨rfl, rfl⟩ | ⟨rfl, rfl⟩
  · rfl
  · rfl
theorem of_none {x : Int32} (h : ¬ x = 0 ∧ ¬ x = 1) : p_endpointOf Z x σ = none := by
  unfold p_endpointOf
  rw [if_neg h.1, if_neg h.2]
theorem of_line (hB : rB B e) : p_lineTo Z (nI e) σ = some (1 + e) := by
  unfold p_lineTo
  rw [xb_om_some (of_end hB)]
  rcases hB with ⟨rfl, rfl⟩ | ⟨rfl, rfl⟩ <;> rfl
theorem of_noline {x : Int32} (h : ¬ x = 0 ∧ ¬ x = 1) : p_lineTo Z x σ = none := by
  unfold p_lineTo
  rw [xb_om_none (of_none h)]
theorem isEnd_1 (hB : rB B e) : ¬ g_isEnd (nI e) = 0 := by
  rcases hB with ⟨rfl, rfl⟩ | ⟨rfl, rfl⟩ <;> decide
theorem isEnd_0 {x : Int32} (h : ¬ x = 0 ∧ ¬ x = 1) : g_isEnd x = 0 := by
  unfold g_isEnd
  rw [if_neg h.1, if_neg h.2]
theorem clampE (hB : rB B e) : (nI e).toNatClampNeg = e := by
  rcases hB with ⟨rfl, rfl⟩ | ⟨rfl, rfl⟩ <;> decide
theorem t0_i {K j : Nat} {v : Int32} (h : K ≠ 0) : (xb_si τ 0 0 v).1 K j = τ.1 K j := xb_i_nk h
theorem K_offer (h : Rel σ τ) (x1 x2 x3 : Int32) : (p_offer Z x1 x2 x3 σ).1 = (q_offer x1 x2 x3 τ).1 ∧ Rel (p_offer Z x1 x2 x3 σ).2 (q_offer x1 x2 x3 τ).2 := by
  unfold p_offer q_offer
  rcases ends x1 with ⟨B, e, hB, rfl⟩ | hn
  · rw [xb_om_some (of_end hB), if_neg (isEnd_1 hB), clampE hB, ← k_isList, ← k_isList]
    by_cases a : f_isList x2.toInt64 = 0
    · rw [if_pos a, if_pos a]; exact ⟨rfl, Rel_thrown h⟩
    · rw [if_neg a, if_neg a]
      by_cases b : f_isList x3.toInt64 = 0
      · rw [if_pos b, if_pos b]; exact ⟨rfl, Rel_thrown h⟩
      · rw [if_neg b, if_neg b]; exact ⟨rfl, Rel_offer hB (Rel_thrown h) a b⟩
  · rw [xb_om_none (of_none hn), if_pos (isEnd_0 hn)]; exact ⟨rfl, Rel_thrown h⟩
theorem sec_is (x : Int32) : f_isSecret x = if x < 1 then 0 else if x ≤ 2147483645 then 1 else 0 := by
  unfold f_isSecret
  have e : (2147483645 < x) ↔ ¬ (x ≤ 2147483645) := by
    rw [Int32.le_iff_toInt_le, Int32.lt_iff_toInt_lt]; omega
  by_cases a : x < 1
  · rw [if_pos a, if_pos a]
  · rw [if_neg a, if_neg a]
    by_cases b : x ≤ 2147483645
    · rw [if_neg (fun z => e.mp z b), if_pos b]
    · rw [if_pos (e.mpr b), if_neg b]
theorem K_secret (h : Rel σ τ) (x1 x2 : Int32) : (p_secret Z x1 x2 σ).1 = (q_secret x1 x2 τ).1 ∧ Rel (p_secret Z x1 x2 σ).2 (q_secret x1 x2 τ).2 := by
  unfold p_secret q_secret
  rcases ends x1 with ⟨B, e, hB, rfl⟩ | hn
  · rw [xb_om_some (of_end hB), if_neg (isEnd_1 hB), clampE hB, sec_is]
    by_cases a : x2 < 1
    · simp only [if_pos a]; first | exact ⟨rfl, Rel_thrown h⟩ | exact ⟨trivial, Rel_thrown h⟩
    · simp only [if_neg a]
      by_cases b : x2 ≤ 2147483645
      · simp only [if_pos b, if_neg (show ¬ (1 : Int32) = 0 by decide)]; first | exact ⟨rfl, Rel_secret hB (Rel_thrown h)⟩ | exact ⟨trivial, Rel_secret hB (Rel_thrown h)⟩
      · simp only [if_neg b, if_pos (show (0 : Int32) = 0 from rfl)]; first | exact ⟨rfl, Rel_thrown h⟩ | exact ⟨trivial, Rel_thrown h⟩
  · rw [xb_om_none (of_none hn), if_pos (isEnd_0 hn)]; first | exact ⟨rfl, Rel_thrown h⟩ | exact ⟨trivial, Rel_thrown h⟩
theorem K_host (h : Rel σ τ) (x1 : Int32) : (p_host Z x1 σ).1 = (q_host x1 τ).1 ∧ Rel (p_host Z x1 σ).2 (q_host x1 τ).2 := by
  unfold p_host q_host
  rw [sec_is]
  by_cases a : x1 < 1
  · simp only [if_pos a]; first | exact ⟨rfl, Rel_thrown h⟩ | exact ⟨trivial, Rel_thrown h⟩
  · simp only [if_neg a]
    by_cases b : x1 ≤ 2147483645
    · simp only [if_pos b, if_neg (show ¬ (1 : Int32) = 0 by decide)]; first | exact ⟨rfl, Rel_host (Rel_thrown h)⟩ | exact ⟨trivial, Rel_host (Rel_thrown h)⟩
    · simp only [if_neg b, if_pos (show (0 : Int32) = 0 from rfl)]; first | exact ⟨rfl, Rel_thrown h⟩ | exact ⟨trivial, Rel_thrown h⟩
theorem K_trust (h : Rel σ τ) (x1 : Int32) : Rel (p_trust Z x1 σ) (q_trust x1 τ) := Rel_trust (Rel_thrown h)
theorem K_leave (h : Rel σ τ) (x1 x2 : Int32) : (p_leave Z x1 x2 σ).1 = (q_leave x1 x2 τ).1 ∧ Rel (p_leave Z x1 x2 σ).2 (q_leave x1 x2 τ).2 := by
  unfold p_leave q_leave
  rcases ends x1 with ⟨B, e, hB, rfl⟩ | hn
  · rw [xb_om_some (of_end hB), if_neg (isEnd_1 hB), clampE hB, (h.E hB).ph]
    by_cases a : τ.1 4 e = 5
    · rw [if_pos a, if_pos a]; exact ⟨rfl, Rel_thrown h⟩
    · rw [if_neg a, if_neg a]; exact ⟨rfl, Rel_fail hB (Rel_thrown h)⟩
  · rw [xb_om_none (of_none hn), if_pos (isEnd_0 hn)]; exact ⟨rfl, Rel_thrown h⟩
theorem K_phase (h : Rel σ τ) (x1 : Int32) : p_phase Z x1 σ = (q_phase x1 τ).1 ∧ Rel σ (q_phase x1 τ).2 := by
  unfold p_phase q_phase
  rcases ends x1 with ⟨B, e, hB, rfl⟩ | hn
  · have hE := h.E hB
    rw [xb_om_some (of_end hB), if_neg (isEnd_1 hB), clampE hB, hE.ph, hE.re]
    by_cases a : τ.1 4 e = 5
    · rw [if_pos a, if_pos a]; exact ⟨rfl, Rel_thrown h⟩
    · rw [if_neg a, if_neg a]; exact ⟨rfl, Rel_thrown h⟩
  · rw [xb_om_none (of_none hn), if_pos (isEnd_0 hn)]; exact ⟨rfl, Rel_thrown h⟩
theorem K_session (h : Rel σ τ) (x1 : Int32) : p_session Z x1 σ = (q_session x1 τ).1 ∧ Rel σ (q_session x1 τ).2 := by
  unfold p_session q_session
  rcases ends x1 with ⟨B, e, hB, rfl⟩ | hn
  · have hE := h.E hB
    rw [xb_om_some (of_end hB), if_neg (isEnd_1 hB), clampE hB, hE.ss]
    by_cases a : τ.1 10 e = 0
    · rw [if_pos a]; exact ⟨hE.s0 a, Rel_thrown h⟩
    · rw [if_neg a]; exact ⟨rfl, Rel_thrown h⟩
  · rw [xb_om_none (of_none hn), if_pos (isEnd_0 hn)]; exact ⟨rfl, Rel_thrown h⟩
theorem K_state (h : Rel σ τ) (x1 x2 : Int32) : p_state Z x1 x2 σ = (q_state x1 x2 τ).1 ∧ Rel σ (q_state x1 x2 τ).2 := by
  unfold p_state q_state
  rcases ends x1 with ⟨B, e, hB, rfl⟩ | hn
  · have hE := h.E hB
    rw [xb_om_some (of_end hB), if_neg (isEnd_1 hB), clampE hB, hE.ko.num, hE.ki.num, hE.ko.ci, hE.ko.ta]
    by_cases a0 : x2 = 0
    · subst a0
      rw [if_pos rfl, if_neg (by decide), if_pos (by decide), if_pos rfl]; exact ⟨rfl, Rel_thrown h⟩
    · by_cases a1 : x2 = 1
      · subst a1
        rw [if_neg (by decide), if_pos rfl, if_neg (by decide), if_pos (by decide), if_neg (by decide), if_pos rfl]; exact ⟨rfl, Rel_thrown h⟩
      · by_cases a2 : x2 = 2
        · subst a2
          rw [if_neg (show ¬ (2 : Int32) = 0 by decide), if_neg (show ¬ (2 : Int32) = 1 by decide), if_pos rfl, if_neg (show ¬ (2 : Int32) < 0 by decide), if_pos (show (2 : Int32) ≤ 3 by decide), if_neg (show ¬ (2 : Int32) = 0 by decide), if_neg (show ¬ (2 : Int32) = 1 by decide)]
          by_cases k : τ.1 17 (2 * e) = 0
          · rw [if_pos k, if_pos k]; exact ⟨rfl, Rel_thrown h⟩
          · rw [if_neg k, if_neg k, if_pos rfl]; exact ⟨rfl, Rel_thrown h⟩
        · by_cases a3 : x2 = 3
          · subst a3
            rw [if_neg (show ¬ (3 : Int32) = 0 by decide), if_neg (show ¬ (3 : Int32) = 1 by decide), if_neg (show ¬ (3 : Int32) = 2 by decide), if_pos rfl, if_neg (show ¬ (3 : Int32) < 0 by decide), if_pos (show (3 : Int32) ≤ 3 by decide), if_neg (show ¬ (3 : Int32) = 0 by decide), if_neg (show ¬ (3 : Int32) = 1 by decide)]
            by_cases k : τ.1 17 (2 * e) = 0
            · rw [if_pos k, if_pos k]; exact ⟨rfl, Rel_thrown h⟩
            · rw [if_neg k, if_neg k, if_neg (show ¬ (3 : Int32) = 2 by decide)]; exact ⟨rfl, Rel_thrown h⟩
          · rw [if_neg a0, if_neg a1, if_neg a2, if_neg a3]
            by_cases n : x2 < 0
            · rw [if_pos n]; exact ⟨rfl, Rel_thrown h⟩
            · rw [if_neg n]
              have g : ¬ x2 ≤ 3 := by
                intro z
                rw [Int32.lt_iff_toInt_lt] at n
                rw [Int32.le_iff_toInt_le] at z
                have q0 : (0 : Int32).toInt = 0 := rfl
                have q3 : (3 : Int32).toInt = 3 := rfl
                have d : x2.toInt = 0 ∨ x2.toInt = 1 ∨ x2.toInt = 2 ∨ x2.toInt = 3 := by omega
                rcases d with d | d | d | d
                · exact a0 (Int32.toInt_inj.mp (d.trans rfl))
                · exact a1 (Int32.toInt_inj.mp (d.trans rfl))
                · exact a2 (Int32.toInt_inj.mp (d.trans rfl))
                · exact a3 (Int32.toInt_inj.mp (d.trans rfl))
              rw [if_neg g]; exact ⟨rfl, Rel_thrown h⟩
  · rw [xb_om_none (of_none hn), if_pos (isEnd_0 hn)]; exact ⟨rfl, Rel_thrown h⟩
theorem K_line (h : Rel σ τ) (x1 : Int32) : p_line Z x1 σ = (q_line x1 τ).1 ∧ Rel σ (q_line x1 τ).2 := by
  unfold p_line q_line
  rcases ends x1 with ⟨B, e, hB, rfl⟩ | hn
  · obtain ⟨n, hn, e1, e2, hk⟩ := h.L (rB.lt hB)
    rw [xb_om_some (of_line hB), if_neg (isEnd_1 hB), clampE hB]
    exact ⟨e1.trans e2.symm, Rel_thrown h⟩
  · rw [xb_om_none (of_noline hn), if_pos (isEnd_0 hn)]; exact ⟨rfl, Rel_thrown h⟩
theorem K_lose (h : Rel σ τ) (x1 : Int32) : (p_lose Z x1 σ).1 = (q_lose x1 τ).1 ∧ Rel (p_lose Z x1 σ).2 (q_lose x1 τ).2 := by
  unfold p_lose q_lose
  rcases ends x1 with ⟨B, e, hB, rfl⟩ | hn
  · obtain ⟨n, hn, e1, e2, hk⟩ := h.L (rB.lt hB)
    rw [xb_om_some (of_line hB), if_neg (isEnd_1 hB), clampE hB, e1, ← e2]
    by_cases a : τ.1 24 e = 0
    · rw [if_pos a, if_pos a]; exact ⟨rfl, Rel_thrown h⟩
    · rw [if_neg a, if_neg a]; exact ⟨rfl, Rel_drop (rB.lt hB) (Rel_thrown h) (by rw [t0_i (by decide)]; exact a)⟩
  · rw [xb_om_none (of_noline hn), if_pos (isEnd_0 hn)]; exact ⟨rfl, Rel_thrown h⟩
theorem K_twice (h : Rel σ τ) (x1 : Int32) : (p_twice Z x1 σ).1 = (q_twice x1 τ).1 ∧ Rel (p_twice Z x1 σ).2 (q_twice x1 τ).2 := by
  unfold p_twice q_twice
  rcases ends x1 with ⟨B, e, hB, rfl⟩ | hn
  · obtain ⟨n, hn, e1, e2, hk⟩ := h.L (rB.lt hB)
    rw [xb_om_some (of_line hB), if_neg (isEnd_1 hB), clampE hB, e1, ← e2]
    by_cases a : τ.1 24 e = 0
    · rw [if_pos a, if_pos a]; exact ⟨rfl, Rel_thrown h⟩
    · rw [if_neg a, if_neg a]
      by_cases b : τ.1 24 e = 16
      · rw [if_pos b, if_pos b]; exact ⟨rfl, Rel_thrown h⟩
      · rw [if_neg b, if_neg b]; exact ⟨rfl, Rel_double (rB.lt hB) (Rel_thrown h) (by rw [t0_i (by decide)]; exact b) (by rw [t0_i (by decide)]; exact a)⟩
  · rw [xb_om_none (of_noline hn), if_pos (isEnd_0 hn)]; exact ⟨rfl, Rel_thrown h⟩
theorem K_swap (h : Rel σ τ) (x1 : Int32) : (p_swap Z x1 σ).1 = (q_swap x1 τ).1 ∧ Rel (p_swap Z x1 σ).2 (q_swap x1 τ).2 := by
  unfold p_swap q_swap
  rcases ends x1 with ⟨B, e, hB, rfl⟩ | hn
  · obtain ⟨n, hn, e1, e2, hk⟩ := h.L (rB.lt hB)
    rw [xb_om_some (of_line hB), if_neg (isEnd_1 hB), clampE hB, e1, ← e2]
    by_cases a : 2 ≤ τ.1 24 e
    · rw [if_pos a, if_pos a]; exact ⟨rfl, Rel_swap (rB.lt hB) (Rel_thrown h) (by rw [t0_i (by decide)]; exact a)⟩
    · rw [if_neg a, if_neg a]; exact ⟨rfl, Rel_thrown h⟩
  · rw [xb_om_none (of_noline hn), if_pos (isEnd_0 hn)]; exact ⟨rfl, Rel_thrown h⟩
theorem K_insert (h : Rel σ τ) (x1 x2 : Int32) (x3 x4 : Int64) : (p_insert Z x1 x2 x3 x4 σ).1 = (q_insert x1 x2 x3 x4 τ).1 ∧ Rel (p_insert Z x1 x2 x3 x4 σ).2 (q_insert x1 x2 x3 x4 τ).2 := by
  unfold p_insert q_insert
  rcases ends x1 with ⟨B, e, hB, rfl⟩ | hn
  · obtain ⟨n, hn, e1, e2, hk⟩ := h.L (rB.lt hB)
    rw [xb_om_some (of_line hB), if_neg (isEnd_1 hB), clampE hB, e1, ← e2]
    by_cases a : τ.1 24 e = 16
    · rw [if_pos a, if_pos a]; exact ⟨rfl, Rel_thrown h⟩
    · rw [if_neg a, if_neg a]; exact ⟨rfl, Rel_front (rB.lt hB) (Rel_thrown h) (by rw [t0_i (by decide)]; exact a)⟩
  · rw [xb_om_none (of_noline hn), if_pos (isEnd_0 hn)]; exact ⟨rfl, Rel_thrown h⟩
/-- one part of the first row -/
theorem Rel_alter (he : e < 2) (h : Rel σ τ) (h0 : ¬ τ.1 24 e = 0) {w : Nat} (hw : w < 6) {v : Int32} : Rel (xb_sl σ (1 + e + 2) w (σ.2 (1 + e + 2) w ^^^ v.toInt64)) (if w = 0 then xb_si τ 25 (16 * e) (τ.1 25 (16 * e) ^^^ v) else if w = 5 then xb_sl τ 27 (16 * e) (τ.2 27 (16 * e) ^^^ v.toInt64) else xb_sl τ 26 (4 * (16 * e) + w - 1) (τ.2 26 (4 * (16 * e) + w - 1) ^^^ v.toInt64)) := by
  obtain ⟨n, hn, e1, e2, hk⟩ := h.L he
  have n0 : 0 < n := by
    by_cases z : n = 0
    · subst z; exact absurd e2 h0
    · omega
  have f0 := hk 0 n0
  rw [show 3 + e = 1 + e + 2 by omega] at f0
  have hi : ∀ K j, K ≠ 1 + e → (xb_sl σ (1 + e + 2) w (σ.2 (1 + e + 2) w ^^^ v.toInt64)).1 K j = σ.1 K j := fun _ _ _ => rfl
  have hl : ∀ K j, K ≠ 3 + e → (xb_sl σ (1 + e + 2) w (σ.2 (1 + e + 2) w ^^^ v.toInt64)).2 K j = σ.2 K j := fun K j hK => xb_l_nk (by omega)
  by_cases w0 : w = 0
  · subst w0
    rw [if_pos rfl]
    refine Rel_L he h hi hl (fun K j k1 k2 => xb_i_nk k2) (fun _ _ _ _ => rfl) (xb_i_nk (by decide)) (fun k hk' => ⟨xb_i_nj (by omega), rfl, fun _ _ => rfl⟩) ⟨n, hn, e1, (xb_i_nk (by decide)).trans e2, fun k hk' => ?_⟩
    have f := hk k hk'
    rw [show 3 + e = 1 + e + 2 by omega] at f ⊢
    refine ⟨?_, fun j hj => ?_, ?_⟩
    · by_cases k0 : k = 0
      · subst k0
        rw [show 6 * 0 = 0 from rfl, xb_l_hit, show 16 * e + 0 = 16 * e from rfl, xb_i_hit, Int32.toInt64_xor]
        exact congrArg (· ^^^ v.toInt64) f0.1
      · rw [xb_l_nj (by omega), xb_i_nj (by omega)]; exact f.1
    · rw [xb_l_nj (by omega)]; exact f.2.1 j hj
    · rw [xb_l_nj (by omega)]; exact f.2.2
  · rw [if_neg w0]
    by_cases w5 : w = 5
    · subst w5
      rw [if_pos rfl]
      refine Rel_L he h hi hl (fun _ _ _ _ => rfl) (fun K j k1 k2 => xb_l_nk k2) rfl (fun k hk' => ⟨rfl, xb_l_nj (by omega), fun _ _ => xb_l_nk (by decide)⟩) ⟨n, hn, e1, e2, fun k hk' => ?_⟩
      have f := hk k hk'
      rw [show 3 + e = 1 + e + 2 by omega] at f ⊢
      refine ⟨?_, fun j hj => ?_, ?_⟩
      · rw [xb_l_nj (by omega)]; exact f.1
      · rw [xb_l_nj (by omega), xb_l_nk (by decide)]; exact f.2.1 j hj
      · by_cases k0 : k = 0
        · subst k0
          rw [show 6 * 0 + 5 = 5 from rfl, xb_l_hit, show 16 * e + 0 = 16 * e from rfl, xb_l_hit]
          exact congrArg (· ^^^ v.toInt64) f0.2.2
        · rw [xb_l_nj (by omega), xb_l_nj (by omega)]; exact f.2.2
    · rw [if_neg w5]
      refine Rel_L he h hi hl (fun _ _ _ _ => rfl) (fun K j k1 k2 => xb_l_nk k1) rfl (fun k hk' => ⟨rfl, xb_l_nk (by decide), fun j hj => xb_l_nj (by omega)⟩) ⟨n, hn, e1, e2, fun k hk' => ?_⟩
      have f := hk k hk'
      rw [show 3 + e = 1 + e + 2 by omega] at f ⊢
      refine ⟨?_, fun j hj => ?_, ?_⟩
      · rw [xb_l_nj (by omega)]; exact f.1
      · by_cases k0 : k = 0 ∧ 1 + j = w
        · obtain ⟨rfl, rfl⟩ := k0
          rw [show 6 * 0 + 1 + j = 1 + j by omega, xb_l_hit, show 4 * (16 * e + 0) + j = 4 * (16 * e) + (1 + j) - 1 by omega, xb_l_hit]
          have := f0.2.1 j hj
          rw [show 6 * 0 + 1 + j = 1 + j by omega, show 4 * (16 * e + 0) + j = 4 * (16 * e) + (1 + j) - 1 by omega] at this
          exact congrArg (· ^^^ v.toInt64) this
        · rw [xb_l_nj (by omega), xb_l_nj (by omega)]; exact f.2.1 j hj
      · rw [xb_l_nj (by omega), xb_l_nk (by decide)]; exact f.2.2
theorem part_is (x : Int32) : (∃ w, w < 6 ∧ x = nI w) ∨ (f_isPart x = 0 ∧ (x < 0 ∨ ¬ x ≤ 5)) := by
  by_cases n : x < 0
  · exact Or.inr ⟨by unfold f_isPart; rw [if_pos n], Or.inl n⟩
  · obtain ⟨w, hw, rfl⟩ := nI_of n
    by_cases l : w < 6
    · exact Or.inl ⟨w, l, rfl⟩
    · refine Or.inr ⟨?_, Or.inr (mt (nI_leI (b := 5) hw (by decide)).mp (by omega))⟩
      unfold f_isPart
      rw [if_neg n, if_pos (show 6 ≤ nI w from (nI_leI (a := 6) (by decide) hw).mpr (by omega))]
theorem K_alter (h : Rel σ τ) (x1 x2 x3 : Int32) : (p_alter Z x1 x2 x3 σ).1 = (q_alter x1 x2 x3 τ).1 ∧ Rel (p_alter Z x1 x2 x3 σ).2 (q_alter x1 x2 x3 τ).2 := by
  unfold p_alter q_alter
  rcases ends x1 with ⟨B, e, hB, rfl⟩ | hn
  · obtain ⟨n, hn, e1, e2, hk⟩ := h.L (rB.lt hB)
    rw [xb_om_some (of_line hB), if_neg (isEnd_1 hB), clampE hB, e1, ← e2]
    by_cases a : τ.1 24 e = 0
    · rw [if_pos a, if_pos a]; exact ⟨rfl, Rel_thrown h⟩
    · rw [if_neg a, if_neg a]
      rcases part_is x2 with ⟨w, hw, rfl⟩ | ⟨p0, pn⟩
      · have c1 : ¬ f_isPart (nI w) = 0 := by
          obtain rfl | rfl | rfl | rfl | rfl | rfl : w = 0 ∨ w = 1 ∨ w = 2 ∨ w = 3 ∨ w = 4 ∨ w = 5 := by omega
          all_goals decide
        have c2 : ¬ nI w < 0 := nI_pos (by omega)
        have c3 : nI w ≤ 5 := (nI_leI (b := 5) (by omega) (by decide)).mpr (by omega)
        rw [if_neg c1, if_neg c2, if_pos c3, nI_clamp (show w < 2 ^ 31 by omega)]
        have R := Rel_alter (rB.lt hB) (Rel_thrown (v := 0) h) (by rw [t0_i (by decide)]; exact a) hw (v := x3)
        rw [t0_i (by decide)] at R
        by_cases w0 : w = 0
        · subst w0
          rw [if_pos rfl] at R
          rw [if_pos (show nI 0 = 0 from rfl)]
          exact ⟨rfl, R⟩
        · have z0 : ¬ nI w = 0 := mt (nI_eq (b := 0) (by omega) (by decide)).mp w0
          rw [if_neg w0] at R
          rw [if_neg z0]
          by_cases w5 : w = 5
          · subst w5
            rw [if_pos rfl] at R
            rw [if_pos (show nI 5 = 5 from rfl)]
            exact ⟨rfl, R⟩
          · have z5 : ¬ nI w = 5 := mt (nI_eq (b := 5) (by omega) (by decide)).mp w5
            rw [if_neg w5] at R
            rw [if_neg z5]
            exact ⟨rfl, R⟩
      · rw [if_pos p0]
        by_cases n : x2 < 0
        · rw [if_pos n]; exact ⟨rfl, Rel_thrown h⟩
        · rw [if_neg n, if_neg (pn.resolve_left n)]; exact ⟨rfl, Rel_thrown h⟩
  · rw [xb_om_none (of_noline hn), if_pos (isEnd_0 hn)]; exact ⟨rfl, Rel_thrown h⟩
theorem K_packet (h : Rel σ τ) (x1 x2 x3 : Int32) : p_packet Z x1 x2 x3 σ = (q_packet x1 x2 x3 τ).1 ∧ Rel σ (q_packet x1 x2 x3 τ).2 := by
  unfold p_packet q_packet
  rcases ends x1 with ⟨B, e, hB, rfl⟩ | hn
  · obtain ⟨n, hn, e1, e2, hk⟩ := h.L (rB.lt hB)
    rw [xb_om_some (of_line hB), if_neg (isEnd_1 hB), clampE hB, e1, ← e2]
    by_cases a : x2 < 0
    · rw [if_pos a, if_pos a]; exact ⟨rfl, Rel_thrown h⟩
    · rw [if_neg a, if_neg a]
      by_cases b : τ.1 24 e ≤ x2
      · rw [if_pos b, if_pos b]; exact ⟨rfl, Rel_thrown h⟩
      · rw [if_neg b, if_neg b]
        obtain ⟨k, hk2, rfl⟩ := nI_of a
        have kn : k < n := by
          rw [e2] at b
          have := mt (nI_leI (by omega) hk2).mpr b
          omega
        have f := hk k kn
        rw [nI_clamp hk2]
        rcases part_is x3 with ⟨w, hw, rfl⟩ | ⟨p0, pn⟩
        · have c1 : ¬ f_isPart (nI w) = 0 := by
            obtain rfl | rfl | rfl | rfl | rfl | rfl : w = 0 ∨ w = 1 ∨ w = 2 ∨ w = 3 ∨ w = 4 ∨ w = 5 := by omega
            all_goals decide
          have c2 : ¬ nI w < 0 := nI_pos (by omega)
          have c3 : nI w ≤ 5 := (nI_leI (b := 5) (by omega) (by decide)).mpr (by omega)
          rw [if_neg c1, if_neg c2, if_pos c3, nI_clamp (show w < 2 ^ 31 by omega), show 1 + e + 2 = 3 + e by omega]
          by_cases w0 : w = 0
          · subst w0
            rw [if_pos (show nI 0 = 0 from rfl)]
            exact ⟨by rw [show k * 6 + 0 = 6 * k by omega]; exact f.1, Rel_thrown h⟩
          · rw [if_neg (show ¬ nI w = 0 from mt (nI_eq (b := 0) (by omega) (by decide)).mp w0)]
            by_cases w5 : w = 5
            · subst w5
              rw [if_pos (show nI 5 = 5 from rfl)]
              exact ⟨by rw [show k * 6 + 5 = 6 * k + 5 by omega]; exact f.2.2, Rel_thrown h⟩
            · rw [if_neg (show ¬ nI w = 5 from mt (nI_eq (b := 5) (by omega) (by decide)).mp w5)]
              have g := f.2.1 (w - 1) (by omega)
              exact ⟨by rw [show k * 6 + w = 6 * k + 1 + (w - 1) by omega, show 4 * (16 * e + k) + w - 1 = 4 * (16 * e + k) + (w - 1) by omega]; exact g, Rel_thrown h⟩
        · rw [if_pos p0]
          by_cases n : x3 < 0
          · rw [if_pos n]; exact ⟨rfl, Rel_thrown h⟩
          · rw [if_neg n, if_neg (pn.resolve_left n)]; exact ⟨rfl, Rel_thrown h⟩
  · rw [xb_om_none (of_noline hn), if_pos (isEnd_0 hn)]; exact ⟨rfl, Rel_thrown h⟩
theorem chan_no {x2 : Int32} (hB : rB B e) (h : ¬ (¬ x2 < 0 ∧ ¬ 2 < x2)) : p_channelAt B x2.toInt64 σ = none ∧ g_isChannel (nI e) x2 = 0 := by
  have hx : (x2 < 0 ∨ 2 < x2) := by
    by_cases a : x2 < 0
    · exact Or.inl a
    · by_cases b : 2 < x2
      · exact Or.inr b
      · exact absurd ⟨a, b⟩ h
  refine ⟨at_none ?_, ?_⟩
  · rw [Int64.lt_iff_toInt_lt, Int64.lt_iff_toInt_lt, Int32.toInt_toInt64]
    rw [Int32.lt_iff_toInt_lt, Int32.lt_iff_toInt_lt] at hx
    exact hx
  · unfold g_isChannel
    rw [if_neg (isEnd_1 hB)]
    rcases hx with a | b
    · rw [if_pos a]
    · by_cases a : x2 < 0
      · rw [if_pos a]
      · rw [if_neg a, if_pos b]
theorem chan_yes {x2 : Int32} (hB : rB B e) (h : ¬ x2 < 0 ∧ ¬ 2 < x2) : ∃ c, c < 3 ∧ x2 = nI c ∧ p_channelAt B x2.toInt64 σ = some (B + 9 + c) ∧ ¬ g_isChannel (nI e) x2 = 0 ∧ x2.toNatClampNeg = c := by
  obtain ⟨c, hc, rfl⟩ := nI_of h.1
  have c3 : c < 3 := by
    have := mt (nI_ltI (a := 2) (by decide) hc).mpr h.2
    omega
  refine ⟨c, c3, rfl, ?_, ?_, nI_clamp hc⟩
  · obtain rfl | rfl | rfl : c = 0 ∨ c = 1 ∨ c = 2 := by omega
    all_goals rfl
  · unfold g_isChannel
    rw [if_neg (isEnd_1 hB), if_neg h.1, if_neg h.2]; decide
theorem K_channel (h : Rel σ τ) (x1 x2 : Int32) : p_channel Z x1 x2 σ = (q_channel x1 x2 τ).1 ∧ Rel σ (q_channel x1 x2 τ).2 := by
  unfold p_channel q_channel
  rcases ends x1 with ⟨B, e, hB, rfl⟩ | hn
  · rw [xb_om_some (of_end hB)]
    by_cases a : ¬ x2 < 0 ∧ ¬ 2 < x2
    · obtain ⟨c, hc, rfl, h1, h2, h3⟩ := chan_yes hB a (σ := σ)
      have hC := h.Ch (rQ_of hB hc)
      rw [xb_om_some h1, if_neg h2, clampE hB, h3]
      unfold p_Ch_summary
      rw [hC.st, hC.pe, hC.he, hC.ro, hC.wi]
      exact ⟨rfl, Rel_thrown h⟩
    · obtain ⟨h1, h2⟩ := chan_no hB a (σ := σ)
      rw [xb_om_none h1, if_pos h2]; exact ⟨rfl, Rel_thrown h⟩
  · rw [xb_om_none (of_none hn)]
    have z : g_isChannel x1 x2 = 0 := by
      unfold g_isChannel
      rw [if_pos (isEnd_0 hn)]
    rw [if_pos z]; exact ⟨rfl, Rel_thrown h⟩
end
