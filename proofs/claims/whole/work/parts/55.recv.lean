/-! take as a whole; the packet's kind stays -/
section
variable {B e C q c : Nat} {σ σ' τ τ' : xb_St}
theorem send_P (hB : rB B e) {x1 : Int32} {x2 x3 x4 x5 : Int64} : (p_send B x1 x2 x3 x4 x5 σ).1 (B + 1) 0 = σ.1 (B + 1) 0 := by
  rcases hB with ⟨rfl, rfl⟩ | ⟨rfl, rfl⟩ <;> simp [xb_ri, xb_rl, xb_i_l, xb_l_i, ps_i, ps_l, qs_i, qs_l, qs_7, sp_lnD]
theorem fail_P (hB : rB B e) {w : Int64} : (p_fail B w σ).1 (B + 1) 0 = σ.1 (B + 1) 0 := by
  unfold p_fail p_die
  rw [xb_i_l, xb_i_nk (by omega)]
  exact send_P hB
theorem start_P (hB : rB B e) (h : Rel σ τ) : (p_start B σ).1 (B + 1) 0 = σ.1 (B + 1) 0 := by
  have hE := h.E hB
  rcases hB with ⟨rfl, rfl⟩ | ⟨rfl, rfl⟩
  · rw [p_start0 hE.di]; unfold p_st; simp [xb_ri, xb_rl, xb_i_l, xb_l_i, ps_i, ps_l, qs_i, qs_l, qs_7, sp_lnD]
  · rw [p_start1 hE.di]; unfold p_st; simp [xb_ri, xb_rl, xb_i_l, xb_l_i, ps_i, ps_l, qs_i, qs_l, qs_7, sp_lnD]
theorem it_P (hB : rB B e) {K : Nat} {w x y : Int64} : (p_it B K w x y σ).2.1 (B + 1) 0 = σ.1 (B + 1) 0 := by
  have s0 : (p_Init_set K w x y σ).1 = σ.1 := rfl
  have s2 : (p_Ex_choose (B + 5) (p_Init_set K w x y σ)).2.1 (B + 1) 0 = σ.1 (B + 1) 0 := by
    rw [choose_2, xb_i_nk (by omega), xb_i_nk (by omega), s0]
  unfold p_it
  split
  · exact s2
  · split
    · unfold p_Cl_answer
      rw [send_P hB, xb_i_nk (by omega)]; exact s2
    · unfold p_Sv_answer
      rw [xb_i_nk (by omega)]; exact s2
theorem init_P (hB : rB B e) (h : Rel σ τ) : (p_takeInit B (B + 1) σ).2.1 (B + 1) 0 = σ.1 (B + 1) 0 := by
  have hph := (h.E hB).ph
  unfold p_takeInit p_mayStart
  rw [hph]
  by_cases h0 : τ.1 4 e = 0 ∨ τ.1 4 e = 4
  · have hp : ¬ τ.1 4 e = 5 := by rcases h0 with q | q <;> rw [q] <;> decide
    have m : ¬ (if τ.1 4 e = 0 then (1 : Int32) else if τ.1 4 e = 4 then 1 else 0) = 0 := by rcases h0 with q | q <;> rw [q] <;> decide
    rw [if_neg m, if_pos (p_start_ph hB h hp), xb_om_some (p_peer hB (Rel_start hB h hp))]
    have R := it_P hB (K := 12 + 14 * e) (w := (p_start B σ).2 (B + 1) 1) (x := (p_start B σ).2 (B + 1) 2) (y := (p_start B σ).2 (B + 1) 3) (σ := p_start B σ)
    unfold p_it at R
    rw [R]
    exact start_P hB h
  · have m : (if τ.1 4 e = 0 then (1 : Int32) else if τ.1 4 e = 4 then 1 else 0) = 0 := by
      rw [if_neg (fun q => h0 (Or.inl q)), if_neg (fun q => h0 (Or.inr q))]
    rw [if_pos m]
    by_cases h1 : τ.1 4 e = 1
    · rw [if_pos h1, xb_om_some (p_peer hB h)]
      have R := it_P hB (K := 12 + 14 * e) (w := σ.2 (B + 1) 1) (x := σ.2 (B + 1) 2) (y := σ.2 (B + 1) 3) (σ := σ)
      unfold p_it at R
      exact R
    · rw [if_neg h1]
theorem turn_P (hB : rB B e) : (p_turn B σ).1 (B + 1) 0 = σ.1 (B + 1) 0 := by
  rw [p_turn_is hB]
  unfold p_tn p_Keys_renew
  rw [xb_i_nk (by omega), xb_i_nk (by omega), xb_i_nk (by omega), xb_i_nk (by omega), xb_i_nk (by omega), xb_i_l, xb_i_l, send_P hB]
  unfold p_sess
  split
  · rw [xb_i_l, xb_i_nk (by omega)]
  · rfl
theorem share_P : (p_Sv_share 20 21 σ).2.1 21 0 = σ.1 21 0 := by
  have hB : rB 20 1 := Or.inr ⟨rfl, rfl⟩
  have t : ∀ s : xb_St, (p_turn 20 s).1 21 0 = s.1 21 0 := fun s => turn_P hB
  have sd : ∀ (x1 : Int32) (x2 x3 x4 x5 : Int64) (s : xb_St), (p_send 20 x1 x2 x3 x4 x5 s).1 21 0 = s.1 21 0 := fun _ _ _ _ _ _ => send_P hB
  have a : ∀ (x1 x2 x3 x4 : Int64) (s : xb_St), (p_Ex_agree (20 + 5) x1 x2 x3 x4 s).1 21 0 = s.1 21 0 := fun _ _ _ _ _ => rfl
  unfold p_Sv_share
  by_cases c1 : σ.1 20 9 = 2
  · rw [if_pos c1]
    by_cases c2 : f_isShare (σ.2 21 1) = 0
    · rw [if_pos c2]
    · rw [if_neg c2]
      dsimp only
      rw [t, sd, a]
  · rw [if_neg c1]
theorem reply_P : (p_Cl_reply 5 6 σ).2.1 6 0 = σ.1 6 0 := by
  have hB : rB 5 0 := Or.inl ⟨rfl, rfl⟩
  have t : ∀ s : xb_St, (p_turn 5 s).1 6 0 = s.1 6 0 := fun s => turn_P hB
  have a : ∀ (x1 x2 x3 x4 : Int64) (s : xb_St), (p_Ex_agree (5 + 5) x1 x2 x3 x4 s).1 6 0 = s.1 6 0 := fun _ _ _ _ _ => rfl
  unfold p_Cl_reply
  split
  · split
    · rfl
    · split
      · split
        · exact a _ _ _ _ _
        · exact (t _).trans (a _ _ _ _ _)
      · split
        · split
          · exact a _ _ _ _ _
          · exact (t _).trans (a _ _ _ _ _)
        · rfl
  · rfl
theorem keep_P {K : Nat} (h1 : B + 1 ≠ K) (h2 : B + 1 ≠ K + 3) {y : Int64} : ∀ (n : Nat) (j : Int32) (σ : xb_St), (f_keep n K j y σ).1 (B + 1) 0 = σ.1 (B + 1) 0 := by
  intro n
  induction n with
  | zero => intro j σ; rfl
  | succ n ih =>
    intro j σ
    unfold f_keep
    split
    · rfl
    · split
      · rfl
      · rw [ih, xb_i_nk h1, xb_i_nk h2]
theorem chan_P (hB : rB B e) (h : Rel σ τ) : (p_takeForChannel B (B + 1) σ).2.1 (B + 1) 0 = σ.1 (B + 1) 0 := by
  by_cases k90 : σ.1 (B + 1) 0 = 90
  · unfold p_takeForChannel
    rw [if_pos k90]
    unfold p_takeOpen
    rcases free_rel hB h with ⟨f1, -⟩ | ⟨c, hc, f1, -, -⟩
    · rw [xb_om_none f1]; exact send_P hB
    · rw [xb_om_some f1]
      show (p_send B 91 _ _ 24 0 _).1 (B + 1) 0 = _
      rw [send_P hB, xb_i_nk (by omega)]
      unfold p_Ch_connect
      rw [xb_i_l, xb_i_l, xb_i_nk (by omega)]
  · rcases hK : p_channelAt B (σ.2 (B + 1) 1) σ with _ | K
    · rw [on_eq0 rfl k90 hK]
    · have hne : B + 1 ≠ K ∧ B + 1 ≠ K + 3 := by
        unfold p_channelAt at hK
        split at hK
        · exact nomatch hK
        · split at hK
          · exact nomatch hK
          · have := Option.some.inj hK
            omega
      have fr : (p_Ch_free K σ).1 (B + 1) 0 = σ.1 (B + 1) 0 := by
        unfold p_Ch_free p_Ch_empty
        rw [xb_i_nk hne.1, xb_i_nk hne.1, xb_i_nk hne.1, xb_i_nk hne.1, xb_i_l, xb_i_l, xb_i_nk hne.1]
      have fr2 : ∀ s : xb_St, (p_Ch_free K s).1 (B + 1) 0 = s.1 (B + 1) 0 := by
        intro s
        unfold p_Ch_free p_Ch_empty
        rw [xb_i_nk hne.1, xb_i_nk hne.1, xb_i_nk hne.1, xb_i_nk hne.1, xb_i_l, xb_i_l, xb_i_nk hne.1]
      rw [on_eq rfl k90 hK]
      split
      · unfold p_Ch_confirm p_Ch_connect
        split
        · rw [xb_i_l, xb_i_l, xb_i_nk hne.1]
        · rfl
      · split
        · unfold p_Ch_refuse
          split
          · exact fr
          · rfl
        · split
          · unfold p_Ch_window
            split
            · rfl
            · split
              · rfl
              · split <;> rfl
          · split
            · unfold p_Ch_data
              split
              · rfl
              · split
                · rfl
                · split
                  · rfl
                  · split
                    · split
                      · show (f_keep 8 K _ _ _).1 (B + 1) 0 = _
                        rw [keep_P hne.1 hne.2, xb_i_nk hne.1]
                      · rw [xb_i_nk hne.1]
                    · rfl
            · unfold p_takeClose
              split
              · rfl
              · split
                · rw [fr2, send_P hB]
                · exact fr
theorem p_end_eta {r : Int32 × xb_St} : p_end B (r.1, r.2) = p_end B r := rfl
theorem take_P (hB : rB B e) (h : Rel σ τ) : (p_take B (B + 1) σ).2.1 (B + 1) 0 = σ.1 (B + 1) 0 := by
  have ch := chan_P hB h
  have ini := init_P hB h
  have nk : (p_takeNewKeys B σ).2.1 (B + 1) 0 = σ.1 (B + 1) 0 := by
    unfold p_takeNewKeys
    split
    · unfold p_Keys_renew
      show (xb_si _ B 9 4).1 (B + 1) 0 = _
      rw [xb_i_nk (by omega), xb_i_nk (by omega), xb_i_nk (by omega), xb_i_nk (by omega), xb_i_nk (by omega), xb_i_l, xb_i_l]
    · rfl
  have sh : ¬ B = 5 → (p_Sv_share B (B + 1) σ).2.1 (B + 1) 0 = σ.1 (B + 1) 0 := by
    intro nb
    obtain ⟨rfl, rfl⟩ : B = 20 ∧ e = 1 := by omega
    exact share_P
  have re : B = 5 → (p_Cl_reply B (B + 1) σ).2.1 (B + 1) 0 = σ.1 (B + 1) 0 := by
    intro b5
    subst b5
    exact reply_P
  have di : (p_die B (σ.2 (B + 1) 1) σ).1 (B + 1) 0 = σ.1 (B + 1) 0 := by
    unfold p_die
    rw [xb_i_l, xb_i_nk (by omega)]
  unfold p_take p_Cl_share p_Sv_reply
  generalize p_takeForChannel B (B + 1) σ = TC at ch ⊢
  generalize p_takeInit B (B + 1) σ = TI at ini ⊢
  generalize p_takeNewKeys B σ = NK at nk ⊢
  generalize p_Sv_share B (B + 1) σ = SH at sh ⊢
  generalize p_Cl_reply B (B + 1) σ = RP at re ⊢
  generalize p_die B (σ.2 (B + 1) 1) σ = DI at di ⊢
  generalize hk : σ.1 (B + 1) 0 = k at *
  by_cases k1 : k = 1
  · rw [if_pos k1]
    exact di
  rw [if_neg k1]
  by_cases k2 : k = 2
  · rw [if_pos k2]
    by_cases z : σ.1 (B + 3) 0 = 0
    · rw [if_pos z]; exact hk
    · rw [if_neg z]; exact hk
  rw [if_neg k2]
  by_cases k20 : k = 20
  · rw [if_pos k20]
    exact ini
  rw [if_neg k20]
  by_cases k21 : k = 21
  · rw [if_pos k21]
    exact nk
  rw [if_neg k21]
  by_cases k30 : k = 30
  · rw [if_pos k30]
    by_cases z : B = 5
    · rw [if_pos z]; exact hk
    · rw [if_neg z]; exact sh z
  rw [if_neg k30]
  by_cases k31 : k = 31
  · rw [if_pos k31]
    by_cases z : B = 5
    · rw [if_pos z]; exact re z
    · rw [if_neg z]; exact hk
  rw [if_neg k31]
  by_cases k90 : k = 90
  · rw [if_pos k90]
    by_cases z : σ.1 (B + 3) 0 = 0
    · rw [if_pos z]; exact hk
    · rw [if_neg z]; exact ch
  rw [if_neg k90]
  by_cases k91 : k = 91
  · rw [if_pos k91]
    by_cases z : σ.1 (B + 3) 0 = 0
    · rw [if_pos z]; exact hk
    · rw [if_neg z]; exact ch
  rw [if_neg k91]
  by_cases k92 : k = 92
  · rw [if_pos k92]
    by_cases z : σ.1 (B + 3) 0 = 0
    · rw [if_pos z]; exact hk
    · rw [if_neg z]; exact ch
  rw [if_neg k92]
  by_cases k93 : k = 93
  · rw [if_pos k93]
    by_cases z : σ.1 (B + 3) 0 = 0
    · rw [if_pos z]; exact hk
    · rw [if_neg z]; exact ch
  rw [if_neg k93]
  by_cases k94 : k = 94
  · rw [if_pos k94]
    by_cases z : σ.1 (B + 3) 0 = 0
    · rw [if_pos z]; exact hk
    · rw [if_neg z]; exact ch
  rw [if_neg k94]
  by_cases k97 : k = 97
  · rw [if_pos k97]
    by_cases z : σ.1 (B + 3) 0 = 0
    · rw [if_pos z]; exact hk
    · rw [if_neg z]; exact ch
  rw [if_neg k97]
  exact hk
theorem Rel_take (hB : rB B e) (h : Rel σ τ) : Rel (p_end B (p_take B (B + 1) σ)) (q_take e (σ.1 (B + 1) 0) (σ.2 (B + 1) 1) (σ.2 (B + 1) 2) (σ.2 (B + 1) 3) (σ.2 (B + 1) 4) τ) := by
  have hE := h.E hB
  have on : σ.1 (B + 3) 0 = τ.1 11 e := hE.ki.on.trans hE.tu.symm
  have F2 : Rel (p_end B (2, σ)) (q_fail e 2 τ) := by
    rw [p_end_f (x := 2) (by decide) (by decide)]; exact Rel_fail hB h
  have ON : ∀ k : Int32, σ.1 (B + 1) 0 = k → k = 91 ∨ k = 92 ∨ k = 93 ∨ k = 94 ∨ k = 97 → Rel (p_end B (if τ.1 11 e = 0 then (2, σ) else ((p_takeForChannel B (B + 1) σ).1, (p_takeForChannel B (B + 1) σ).2))) (if τ.1 11 e = 0 then q_fail e 2 τ else q_on e k (σ.2 (B + 1) 1) (σ.2 (B + 1) 2) (σ.2 (B + 1) 3) τ) := by
    intro k hk h5
    split
    · exact F2
    · rw [p_end_eta]; exact Rel_on hB h hk h5
  generalize hk : σ.1 (B + 1) 0 = k
  unfold p_take q_take
  rw [hk, on]
  by_cases k1 : k = 1
  · rw [if_pos k1, if_pos k1, p_end_0]; exact Rel_die hB h
  · rw [if_neg k1, if_neg k1]
    by_cases k2 : k = 2
    · rw [if_pos k2, if_pos k2]
      split
      · exact F2
      · exact h
    · rw [if_neg k2, if_neg k2]
      by_cases k20 : k = 20
      · rw [if_pos k20, if_pos k20, p_end_eta]; exact Rel_takeInit hB h
      · rw [if_neg k20, if_neg k20]
        by_cases k21 : k = 21
        · subst k21
          rw [if_pos rfl, if_neg (by decide), if_neg (by decide), if_pos rfl]
          rw [p_end_eta]
          unfold p_takeNewKeys
          rw [hE.ph]
          by_cases p3 : τ.1 4 e = 3
          · rw [if_pos p3, if_pos p3, p_end_0]; exact Rel_newKeys hB h p3
          · rw [if_neg p3, if_neg p3]; exact F2
        · rw [if_neg k21]
          by_cases k30 : k = 30
          · rw [if_pos k30, if_pos k30]
            rcases hB with ⟨rfl, rfl⟩ | ⟨rfl, rfl⟩
            · rw [if_pos rfl, p_end_eta]; exact Rel_share0 h
            · rw [if_neg (by decide), p_end_eta]; exact Rel_share h
          · rw [if_neg k30, if_neg k30]
            by_cases k31 : k = 31
            · rw [if_pos k31, if_pos k31]
              rcases hB with ⟨rfl, rfl⟩ | ⟨rfl, rfl⟩
              · rw [if_pos rfl, p_end_eta]; exact Rel_reply h
              · rw [if_neg (by decide), p_end_eta]; exact Rel_reply1 h
            · rw [if_neg k31, if_neg k31, if_neg k21]
              by_cases k90 : k = 90
              · subst k90
                rw [if_pos rfl, if_pos rfl]
                split
                · exact F2
                · rw [p_end_eta]
                  unfold p_takeForChannel
                  rw [hk, if_pos rfl]
                  have R := Rel_opened hB h
                  rw [R.1, p_end_0]
                  exact R.2
              · rw [if_neg k90, if_neg k90]
                by_cases k91 : k = 91
                · subst k91
                  rw [if_pos rfl, if_neg (show ¬ (91 : Int32) < 91 by decide), if_pos (show (91 : Int32) ≤ 94 by decide)]
                  exact ON 91 hk (by decide)
                · rw [if_neg k91]
                  by_cases k92 : k = 92
                  · subst k92
                    rw [if_pos rfl, if_neg (show ¬ (92 : Int32) < 91 by decide), if_pos (show (92 : Int32) ≤ 94 by decide)]
                    exact ON 92 hk (by decide)
                  · rw [if_neg k92]
                    by_cases k93 : k = 93
                    · subst k93
                      rw [if_pos rfl, if_neg (show ¬ (93 : Int32) < 91 by decide), if_pos (show (93 : Int32) ≤ 94 by decide)]
                      exact ON 93 hk (by decide)
                    · rw [if_neg k93]
                      by_cases k94 : k = 94
                      · subst k94
                        rw [if_pos rfl, if_neg (show ¬ (94 : Int32) < 91 by decide), if_pos (show (94 : Int32) ≤ 94 by decide)]
                        exact ON 94 hk (by decide)
                      · rw [if_neg k94]
                        by_cases k97 : k = 97
                        · subst k97
                          rw [if_pos rfl, if_neg (show ¬ (97 : Int32) < 91 by decide), if_neg (show ¬ (97 : Int32) ≤ 94 by decide), if_pos rfl]
                          exact ON 97 hk (by decide)
                        · rw [if_neg k97]
                          have nb : ¬ (¬ k < 91 ∧ k ≤ 94) := by
                            rintro ⟨z1, z2⟩
                            rw [Int32.lt_iff_toInt_lt] at z1
                            rw [Int32.le_iff_toInt_le] at z2
                            have q1 : (91 : Int32).toInt = 91 := rfl
                            have q4 : (94 : Int32).toInt = 94 := rfl
                            have d : k.toInt = 91 ∨ k.toInt = 92 ∨ k.toInt = 93 ∨ k.toInt = 94 := by omega
                            rcases d with d | d | d | d
                            · exact k91 (Int32.toInt_inj.mp (d.trans rfl))
                            · exact k92 (Int32.toInt_inj.mp (d.trans rfl))
                            · exact k93 (Int32.toInt_inj.mp (d.trans rfl))
                            · exact k94 (Int32.toInt_inj.mp (d.trans rfl))
                          by_cases z1 : k < 91
                          · rw [if_pos z1, if_neg k97]; exact F2
                          · rw [if_neg z1, if_neg (fun z2 => nb ⟨z1, z2⟩), if_neg k97]; exact F2
end
