/-! the number of the last exception stays under what a taken packet does -/
section
variable {B e C q c Z : Nat} {σ σ' τ τ' : xb_St}
theorem send_0 {x1 : Int32} {x2 x3 x4 x5 : Int64} : (q_send e x1 x2 x3 x4 x5 τ).1 0 0 = τ.1 0 0 := qs_i (by decide) (by decide) (by decide)
theorem fail_0 {w : Int64} : (q_fail e w τ).1 0 0 = τ.1 0 0 := by
  unfold q_fail
  rw [xb_i_l, xb_i_nk (by decide), send_0]
theorem start_0 : (q_start e τ).1 0 0 = τ.1 0 0 := by
  unfold q_start
  rw [xb_i_nk (by decide), send_0, xb_i_nk (by decide)]
  rfl
theorem turn_0 : (q_turn e τ).1 0 0 = τ.1 0 0 := by
  unfold q_turn q_change
  rw [xb_i_nk (by decide), xb_i_nk (by decide), xb_i_nk (by decide), xb_i_nk (by decide), xb_i_l, xb_i_l, xb_i_nk (by decide), send_0]
theorem agree_0 (hB : rB B e) {k h' : Int64} : (q_agree e k h' τ).1 0 0 = τ.1 0 0 := by
  by_cases c : τ.1 10 e = 0
  · rw [q_agree_n hB c]
    unfold q_ag
    rw [xb_i_l, xb_i_l, xb_i_l, xb_i_l, xb_i_l, xb_i_nk (by decide)]
  · rw [q_agree_s hB c]
    unfold q_ag
    rw [xb_i_l, xb_i_l, xb_i_l, xb_i_l]
theorem it_0 {w x y : Int64} : (q_it e w x y τ).1 0 0 = τ.1 0 0 := by
  have f : ∀ (a b : Int32), (q_fail e 3 (xb_si (xb_si (xb_sl (xb_sl (xb_sl τ 12 (6 * e + 3 * (1 - e)) w) 12 (6 * e + 3 * (1 - e) + 1) x) 12 (6 * e + 3 * (1 - e) + 2) y) 15 e a) 16 e b)).1 0 0 = τ.1 0 0 := by
    intro a b
    rw [fail_0, xb_i_nk (by decide), xb_i_nk (by decide), xb_i_l, xb_i_l, xb_i_l]
  have g : ∀ (a b : Int32), (xb_si (xb_si (xb_si (xb_sl (xb_sl (xb_sl τ 12 (6 * e + 3 * (1 - e)) w) 12 (6 * e + 3 * (1 - e) + 1) x) 12 (6 * e + 3 * (1 - e) + 2) y) 15 e a) 16 e b) 4 e 2).1 0 0 = τ.1 0 0 := by
    intro a b
    rw [xb_i_nk (by decide), xb_i_nk (by decide), xb_i_nk (by decide), xb_i_l, xb_i_l, xb_i_l]
  unfold q_it
  generalize (xb_sl (xb_sl (xb_sl τ 12 (6 * e + 3 * (1 - e)) w) 12 (6 * e + 3 * (1 - e) + 1) x) 12 (6 * e + 3 * (1 - e) + 2) y) = T at f g ⊢
  by_cases c1 : g_isList x = 0
  · rw [if_pos c1]; exact f _ _
  · rw [if_neg c1]
    by_cases c2 : g_isList y = 0
    · rw [if_pos c2]; exact f _ _
    · rw [if_neg c2]
      by_cases c3 : g_common (T.2 12 (6 * e + 1)) (T.2 12 (6 * e + 4)) = 0
      · rw [if_pos c3]; exact f _ _
      · rw [if_neg c3]
        by_cases c4 : g_common (T.2 12 (6 * e + 2)) (T.2 12 (6 * e + 5)) = 0
        · rw [if_pos c4]; exact f _ _
        · rw [if_neg c4]
          by_cases c5 : nI e = 0
          · rw [if_pos c5, send_0, xb_i_l]; exact g _ _
          · rw [if_neg c5]; exact g _ _
theorem init_0 {w x y : Int64} : (q_init e w x y τ).1 0 0 = τ.1 0 0 := by
  by_cases h1 : τ.1 4 e = 1
  · rw [q_init_1 h1, it_0]
  · by_cases h0 : τ.1 4 e = 0 ∨ τ.1 4 e = 4
    · rw [q_init_s h0, it_0, start_0]
    · rw [q_init_x (fun z => h0 (Or.inl z)) (fun z => h0 (Or.inr z)) h1, fail_0]
theorem share_0 {w : Int64} : (q_share e w τ).1 0 0 = τ.1 0 0 := by
  unfold q_share
  by_cases c1 : nI e = 1
  · rw [if_pos c1]
    by_cases c2 : τ.1 4 e = 2
    · rw [if_pos c2]
      by_cases c3 : g_isShare w = 0
      · rw [if_pos c3]; exact fail_0
      · rw [if_neg c3, turn_0, send_0, agree_0 (B := 20) (Or.inr ⟨rfl, rfl⟩), xb_i_l]
    · rw [if_neg c2]; exact fail_0
  · rw [if_neg c1]; exact fail_0
theorem reply_0 {w x y z : Int64} : (q_reply e w x y z τ).1 0 0 = τ.1 0 0 := by
  have a : ∀ k h' : Int64, (q_turn 0 (q_agree 0 k h' τ)).1 0 0 = τ.1 0 0 := by
    intro k h'
    rw [turn_0, agree_0 (B := 5) (Or.inl ⟨rfl, rfl⟩)]
  unfold q_reply
  by_cases c1 : nI e = 0
  · rw [if_pos c1]
    by_cases c2 : τ.1 4 e = 2
    · rw [if_pos c2]
      by_cases c3 : g_isShare x = 0
      · rw [if_pos c3]; exact fail_0
      · rw [if_neg c3]
        generalize g_power x (τ.2 13 0) = k
        generalize q_hash 0 w x k τ = H
        by_cases c4 : τ.1 0 5 = 0
        · rw [if_pos c4]
          by_cases c5 : g_verifies w y z H = 0
          · rw [if_pos c5]; exact fail_0
          · rw [if_neg c5]; exact a _ _
        · rw [if_neg c4]
          by_cases c6 : w = (τ.1 0 5).toInt64
          · rw [if_pos c6]
            by_cases c5 : g_verifies w y z H = 0
            · rw [if_pos c5]; exact fail_0
            · rw [if_neg c5]; exact a _ _
          · rw [if_neg c6]; exact fail_0
    · rw [if_neg c2]; exact fail_0
  · rw [if_neg c1]; exact fail_0
theorem rel_0 {k : Nat} : (q_release k τ).1 0 0 = τ.1 0 0 := by
  unfold q_release
  rw [xb_i_nk (by decide), xb_i_nk (by decide), xb_i_nk (by decide), xb_i_l, xb_i_l, xb_i_nk (by decide)]
theorem opened_0 {w x : Int64} : (q_opened e w x τ).1 0 0 = τ.1 0 0 := by
  unfold q_opened
  by_cases c : 0 ≤ q_free e τ
  · rw [if_pos c, send_0, xb_i_nk (by decide), xb_i_l, xb_i_l, xb_i_nk (by decide), rel_0]
  · rw [if_neg c, send_0]
theorem fon_0 {n : Nat} : ∀ {k : Nat} {j : Int32} {y : Int64} {τ : xb_St}, (f_on n k j y τ).1 0 0 = τ.1 0 0 := by
  induction n with
  | zero => intros; rfl
  | succ n ih =>
    intro k j y τ
    rw [f_on_s]
    by_cases c : j < 0
    · rw [if_pos c]
    · rw [if_neg c, ih, xb_i_nk (by decide), xb_i_nk (by decide)]
theorem ite_z {p : Prop} [Decidable p] {a b : xb_St} {v : Int32} (ha : a.1 0 0 = v) (hb : b.1 0 0 = v) : (if p then a else b).1 0 0 = v := by
  by_cases h : p
  · rw [if_pos h]; exact ha
  · rw [if_neg h]; exact hb
theorem on_0 {k : Int32} {w x y : Int64} : (q_on e k w x y τ).1 0 0 = τ.1 0 0 := by
  have r : ∀ v : Int32, (xb_si τ 31 (3 * e + w.toInt32.toNatClampNeg) v).1 0 0 = τ.1 0 0 := fun v => xb_i_nk (by decide)
  have cf : (xb_sl (xb_sl (xb_si τ 28 (3 * e + w.toInt32.toNatClampNeg) 2) 29 (3 * e + w.toInt32.toNatClampNeg) x) 30 (3 * e + w.toInt32.toNatClampNeg) y).1 0 0 = τ.1 0 0 := by
    rw [xb_i_l, xb_i_l, xb_i_nk (by decide)]
  unfold q_on
  repeat' with_reducible refine ite_z ?_ ?_
  all_goals first | with_reducible exact fail_0 | with_reducible exact rel_0 | with_reducible exact r _ | with_reducible exact cf | with_reducible exact fon_0.trans (r _) | with_reducible exact rel_0.trans send_0 | with_reducible rfl | exact xb_i_l
theorem die_0 {w : Int64} : (xb_sl (xb_si τ 4 e 5) 5 e w).1 0 0 = τ.1 0 0 := by
  rw [xb_i_l, xb_i_nk (by decide)]
theorem nk_0 : (xb_si (xb_si (xb_si (q_change e 1 τ) 8 e 0) 11 e 1) 4 e 4).1 0 0 = τ.1 0 0 := by
  unfold q_change
  rw [xb_i_nk (by decide), xb_i_nk (by decide), xb_i_nk (by decide), xb_i_nk (by decide), xb_i_nk (by decide), xb_i_l, xb_i_l, xb_i_nk (by decide)]
theorem take_0 {k : Int32} {w x y z : Int64} : (q_take e k w x y z τ).1 0 0 = τ.1 0 0 := by
  unfold q_take
  repeat' with_reducible refine ite_z ?_ ?_
  all_goals first | with_reducible exact fail_0 | with_reducible exact init_0 | with_reducible exact share_0 | with_reducible exact reply_0 | with_reducible exact opened_0 | with_reducible exact on_0 | with_reducible exact die_0 | with_reducible exact nk_0 | with_reducible rfl
theorem rc_0 : (q_rc e τ).2.1 0 0 = τ.1 0 0 := by
  unfold q_rc
  split
  · show (q_take e _ _ _ _ _ _).1 0 0 = _
    rw [take_0, xb_i_nk (by decide)]
  · split
    · show (q_take e _ _ _ _ _ _).1 0 0 = _
      rw [take_0]
      unfold q_t3
      rw [xb_i_l, xb_i_l, xb_i_l, xb_i_l, xb_i_nk (by decide)]
    · show (q_fail e _ _).1 0 0 = _
      rw [fail_0]
      unfold q_t3
      rw [xb_i_l, xb_i_l, xb_i_l, xb_i_l, xb_i_nk (by decide)]
theorem drop_0 : (q_drop e (q_copy (16 * e) 33 τ)).1 0 0 = τ.1 0 0 := by
  unfold q_drop
  rw [fd_i, if_neg (fun z => absurd z.1 (by decide)), xb_i_nk (by decide), qc_i, if_neg (by decide)]
end
