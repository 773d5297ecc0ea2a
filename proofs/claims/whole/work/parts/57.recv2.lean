/-! receive against deliver -/
theorem rB_P {B e : Nat} (hB : rB B e) : B + 1 = 6 ∨ B + 1 = 7 ∨ B + 1 = 21 ∨ B + 1 = 22 := by
  rcases hB with ⟨rfl, rfl⟩ | ⟨rfl, rfl⟩ <;> decide
theorem rB_13 {B : Nat} : B + 1 ≠ B + 3 := by omega
theorem rB_np {B e : Nat} (hB : rB B e) : B + 1 ≠ 1 + e ∧ B + 1 ≠ 1 + e + 2 := by
  rcases hB with ⟨rfl, rfl⟩ | ⟨rfl, rfl⟩ <;> decide
theorem rB_33 {e : Nat} (he : e < 2) : 16 * e ≠ 33 := by omega
section
variable {B e C q c Z : Nat} {σ σ' τ τ' : xb_St}
def p_n3 (B : Nat) (s2 : xb_St) : xb_St := xb_si s2 (B + 3) 5 (s2.1 (B + 3) 5 + 1)
def p_rc (B : Nat) (s1 : xb_St) : Int32 × xb_St :=
  if p_Keys_passes (B + 3) (B + 1) (p_Keys_cover (B + 3) (B + 1) s1) = 0 then ((p_fail B 5 (p_n3 B (p_Keys_cover (B + 3) (B + 1) s1))).1 (B + 1) 0, p_fail B 5 (p_n3 B (p_Keys_cover (B + 3) (B + 1) s1)))
  else if (p_take B (B + 1) (p_n3 B (p_Keys_cover (B + 3) (B + 1) s1))).1 = 0 then ((p_take B (B + 1) (p_n3 B (p_Keys_cover (B + 3) (B + 1) s1))).2.1 (B + 1) 0, (p_take B (B + 1) (p_n3 B (p_Keys_cover (B + 3) (B + 1) s1))).2)
  else ((p_fail B (p_take B (B + 1) (p_n3 B (p_Keys_cover (B + 3) (B + 1) s1))).1.toInt64 (p_take B (B + 1) (p_n3 B (p_Keys_cover (B + 3) (B + 1) s1))).2).1 (B + 1) 0, p_fail B (p_take B (B + 1) (p_n3 B (p_Keys_cover (B + 3) (B + 1) s1))).1.toInt64 (p_take B (B + 1) (p_n3 B (p_Keys_cover (B + 3) (B + 1) s1))).2)
theorem p_receive_is : p_receive B σ = p_rc B (p_Line_take (sp_lnA B) (B + 1) σ) := rfl
theorem end_pair (hB : rB B e) {s3 : xb_St} {k : Int32} {t : xb_St} (r : Int32 × xb_St) (hr : r.2.1 (B + 1) 0 = k) (hR : Rel (p_end B r) t) : (if r.1 = 0 then (r.2.1 (B + 1) 0, r.2) else ((p_fail B r.1.toInt64 r.2).1 (B + 1) 0, p_fail B r.1.toInt64 r.2)).1 = k ∧ Rel (if r.1 = 0 then (r.2.1 (B + 1) 0, r.2) else ((p_fail B r.1.toInt64 r.2).1 (B + 1) 0, p_fail B r.1.toInt64 r.2)).2 t := by
  unfold p_end at hR
  by_cases c : r.1 = 0
  · rw [if_pos c]
    rw [if_pos c] at hR
    exact ⟨hr, hR⟩
  · rw [if_neg c]
    rw [if_neg c] at hR
    exact ⟨(fail_P hB).trans hr, hR⟩
def q_mk (e : Nat) (t : xb_St) (j : Int32) : Int64 := g_mask (t.2 18 (2 * e + 1)) (t.1 20 (2 * e + 1)) (t.1 8 e) j
def q_t3 (e : Nat) (t : xb_St) : xb_St := xb_sl (xb_sl (xb_sl (xb_sl (xb_si t 8 e (t.1 8 e + 1)) 26 132 (t.2 26 132 ^^^ q_mk e t 1)) 26 133 (t.2 26 133 ^^^ q_mk e t 2)) 26 134 (t.2 26 134 ^^^ q_mk e t 3)) 26 135 (t.2 26 135 ^^^ q_mk e t 4)
def q_rc (e : Nat) (t : xb_St) : Int32 × xb_St :=
  if t.1 17 (2 * e + 1) = 0 then (t.1 25 33, q_take e (t.1 25 33) (t.2 26 132) (t.2 26 133) (t.2 26 134) (t.2 26 135) (xb_si t 8 e (t.1 8 e + 1)))
  else if g_tagOf (t.2 19 (2 * e + 1)) (t.1 21 (2 * e + 1)) (t.1 8 e) (t.1 25 33) (t.2 26 132 ^^^ q_mk e t 1) (t.2 26 133 ^^^ q_mk e t 2) (t.2 26 134 ^^^ q_mk e t 3) (t.2 26 135 ^^^ q_mk e t 4) = t.2 27 33 then (t.1 25 33, q_take e (t.1 25 33) (t.2 26 132 ^^^ q_mk e t 1) (t.2 26 133 ^^^ q_mk e t 2) (t.2 26 134 ^^^ q_mk e t 3) (t.2 26 135 ^^^ q_mk e t 4) (q_t3 e t))
  else (t.1 25 33, q_fail e 5 (q_t3 e t))
theorem Rel_rc2 (hB : rB B e) {s t : xb_St} (h : Rel s t) (k0 : s.1 (B + 1) 0 = t.1 25 33) (w5 : s.2 (B + 1) 5 = t.2 27 33) (on : ¬ t.1 17 (2 * e + 1) = 0) (a1 a2 a3 a4 : Int64) (s2 : xb_St) (hs2 : s2 = xb_sl (xb_sl (xb_sl (xb_sl s (B + 1) 1 a1) (B + 1) 2 a2) (B + 1) 3 a3) (B + 1) 4 a4) (t3 : xb_St) (ht3 : t3 = xb_sl (xb_sl (xb_sl (xb_sl (xb_si t 8 e (t.1 8 e + 1)) 26 132 a1) 26 133 a2) 26 134 a3) 26 135 a4) :
    (if p_Keys_passes (B + 3) (B + 1) s2 = 0 then ((p_fail B 5 (p_n3 B s2)).1 (B + 1) 0, p_fail B 5 (p_n3 B s2)) else if (p_take B (B + 1) (p_n3 B s2)).1 = 0 then ((p_take B (B + 1) (p_n3 B s2)).2.1 (B + 1) 0, (p_take B (B + 1) (p_n3 B s2)).2) else ((p_fail B (p_take B (B + 1) (p_n3 B s2)).1.toInt64 (p_take B (B + 1) (p_n3 B s2)).2).1 (B + 1) 0, p_fail B (p_take B (B + 1) (p_n3 B s2)).1.toInt64 (p_take B (B + 1) (p_n3 B s2)).2)).1 = (if g_tagOf (t.2 19 (2 * e + 1)) (t.1 21 (2 * e + 1)) (t.1 8 e) (t.1 25 33) a1 a2 a3 a4 = t.2 27 33 then (t.1 25 33, q_take e (t.1 25 33) a1 a2 a3 a4 t3) else (t.1 25 33, q_fail e 5 t3)).1 ∧
    Rel (if p_Keys_passes (B + 3) (B + 1) s2 = 0 then ((p_fail B 5 (p_n3 B s2)).1 (B + 1) 0, p_fail B 5 (p_n3 B s2)) else if (p_take B (B + 1) (p_n3 B s2)).1 = 0 then ((p_take B (B + 1) (p_n3 B s2)).2.1 (B + 1) 0, (p_take B (B + 1) (p_n3 B s2)).2) else ((p_fail B (p_take B (B + 1) (p_n3 B s2)).1.toInt64 (p_take B (B + 1) (p_n3 B s2)).2).1 (B + 1) 0, p_fail B (p_take B (B + 1) (p_n3 B s2)).1.toInt64 (p_take B (B + 1) (p_n3 B s2)).2)).2 (if g_tagOf (t.2 19 (2 * e + 1)) (t.1 21 (2 * e + 1)) (t.1 8 e) (t.1 25 33) a1 a2 a3 a4 = t.2 27 33 then (t.1 25 33, q_take e (t.1 25 33) a1 a2 a3 a4 t3) else (t.1 25 33, q_fail e 5 t3)).2 := by
  have ki := (h.E hB).ki
  have n13 : B + 1 ≠ B + 3 := rB_13
  have n31 : B + 3 ≠ B + 1 := fun z => rB_13 z.symm
  have hP := rB_P hB
  have on' : ¬ s.1 (B + 3) 0 = 0 := fun z => on (ki.on.symm.trans z)
  have tk := ki.tk on
  have ta : s.1 (B + 3) 4 = t.1 21 (2 * e + 1) := by rw [ki.ta, if_neg on]
  have nu := ki.num
  subst hs2
  subst ht3
  have R0 := Rel_heard hB h
  have R : Rel (p_n3 B (xb_sl (xb_sl (xb_sl (xb_sl s (B + 1) 1 a1) (B + 1) 2 a2) (B + 1) 3 a3) (B + 1) 4 a4)) (xb_sl (xb_sl (xb_sl (xb_sl (xb_si t 8 e (t.1 8 e + 1)) 26 132 a1) 26 133 a2) 26 134 a3) 26 135 a4) := by
    refine Rel_P hP (Rel_row (by decide) (Rel_row (by decide) (Rel_row (by decide) (Rel_row (by decide) R0)))) (fun K j _ => rfl) (fun K j hK => ?_)
    unfold p_n3
    rw [xb_l_i, xb_l_nk hK, xb_l_nk hK, xb_l_nk hK, xb_l_nk hK, xb_l_i]
  have tg : p_Keys_tagOf (B + 3) (B + 1) (xb_sl (xb_sl (xb_sl (xb_sl s (B + 1) 1 a1) (B + 1) 2 a2) (B + 1) 3 a3) (B + 1) 4 a4) = g_tagOf (t.2 19 (2 * e + 1)) (t.1 21 (2 * e + 1)) (t.1 8 e) (t.1 25 33) a1 a2 a3 a4 := by
    unfold p_Keys_tagOf g_tagOf
    simp only [xb_i_l]
    rw [xb_l_nk n31, xb_l_nk n31, xb_l_nk n31, xb_l_nk n31, tk, ta, nu, k0]
    simp [xb_rl, k_mix, on']
  have t5 : (xb_sl (xb_sl (xb_sl (xb_sl s (B + 1) 1 a1) (B + 1) 2 a2) (B + 1) 3 a3) (B + 1) 4 a4).2 (B + 1) 5 = t.2 27 33 := by
    rw [xb_l_nj (by decide), xb_l_nj (by decide), xb_l_nj (by decide), xb_l_nj (by decide)]; exact w5
  have pss : p_Keys_passes (B + 3) (B + 1) (xb_sl (xb_sl (xb_sl (xb_sl s (B + 1) 1 a1) (B + 1) 2 a2) (B + 1) 3 a3) (B + 1) 4 a4) = if g_tagOf (t.2 19 (2 * e + 1)) (t.1 21 (2 * e + 1)) (t.1 8 e) (t.1 25 33) a1 a2 a3 a4 = t.2 27 33 then 1 else 0 := by
    unfold p_Keys_passes
    rw [if_neg (show ¬ (xb_sl (xb_sl (xb_sl (xb_sl s (B + 1) 1 a1) (B + 1) 2 a2) (B + 1) 3 a3) (B + 1) 4 a4).1 (B + 3) 0 = 0 from on'), tg, t5]
  have e0 : (p_n3 B (xb_sl (xb_sl (xb_sl (xb_sl s (B + 1) 1 a1) (B + 1) 2 a2) (B + 1) 3 a3) (B + 1) 4 a4)).1 (B + 1) 0 = t.1 25 33 := by
    unfold p_n3
    rw [xb_i_nk n13]; exact k0
  rw [pss]
  by_cases tt : g_tagOf (t.2 19 (2 * e + 1)) (t.1 21 (2 * e + 1)) (t.1 8 e) (t.1 25 33) a1 a2 a3 a4 = t.2 27 33
  · rw [if_pos tt, if_neg (show ¬ (1 : Int32) = 0 by decide), if_pos tt]
    have T := Rel_take hB R
    have q1 : (p_n3 B (xb_sl (xb_sl (xb_sl (xb_sl s (B + 1) 1 a1) (B + 1) 2 a2) (B + 1) 3 a3) (B + 1) 4 a4)).2 (B + 1) 1 = a1 := by
      unfold p_n3; rw [xb_l_i, xb_l_nj (by decide), xb_l_nj (by decide), xb_l_nj (by decide), xb_l_hit]
    have q2 : (p_n3 B (xb_sl (xb_sl (xb_sl (xb_sl s (B + 1) 1 a1) (B + 1) 2 a2) (B + 1) 3 a3) (B + 1) 4 a4)).2 (B + 1) 2 = a2 := by
      unfold p_n3; rw [xb_l_i, xb_l_nj (by decide), xb_l_nj (by decide), xb_l_hit]
    have q3 : (p_n3 B (xb_sl (xb_sl (xb_sl (xb_sl s (B + 1) 1 a1) (B + 1) 2 a2) (B + 1) 3 a3) (B + 1) 4 a4)).2 (B + 1) 3 = a3 := by
      unfold p_n3; rw [xb_l_i, xb_l_nj (by decide), xb_l_hit]
    have q4 : (p_n3 B (xb_sl (xb_sl (xb_sl (xb_sl s (B + 1) 1 a1) (B + 1) 2 a2) (B + 1) 3 a3) (B + 1) 4 a4)).2 (B + 1) 4 = a4 := by
      unfold p_n3; rw [xb_l_i, xb_l_hit]
    rw [e0, q1, q2, q3, q4] at T
    have K := (take_P hB R).trans e0
    generalize p_take B (B + 1) (p_n3 B (xb_sl (xb_sl (xb_sl (xb_sl s (B + 1) 1 a1) (B + 1) 2 a2) (B + 1) 3 a3) (B + 1) 4 a4)) = r at T K ⊢
    exact end_pair hB (s3 := s) r K T
  · rw [if_neg tt, if_pos rfl, if_neg tt]
    exact ⟨(fail_P hB).trans e0, Rel_fail hB R⟩
theorem Rel_rc (hB : rB B e) {s t : xb_St} (h : Rel s t) (k0 : s.1 (B + 1) 0 = t.1 25 33) (w1 : s.2 (B + 1) 1 = t.2 26 132) (w2 : s.2 (B + 1) 2 = t.2 26 133) (w3 : s.2 (B + 1) 3 = t.2 26 134) (w4 : s.2 (B + 1) 4 = t.2 26 135) (w5 : s.2 (B + 1) 5 = t.2 27 33) : (p_rc B s).1 = (q_rc e t).1 ∧ Rel (p_rc B s).2 (q_rc e t).2 := by
  have ki := (h.E hB).ki
  have n13 : B + 1 ≠ B + 3 := rB_13
  have n31 : B + 3 ≠ B + 1 := fun z => rB_13 z.symm
  have hP := rB_P hB
  unfold p_rc q_rc
  by_cases on : t.1 17 (2 * e + 1) = 0
  · have on' : s.1 (B + 3) 0 = 0 := ki.on.trans on
    have cv : p_Keys_cover (B + 3) (B + 1) s = s := by unfold p_Keys_cover; rw [if_pos on']
    have ps : ¬ p_Keys_passes (B + 3) (B + 1) s = 0 := by unfold p_Keys_passes; rw [if_pos on']; decide
    rw [cv, if_neg ps, if_pos on]
    have R : Rel (p_n3 B s) (xb_si t 8 e (t.1 8 e + 1)) := Rel_heard hB h
    have e0 : (p_n3 B s).1 (B + 1) 0 = t.1 25 33 := (xb_i_nk n13).trans k0
    have e1 : ∀ j, (p_n3 B s).2 (B + 1) j = s.2 (B + 1) j := fun _ => rfl
    generalize p_n3 B s = S at R e0 e1 ⊢
    have T := Rel_take hB R
    have K := (take_P hB R).trans e0
    rw [e0, e1, e1, e1, e1, w1, w2, w3, w4] at T
    generalize p_take B (B + 1) S = r at T K ⊢
    exact end_pair hB (s3 := s) r K T
  · have on' : ¬ s.1 (B + 3) 0 = 0 := fun z => on (ki.on.symm.trans z)
    rw [if_neg on]
    have ck := ki.ck on
    have tk := ki.tk on
    have ci : s.1 (B + 3) 3 = t.1 20 (2 * e + 1) := by rw [ki.ci, if_neg on]
    have ta : s.1 (B + 3) 4 = t.1 21 (2 * e + 1) := by rw [ki.ta, if_neg on]
    have nu := ki.num
    have cv : p_Keys_cover (B + 3) (B + 1) s = xb_sl (xb_sl (xb_sl (xb_sl s (B + 1) 1 (t.2 26 132 ^^^ q_mk e t 1)) (B + 1) 2 (t.2 26 133 ^^^ q_mk e t 2)) (B + 1) 3 (t.2 26 134 ^^^ q_mk e t 3)) (B + 1) 4 (t.2 26 135 ^^^ q_mk e t 4) := by
      unfold p_Keys_cover q_mk g_mask
      rw [if_neg on', ck, ci, nu, w1, w2, w3, w4]
      simp [k_mix]
    exact Rel_rc2 hB h k0 w5 on (t.2 26 132 ^^^ q_mk e t 1) (t.2 26 133 ^^^ q_mk e t 2) (t.2 26 134 ^^^ q_mk e t 3) (t.2 26 135 ^^^ q_mk e t 4) (p_Keys_cover (B + 3) (B + 1) s) cv (q_t3 e t) rfl
theorem q_deliver_is (x1 : Int32) : q_deliver x1 τ = if g_isEnd x1 = 0 then ((q_raise 1 τ).1, (q_raise 1 τ).2) else if τ.1 24 x1.toNatClampNeg = 0 then (0, xb_si τ 0 0 0) else if (q_drop x1.toNatClampNeg (q_copy (16 * x1.toNatClampNeg) 33 (xb_si τ 0 0 0))).1 4 x1.toNatClampNeg = 5 then (-1, q_drop x1.toNatClampNeg (q_copy (16 * x1.toNatClampNeg) 33 (xb_si τ 0 0 0))) else q_rc x1.toNatClampNeg (q_drop x1.toNatClampNeg (q_copy (16 * x1.toNatClampNeg) 33 (xb_si τ 0 0 0))) := rfl
theorem td_i {n : Nat} (he : e < 2) (e2 : τ.1 24 e = nI n) (n0 : 0 < n) (hn : n ≤ 16) : (q_drop e (q_copy (16 * e) 33 τ)).1 25 33 = τ.1 25 (16 * e) := by
  have clp : (nI n).toNatClampNeg = n := nI_clamp (by omega)
  have z : (q_copy (16 * e) 33 τ).1 24 e = nI n := by rw [qc_i, if_neg (by decide)]; exact e2
  unfold q_drop
  rw [z, clp, fd_i, if_neg (by omega), xb_i_nk (by decide), qc_i, if_pos rfl, if_pos rfl]
theorem td_27 {n : Nat} (he : e < 2) (e2 : τ.1 24 e = nI n) (n0 : 0 < n) (hn : n ≤ 16) : (q_drop e (q_copy (16 * e) 33 τ)).2 27 33 = τ.2 27 (16 * e) := by
  have clp : (nI n).toNatClampNeg = n := nI_clamp (by omega)
  have z : (q_copy (16 * e) 33 τ).1 24 e = nI n := by rw [qc_i, if_neg (by decide)]; exact e2
  unfold q_drop
  rw [z, clp, fd_27, if_neg (by omega), xb_l_i, qc_27, if_pos rfl]
theorem td_26 {n j : Nat} (he : e < 2) (e2 : τ.1 24 e = nI n) (n0 : 0 < n) (hn : n ≤ 16) (hj : j < 4) : (q_drop e (q_copy (16 * e) 33 τ)).2 26 (4 * 33 + j) = τ.2 26 (4 * (16 * e) + j) := by
  have clp : (nI n).toNatClampNeg = n := nI_clamp (by omega)
  have z : (q_copy (16 * e) 33 τ).1 24 e = nI n := by rw [qc_i, if_neg (by decide)]; exact e2
  unfold q_drop
  rw [z, clp, fd_26 hj, if_neg (by omega), xb_l_i, qc_26 hj (by omega), if_pos rfl]
theorem Rel_recv (hB : rB B e) (h : Rel σ τ) (h0 : ¬ τ.1 24 e = 0) : (p_receive B σ).1 = (q_rc e (q_drop e (q_copy (16 * e) 33 τ))).1 ∧ Rel (p_receive B σ).2 (q_rc e (q_drop e (q_copy (16 * e) 33 τ))).2 := by
  have he := rB.lt hB
  have hP := rB_P hB
  have hln : sp_lnA B = 1 + e := by rcases hB with ⟨rfl, rfl⟩ | ⟨rfl, rfl⟩ <;> rfl
  obtain ⟨n, hn, e1, e2, hk⟩ := h.L he
  have n0 : 0 < n := by
    by_cases z : n = 0
    · subst z; exact absurd e2 h0
    · exact Nat.pos_of_ne_zero z
  have f0 := hk 0 n0
  rw [show 3 + e = 1 + e + 2 from Nat.add_right_comm 1 2 e] at f0
  rw [p_receive_is, hln]
  unfold p_Line_take
  have np := rB_np hB
  have R : Rel (p_Line_drop (1 + e) (xb_sl (xb_sl (xb_sl (xb_sl (xb_sl (xb_si σ (B + 1) 0 ((σ.2 (1 + e + 2) 0).toInt32)) (B + 1) 1 (σ.2 (1 + e + 2) 1)) (B + 1) 2 (σ.2 (1 + e + 2) 2)) (B + 1) 3 (σ.2 (1 + e + 2) 3)) (B + 1) 4 (σ.2 (1 + e + 2) 4)) (B + 1) 5 (σ.2 (1 + e + 2) 5))) (q_drop e (q_copy (16 * e) 33 τ)) := by
    refine Rel_drop he (Rel_copy (by decide) (rB_33 he) (Rel_P hP h (fun K j hK => ?_) (fun K j hK => ?_))) (by rw [qc_i, if_neg (by decide)]; exact h0)
    · simp only [xb_i_l]; rw [xb_i_nk hK]
    · rw [xb_l_nk hK, xb_l_nk hK, xb_l_nk hK, xb_l_nk hK, xb_l_nk hK, xb_l_i]
  have dr_i : ∀ s : xb_St, (p_Line_drop (1 + e) s).1 (B + 1) 0 = s.1 (B + 1) 0 := by
    intro s; unfold p_Line_drop; split
    · rfl
    · rw [xb_i_c, xb_i_nk np.1]
  have dr_l : ∀ (s : xb_St) j, (p_Line_drop (1 + e) s).2 (B + 1) j = s.2 (B + 1) j := by
    intro s j; unfold p_Line_drop; split
    · rfl
    · rw [xb_l_ck np.2, xb_l_i]
  have td_i := td_i he e2 n0 hn
  have td_27 := td_27 he e2 n0 hn
  have td_26 := fun j (hj : j < 4) => td_26 he e2 n0 hn hj
  refine Rel_rc hB R ?_ ?_ ?_ ?_ ?_ ?_
  · rw [dr_i, td_i]
    simp only [xb_i_l]
    rw [xb_i_hit]
    have := f0.1
    rw [show 6 * 0 = 0 from rfl, show 16 * e + 0 = 16 * e from rfl] at this
    rw [this]; simp
  · rw [dr_l, show (132 : Nat) = 4 * 33 + 0 from rfl, td_26 0 (by decide), xb_l_nj (by decide), xb_l_nj (by decide), xb_l_nj (by decide), xb_l_nj (by decide), xb_l_hit]
    exact f0.2.1 0 (by decide)
  · rw [dr_l, show (133 : Nat) = 4 * 33 + 1 from rfl, td_26 1 (by decide), xb_l_nj (by decide), xb_l_nj (by decide), xb_l_nj (by decide), xb_l_hit]
    exact f0.2.1 1 (by decide)
  · rw [dr_l, show (134 : Nat) = 4 * 33 + 2 from rfl, td_26 2 (by decide), xb_l_nj (by decide), xb_l_nj (by decide), xb_l_hit]
    exact f0.2.1 2 (by decide)
  · rw [dr_l, show (135 : Nat) = 4 * 33 + 3 from rfl, td_26 3 (by decide), xb_l_nj (by decide), xb_l_hit]
    exact f0.2.1 3 (by decide)
  · rw [dr_l, td_27, xb_l_hit]
    exact f0.2.2
end
