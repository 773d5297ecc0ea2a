/-! packets for a channel -/
theorem k_23 (x : Int64) : (3 ≤ x) ↔ (2 < x) := by
  rw [Int64.le_iff_toInt_le, Int64.lt_iff_toInt_lt]
  have h1 : (3 : Int64).toInt = 3 := rfl
  have h2 : (2 : Int64).toInt = 2 := rfl
  omega
theorem k_le (x y : Int64) : (x ≤ y) ↔ ¬ (y < x) := by
  rw [Int64.le_iff_toInt_le, Int64.lt_iff_toInt_lt]
  omega
section
variable {B e C q c : Nat} {σ σ' τ τ' : xb_St}
theorem at_none {x : Int64} (h : x < 0 ∨ 2 < x) : p_channelAt B x σ = none := by
  unfold p_channelAt
  by_cases h0 : x < 0
  · rw [if_pos h0]
  · rw [if_neg h0, if_pos ((k_23 x).mpr (h.resolve_left h0))]
theorem at_some {x : Int64} (h0 : ¬ x < 0) (h2 : ¬ 2 < x) : p_channelAt B x σ = some (B + 9 + x.toInt32.toNatClampNeg) := by
  unfold p_channelAt
  rw [if_neg h0, if_neg (mt (k_23 x).mp h2)]
theorem q_on_none {k : Int32} {w x y : Int64} (h : w < 0 ∨ 2 < w) : q_on e k w x y τ = q_fail e 7 τ := by
  unfold q_on
  by_cases h0 : w < 0
  · rw [if_pos h0]
    simp only [ite_self]
  · rw [if_neg h0, if_pos (h.resolve_left h0)]
    simp only [ite_self]
theorem Rel_roomS (hQ : rQ C q c) (h : Rel σ τ) (hs : ¬ τ.1 28 q = 0) {x : Int64} {k a : Nat} (ex : x = lN k) (hk : k ≤ a) (ha : τ.1 31 q = nI a) (a24 : a ≤ 24) : Rel (xb_si σ C 5 (σ.1 C 5 - x.toInt32)) (xb_si τ 31 q (τ.1 31 q - x.toInt32)) := by
  have hC := h.Ch hQ
  refine Rel_C1 hQ h ?_ ?_
  · refine ⟨?_, ?_, ?_, ?_, ?_, ?_, ?_⟩ <;> intros <;> simp [xb_ri, xb_rl, xb_i_l, xb_l_i, *]
  · obtain ⟨f, a', b, d, hf, hu, e1, e2, e3, e4, hi⟩ := hC.nu
    obtain rfl : a' = a := (nI_eq (by omega) (by omega)).mp (e2.symm.trans ha)
    refine ⟨?_, ?_, ?_, ?_, ?_, ?_, ?_, ⟨f, a' - k, b, d, hf, by omega, ?_, ?_, ?_, ?_, ?_⟩, ?_⟩
    · simpa [xb_ri, xb_rl, xb_i_l, xb_l_i, ps_i, ps_l, qs_i, qs_l, qs_7, sp_lnD] using hC.ix
    · simpa [xb_ri, xb_rl, xb_i_l, xb_l_i, ps_i, ps_l, qs_i, qs_l, qs_7, sp_lnD] using hC.st
    · simpa [xb_ri, xb_rl, xb_i_l, xb_l_i, ps_i, ps_l, qs_i, qs_l, qs_7, sp_lnD] using hC.pe
    · simpa [xb_ri, xb_rl, xb_i_l, xb_l_i, ps_i, ps_l, qs_i, qs_l, qs_7, sp_lnD] using hC.wi
    · simp [xb_ri, xb_rl, xb_i_l, xb_l_i, ps_i, ps_l, qs_i, qs_l, qs_7, sp_lnD, hC.ro]
    · simpa [xb_ri, xb_rl, xb_i_l, xb_l_i, ps_i, ps_l, qs_i, qs_l, qs_7, sp_lnD] using hC.he
    · simpa [xb_ri, xb_rl, xb_i_l, xb_l_i, ps_i, ps_l, qs_i, qs_l, qs_7, sp_lnD] using hC.ta
    · simpa [xb_ri, xb_rl, xb_i_l, xb_l_i, ps_i, ps_l, qs_i, qs_l, qs_7, sp_lnD] using e1
    · rw [xb_i_hit, e2, ex, lN_i]; exact pk_sub hk
    · simpa [xb_ri, xb_rl, xb_i_l, xb_l_i, ps_i, ps_l, qs_i, qs_l, qs_7, sp_lnD] using e3
    · simpa [xb_ri, xb_rl, xb_i_l, xb_l_i, ps_i, ps_l, qs_i, qs_l, qs_7, sp_lnD] using e4
    · simpa [xb_ri, xb_rl, xb_i_l, xb_l_i, ps_i, ps_l, qs_i, qs_l, qs_7, sp_lnD] using hi
    · simp [xb_ri, xb_rl, xb_i_l, xb_l_i, ps_i, ps_l, qs_i, qs_l, qs_7, sp_lnD, hs]
theorem on_eq {k : Int32} (hk : σ.1 (B + 1) 0 = k) (h90 : ¬ k = 90) {K : Nat} (hK : p_channelAt B (σ.2 (B + 1) 1) σ = some K) : p_takeForChannel B (B + 1) σ = if k = 91 then p_Ch_confirm K (σ.2 (B + 1) 2) (σ.2 (B + 1) 3) σ else if k = 92 then p_Ch_refuse K σ else if k = 93 then p_Ch_window K (σ.2 (B + 1) 2) σ else if k = 94 then p_Ch_data K (σ.2 (B + 1) 2) (σ.2 (B + 1) 3) σ else p_takeClose B K σ := by
  unfold p_takeForChannel
  rw [hk, if_neg h90, xb_om_some hK]
theorem on_eq0 {k : Int32} (hk : σ.1 (B + 1) 0 = k) (h90 : ¬ k = 90) (hK : p_channelAt B (σ.2 (B + 1) 1) σ = none) : p_takeForChannel B (B + 1) σ = (7, σ) := by
  unfold p_takeForChannel
  rw [hk, if_neg h90, xb_om_none hK]
theorem end_7 (hB : rB B e) (h : Rel σ τ) : Rel (p_end B (7, σ)) (q_fail e 7 τ) := by
  rw [p_end_f (x := 7) (by decide) (by decide)]
  exact Rel_fail hB h
theorem conn_is (s : Int32) : (if s = 2 then (1 : Int32) else if s = 3 then 1 else 0) = 0 ↔ ¬ s = 2 ∧ ¬ s = 3 := by
  by_cases h2 : s = 2
  · rw [if_pos h2]; exact ⟨fun h => absurd h (by decide), fun h => absurd h2 h.1⟩
  · rw [if_neg h2]
    by_cases h3 : s = 3
    · rw [if_pos h3]; exact ⟨fun h => absurd h (by decide), fun h => absurd h3 h.2⟩
    · rw [if_neg h3]; exact ⟨fun _ => ⟨h2, h3⟩, fun _ => rfl⟩
set_option maxHeartbeats 4000000 in
theorem Rel_on (hB : rB B e) (h : Rel σ τ) {k : Int32} (hk : σ.1 (B + 1) 0 = k) (h5 : k = 91 ∨ k = 92 ∨ k = 93 ∨ k = 94 ∨ k = 97) : Rel (p_end B (p_takeForChannel B (B + 1) σ)) (q_on e k (σ.2 (B + 1) 1) (σ.2 (B + 1) 2) (σ.2 (B + 1) 3) τ) := by
  have h90 : ¬ k = 90 := by rcases h5 with z | z | z | z | z <;> rw [z] <;> decide
  generalize hw : σ.2 (B + 1) 1 = w
  generalize hxx : σ.2 (B + 1) 2 = x
  generalize hyy : σ.2 (B + 1) 3 = y
  by_cases hb : w < 0 ∨ 2 < w
  · rw [on_eq0 hk h90 (by rw [hw]; exact at_none hb), q_on_none hb]
    exact end_7 hB h
  · have w0 : ¬ w < 0 := fun z => hb (Or.inl z)
    have w2 : ¬ 2 < w := fun z => hb (Or.inr z)
    have hc := (sm_c2 w0 w2).2
    rw [on_eq hk h90 (by rw [hw]; exact at_some w0 w2), hxx, hyy]
    unfold q_on
    rw [if_neg w0, if_neg w2]
    generalize w.toInt32.toNatClampNeg = c at hc
    have hQ := rQ_of hB hc
    have hC := h.Ch hQ
    have st := hC.st
    obtain ⟨f, a, b, d, hf, hu, e1, e2, e3, e4, hi⟩ := hC.nu
    unfold p_Ch_confirm p_Ch_refuse p_Ch_window p_Ch_data p_takeClose p_Ch_isConn
    rw [st]
    by_cases s1 : τ.1 28 (3 * e + c) = 1
    · have n2 : ¬ τ.1 28 (3 * e + c) = 2 := by rw [s1]; decide
      have n3 : ¬ τ.1 28 (3 * e + c) = 3 := by rw [s1]; decide
      have cn := (conn_is (τ.1 28 (3 * e + c))).mpr ⟨n2, n3⟩
      simp only [if_pos s1, if_pos cn]
      rcases h5 with z | z | z | z | z
      · subst z; exact Rel_connect hQ h
      · subst z; exact Rel_free hQ h
      · subst z; exact end_7 hB h
      · subst z; exact end_7 hB h
      · subst z; exact end_7 hB h
    · simp only [if_neg s1]
      by_cases cc : τ.1 28 (3 * e + c) = 2 ∨ τ.1 28 (3 * e + c) = 3
      · have cn : ¬ (if τ.1 28 (3 * e + c) = 2 then (1 : Int32) else if τ.1 28 (3 * e + c) = 3 then 1 else 0) = 0 := fun z => by
          have := (conn_is _).mp z
          rcases cc with z2 | z3
          · exact this.1 z2
          · exact this.2 z3
        have ns : ¬ τ.1 28 (3 * e + c) = 0 := by rcases cc with z | z <;> rw [z] <;> decide
        simp only [if_neg cn]
        have data : ∀ (A A' : xb_St), Rel A A' → True := fun _ _ _ => trivial
        rcases h5 with z | z | z | z | z
        · subst z
          simp only [if_pos (show (91 : Int32) = 91 from rfl)]
          by_cases s2 : τ.1 28 (3 * e + c) = 2
          · simp only [if_pos s2]; exact end_7 hB h
          · simp only [if_neg s2, if_pos (cc.resolve_left s2)]; exact end_7 hB h
        · subst z
          simp only [if_neg (show ¬ (92 : Int32) = 91 by decide), if_pos (show (92 : Int32) = 92 from rfl)]
          by_cases s2 : τ.1 28 (3 * e + c) = 2
          · simp only [if_pos s2]; exact end_7 hB h
          · simp only [if_neg s2, if_pos (cc.resolve_left s2)]; exact end_7 hB h
        · subst z
          simp only [if_neg (show ¬ (93 : Int32) = 91 by decide), if_neg (show ¬ (93 : Int32) = 92 by decide), if_neg (show ¬ (93 : Int32) = 94 by decide), if_pos (show (93 : Int32) = 93 from rfl)]
          have W : Rel (p_end B (if x < 1 then (7, σ) else if x ≤ 1000 then (0, xb_sl σ (B + 9 + c) 4 (σ.2 (B + 9 + c) 4 + x)) else (7, σ))) (if x < 1 then q_fail e 7 τ else if 1000 < x then q_fail e 7 τ else xb_sl τ 30 (3 * e + c) (τ.2 30 (3 * e + c) + x)) := by
            by_cases x1 : x < 1
            · rw [if_pos x1, if_pos x1]; exact end_7 hB h
            · rw [if_neg x1, if_neg x1]
              by_cases x2 : 1000 < x
              · rw [if_neg (fun z => (k_le _ _).mp z x2), if_pos x2]; exact end_7 hB h
              · rw [if_pos ((k_le _ _).mpr x2), if_neg x2]
                rw [p_end_0]
                exact Rel_window hQ h ns
          by_cases s2 : τ.1 28 (3 * e + c) = 2
          · simp only [if_pos s2]; exact W
          · simp only [if_neg s2, if_pos (cc.resolve_left s2)]; exact W
        · subst z
          simp only [if_neg (show ¬ (94 : Int32) = 91 by decide), if_neg (show ¬ (94 : Int32) = 92 by decide), if_neg (show ¬ (94 : Int32) = 93 by decide), if_pos (show (94 : Int32) = 94 from rfl)]
          by_cases x1 : x < 1
          · by_cases s2 : τ.1 28 (3 * e + c) = 2
            · simp only [if_pos s2, if_pos x1]; exact end_7 hB h
            · simp only [if_neg s2, if_pos (cc.resolve_left s2), if_pos x1]; exact end_7 hB h
          · by_cases x8 : 8 < x
            · by_cases s2 : τ.1 28 (3 * e + c) = 2
              · simp only [if_pos s2, if_neg x1, if_pos x8]; exact end_7 hB h
              · simp only [if_neg s2, if_pos (cc.resolve_left s2), if_neg x1, if_pos x8]; exact end_7 hB h
            · have ro := hC.ro
              by_cases xr : (τ.1 31 (3 * e + c)).toInt64 < x
              · have xr' : ¬ x ≤ (σ.1 (B + 9 + c) 5).toInt64 := by rw [ro]; exact fun z => (k_le _ _).mp z xr
                by_cases s2 : τ.1 28 (3 * e + c) = 2
                · simp only [if_pos s2, if_neg x1, if_neg x8, if_pos xr, if_neg xr']; exact end_7 hB h
                · simp only [if_neg s2, if_pos (cc.resolve_left s2), if_neg x1, if_neg x8, if_pos xr, if_neg xr']; exact end_7 hB h
              · have xr' : x ≤ (σ.1 (B + 9 + c) 5).toInt64 := by rw [ro]; exact (k_le _ _).mpr xr
                obtain ⟨k0, hk1, hk8, hka, ex⟩ := sm_x8 (x := x) x1 x8 (show a ≤ 24 by omega) e2 xr
                have RS := Rel_roomS hQ h ns ex hka e2 (by omega)
                by_cases s2 : τ.1 28 (3 * e + c) = 2
                · simp only [if_pos s2, if_neg x1, if_neg x8, if_neg xr, if_pos xr', if_true]
                  have j8 := sm_j8 ex hk1 hk8
                  have K := Rel_keep hQ (y := y) 8 (x.toInt32 - 1) (a := a - k0) (b := b) (d := d) RS (by rw [xb_i_nk (by decide)]; exact ns) (by rw [xb_i_hit, e2, ex, lN_i]; exact pk_sub hka) (by rw [xb_i_nk (by decide)]; exact e3) (by rw [xb_i_nk (by decide)]; exact e4) (by rw [j8]; omega) (by omega)
                  rw [p_end_0]
                  unfold p_Ch_keep
                  exact K
                · simp only [if_neg s2, if_pos (cc.resolve_left s2), if_neg x1, if_neg x8, if_neg xr, if_pos xr', ite_self, if_true]
                  rw [p_end_0]
                  exact RS
        · subst z
          simp only [if_neg (show ¬ (97 : Int32) = 91 by decide), if_neg (show ¬ (97 : Int32) = 92 by decide), if_neg (show ¬ (97 : Int32) = 93 by decide), if_neg (show ¬ (97 : Int32) = 94 by decide), if_pos (show (97 : Int32) = 97 from rfl)]
          by_cases s2 : τ.1 28 (3 * e + c) = 2
          · simp only [if_pos s2]
            have pe := hC.pe
            have R := Rel_send hB (x1 := 97) (x2 := τ.2 29 (3 * e + c)) (x3 := 0) (x4 := 0) (x5 := 0) h
            have F := Rel_free hQ R
            rw [← pe] at F ⊢
            rw [p_end_0]
            exact F
          · simp only [if_neg s2, if_pos (cc.resolve_left s2)]
            exact Rel_free hQ h
      · have n2 : ¬ τ.1 28 (3 * e + c) = 2 := fun z => cc (Or.inl z)
        have n3 : ¬ τ.1 28 (3 * e + c) = 3 := fun z => cc (Or.inr z)
        have cn := (conn_is (τ.1 28 (3 * e + c))).mpr ⟨n2, n3⟩
        simp only [if_pos cn, if_neg n2, if_neg n3, if_true, ite_self]
        exact end_7 hB h
end
