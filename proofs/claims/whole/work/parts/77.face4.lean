/-! write -/
section
variable {B e C q c Z : Nat} {σ σ' τ τ' : xb_St}
theorem lshl_n (x : Int64) (s : Int32) (k : Nat) (hs : ((s.toInt64 &&& 63).toBitVec.smod 64).toNat = k) : (xb_lshl x s).toBitVec.toNat = x.toBitVec.toNat * 2 ^ k % 2 ^ 64 := by
  show (x.toBitVec <<< ((s.toInt64 &&& 63).toBitVec.smod 64).toNat).toNat = _
  rw [hs, BitVec.toNat_shiftLeft, Nat.shiftLeft_eq]
theorem lushr_n (x : Int64) (s : Int32) (k : Nat) (hs : ((s.toInt64.toUInt64 &&& Int64.toUInt64 63).toBitVec % 64).toNat = k) : (xb_lushr x s).toBitVec.toNat = x.toBitVec.toNat / 2 ^ k := by
  have e : (xb_lushr x s).toBitVec = x.toBitVec >>> k := by
    rw [← hs]
    exact UInt64.toBitVec_shiftRight _ _
  rw [e, BitVec.toNat_ushiftRight, Nat.shiftRight_eq_div_pow]
theorem land_n (x m : Int64) (k : Nat) (hm : m.toBitVec.toNat = 2 ^ k - 1) : (x &&& m).toBitVec.toNat = x.toBitVec.toNat % 2 ^ k := by
  rw [Int64.toBitVec_and, BitVec.toNat_and, hm, Nat.and_two_pow_sub_one_eq_mod]
theorem sh_eq {a b : Int64} (h : a.toBitVec.toNat = b.toBitVec.toNat) : a = b := Int64.toBitVec_inj.mp (BitVec.eq_of_toNat_eq h)
theorem sh_num (X n k : Nat) (h1 : 1 ≤ k) (h2 : k ≤ n) (h3 : n ≤ 8) : X * 2 ^ (64 - 8 * n) % 2 ^ 64 / 2 ^ (64 - 8 * k) = X % 2 ^ (8 * n) / 2 ^ (8 * n - 8 * k) := by
  have e1 : (2 : Nat) ^ 64 = 2 ^ (8 * n) * 2 ^ (64 - 8 * n) := by
    rw [← Nat.pow_add]
    congr 1
    omega
  have e2 : (2 : Nat) ^ (64 - 8 * k) = 2 ^ (8 * n - 8 * k) * 2 ^ (64 - 8 * n) := by
    rw [← Nat.pow_add]
    congr 1
    omega
  rw [e2, e1, Nat.mul_mod_mul_right, Nat.mul_div_mul_right _ _ (Nat.two_pow_pos _)]
theorem sh_1 : ∀ n, n < 9 → 1 ≤ n → (((8 * (8 - nI n) : Int32).toInt64 &&& 63).toBitVec.smod 64).toNat = 64 - 8 * n := by decide +kernel
theorem sh_2 : ∀ n, n < 9 → 1 ≤ n → (((8 * (8 - nI n) : Int32).toInt64.toUInt64 &&& Int64.toUInt64 63).toBitVec % 64).toNat = 64 - 8 * n := by decide +kernel
theorem sh_3 : ∀ n, n < 9 → ∀ k, k < 9 → 1 ≤ k → k ≤ n → (((8 * (nI n - nI k) : Int32).toInt64.toUInt64 &&& Int64.toUInt64 63).toBitVec % 64).toNat = 8 * n - 8 * k := by decide +kernel
theorem sh_4 : ∀ n, n < 8 → (xb_lshl 1 (8 * nI n) - 1).toBitVec.toNat = 2 ^ (8 * n) - 1 := by decide +kernel
theorem shf (x : Int64) {n k : Nat} (h1 : 1 ≤ k) (h2 : k ≤ n) (h3 : n ≤ 8) : xb_lushr (xb_lshl x (8 * (8 - nI n))) (8 * (8 - nI k)) = if nI n = 8 then xb_lushr x (8 * (nI n - nI k)) else xb_lushr (x &&& (xb_lshl 1 (8 * nI n) - 1)) (8 * (nI n - nI k)) := by
  have n9 : n < 9 := by omega
  have n1 : 1 ≤ n := by omega
  have k9 : k < 9 := by omega
  by_cases h : n = 8
  · subst h
    rw [if_pos (by decide)]
    apply sh_eq
    rw [lushr_n _ _ _ (sh_2 k k9 h1), lshl_n _ _ _ (sh_1 8 n9 n1), lushr_n _ _ _ (sh_3 8 n9 k k9 h1 h2), sh_num _ _ _ h1 h2 h3, Nat.mod_eq_of_lt x.toBitVec.isLt]
  · rw [if_neg (show ¬ nI n = 8 from fun z => h ((nI_eq (b := 8) (by omega) (by decide)).mp z))]
    apply sh_eq
    rw [lushr_n _ _ _ (sh_2 k k9 h1), lshl_n _ _ _ (sh_1 n n9 n1), lushr_n _ _ _ (sh_3 n n9 k k9 h1 h2), sh_num _ _ _ h1 h2 h3, land_n _ _ _ (sh_4 n (by omega))]
theorem Rel_wr (hB : rB B e) (hQ : rQ C q c) (h : Rel σ τ) (hs : ¬ τ.1 28 q = 0) {x3 : Int64} {n k : Nat} (h1 : 1 ≤ k) (h2 : k ≤ n) (h3 : n ≤ 8) : Rel (p_send B 94 (σ.2 C 3) (nI k).toInt64 (xb_lushr (xb_lshl x3 (8 * (8 - nI n))) (8 * (8 - nI k))) 0 (xb_sl σ C 4 (σ.2 C 4 - (nI k).toInt64))) (q_send e 94 (τ.2 29 q) (nI k).toInt64 (if nI n = 8 then xb_lushr x3 (8 * (nI n - nI k)) else xb_lushr (x3 &&& (xb_lshl 1 (8 * nI n) - 1)) (8 * (nI n - nI k))) 0 (xb_sl τ 30 q (τ.2 30 q - (nI k).toInt64))) := by
  have hC := h.Ch hQ
  rw [shf x3 h1 h2 h3]
  generalize (if nI n = 8 then xb_lushr x3 (8 * (nI n - nI k)) else xb_lushr (x3 &&& (xb_lshl 1 (8 * nI n) - 1)) (8 * (nI n - nI k))) = v
  have R := Rel_send hB (x1 := 94) (x2 := σ.2 C 3) (x3 := (nI k).toInt64) (x4 := v) (x5 := 0) (Rel_windowS hQ h hs (x := (nI k).toInt64))
  rw [hC.pe] at R ⊢
  exact R
theorem w_1 {x : Int32} (h1 : ¬ x < 1) (h2 : x ≤ 8) : ∃ n, 1 ≤ n ∧ n ≤ 8 ∧ x = nI n := by
  have h0 : ¬ x < 0 := by
    rw [Int32.lt_iff_toInt_lt] at h1 ⊢
    have e1 : (1 : Int32).toInt = 1 := rfl
    have e0 : (0 : Int32).toInt = 0 := rfl
    omega
  obtain ⟨n, hn, rfl⟩ := nI_of h0
  have a := (nI_leI (b := 8) hn (by decide)).mp h2
  have b := mt (nI_ltI (b := 1) hn (by decide)).mpr h1
  exact ⟨n, by omega, a, rfl⟩
theorem w_2 {w : Int64} {n : Nat} (h1 : 1 ≤ w) (hn : n ≤ 8) (h2 : ¬ (nI n).toInt64 ≤ w) : ∃ k, 1 ≤ k ∧ k ≤ n ∧ w = lN k := by
  rw [nI_l (by omega)] at h2
  rw [Int64.le_iff_toInt_le] at h1 h2
  rw [lN_toInt (by omega)] at h2
  have e1 : (1 : Int64).toInt = 1 := rfl
  refine ⟨w.toInt.toNat, by omega, by omega, ?_⟩
  apply Int64.toInt_inj.mp
  rw [lN_toInt (by omega)]
  omega
def q_wd (x3 : Int64) (x4 k : Int32) : Int64 := if x4 = 8 then xb_lushr x3 (8 * (x4 - k)) else xb_lushr (x3 &&& (xb_lshl 1 (8 * x4) - 1)) (8 * (x4 - k))
theorem w_p {x3 : Int64} {x4 k : Int32} {r : Int32} {a b : Int64} {t : xb_St} : (if x4 = (8 : Int32) then (r, q_send e 94 a b (xb_lushr x3 (8 * (x4 - k))) 0 t) else (r, q_send e 94 a b (xb_lushr (x3 &&& (xb_lshl 1 (8 * x4) - 1)) (8 * (x4 - k))) 0 t)) = (r, q_send e 94 a b (q_wd x3 x4 k) 0 t) := by
  unfold q_wd
  by_cases h : x4 = 8
  · rw [if_pos h, if_pos h]
  · rw [if_neg h, if_neg h]
theorem K_write (h : Rel σ τ) (x1 x2 : Int32) (x3 : Int64) (x4 : Int32) : k_Th (th_P_write Z x1 x2 x3 x4 σ) (p_write Z x1 x2 x3 x4 σ).1 σ (p_write Z x1 x2 x3 x4 σ).2 (q_write x1 x2 x3 x4 τ).1 (q_write x1 x2 x3 x4 τ).2 := by
  rcases ends x1 with ⟨B, e, hB, rfl⟩ | hn
  · have E := eot_some (Z := Z) (σ := σ) hB
    unfold th_P_write p_write q_write
    rw [if_pos E.2, xb_om_some E.1, xb_om_some E.1]
    by_cases a : ¬ x2 < 0 ∧ ¬ 2 < x2
    · obtain ⟨c, hc, rfl, h1, h2, h3⟩ := chan_yes hB a (σ := σ)
      have hQ := rQ_of hB hc
      have hC := h.Ch hQ
      rw [if_neg h2, clampE hB, h3]
      have m := may_is hB hQ h
      by_cases p4 : τ.1 4 e = 4
      · by_cases s2 : τ.1 28 (3 * e + c) = 2
        · rw [if_pos p4, if_pos s2] at m
          obtain ⟨u1, u2⟩ := uot_y h1 (by rw [m]; decide)
          rw [if_pos u2, xb_om_some u1, xb_om_some u1, if_pos p4, if_pos s2]
          by_cases c1 : x4 < 1
          · rw [if_pos c1, if_pos c1, if_pos c1]
            exact k_thr h (by decide) rfl
          · rw [if_neg c1, if_neg c1, if_neg c1]
            by_cases c8 : x4 ≤ 8
            · rw [if_pos c8, if_pos c8, if_pos c8]
              obtain ⟨n, n1, n8, rfl⟩ := w_1 c1 c8
              have h0 := Rel_thrown (v := 0) h
              have hs : ¬ (xb_si τ 0 0 0).1 28 (3 * e + c) = 0 := by rw [t0_i (by decide), s2]; decide
              unfold p_sendBytes
              rw [hC.wi]
              by_cases w1 : 1 ≤ τ.2 30 (3 * e + c)
              · rw [if_pos w1, if_pos w1]
                by_cases wn : (nI n).toInt64 ≤ τ.2 30 (3 * e + c)
                · have wl : ¬ τ.2 30 (3 * e + c) < (nI n).toInt64 := by
                    rw [Int64.lt_iff_toInt_lt]
                    rw [Int64.le_iff_toInt_le] at wn
                    omega
                  have z0 : ¬ nI n ≤ 0 := fun z => absurd ((nI_leI (b := 0) (by omega) (by decide)).mp z) (by omega)
                  rw [if_pos wn, if_neg z0, w_p, if_neg wl, nI_l (by omega), lN_i, ← nI_l (by omega)]
                  have R := Rel_wr hB hQ h0 hs (x3 := x3) n1 (Nat.le_refl n) n8
                  rw [hC.wi] at R
                  exact k_ok (send_0.trans (xb_i_l.trans xb_i_hit)) rfl R
                · obtain ⟨k, k1, kn, hk⟩ := w_2 w1 n8 wn
                  have wl : τ.2 30 (3 * e + c) < (nI n).toInt64 := by
                    rw [Int64.lt_iff_toInt_lt]
                    rw [Int64.le_iff_toInt_le] at wn
                    omega
                  have z0 : ¬ (τ.2 30 (3 * e + c)).toInt32 ≤ 0 := by
                    rw [hk, lN_i]
                    exact fun z => absurd ((nI_leI (b := 0) (by omega) (by decide)).mp z) (by omega)
                  have ek : (τ.2 30 (3 * e + c)).toInt32 = nI k := by rw [hk, lN_i]
                  rw [if_neg wn, if_neg z0, w_p, if_pos wl, ek]
                  have R := Rel_wr hB hQ h0 hs (x3 := x3) k1 kn n8
                  rw [hC.wi] at R
                  exact k_ok (send_0.trans (xb_i_l.trans xb_i_hit)) rfl R
              · rw [if_neg w1, if_neg w1]
                exact k_ok xb_i_hit rfl h0
            · rw [if_neg c8, if_neg c8, if_neg c8]
              exact k_thr h (by decide) rfl
        · rw [if_pos p4, if_neg s2] at m
          rw [if_neg (by rw [uot_2 h1 m]; decide), uot_2 h1 m, if_pos p4, if_neg s2]
          exact k_thr h (by decide) rfl
      · rw [if_neg p4] at m
        rw [if_neg (by rw [uot_2 h1 m]; decide), uot_2 h1 m, if_neg p4]
        exact k_thr h (by decide) rfl
    · obtain ⟨h1, h2⟩ := chan_no hB a (σ := σ)
      rw [if_neg (by rw [uot_n h1]; decide), uot_n h1, if_pos h2]
      exact k_thr h (by decide) rfl
  · have E := eot_none (Z := Z) (σ := σ) hn
    unfold th_P_write
    rw [if_neg (by rw [E]; decide), E]
    unfold q_write
    rw [if_pos (chan_nn hn)]
    exact k_thr h (by decide) rfl
end
