/-! What ties the program's state σ to the reference's τ. -/
theorem xb_ri {σ : xb_St} {K j K' j' : Nat} {v : Int32} : (xb_si σ K j v).1 K' j' = if K' = K then (if j' = j then v else σ.1 K' j') else σ.1 K' j' := by
  by_cases h : K' = K
  · subst h; simp [xb_si, xb_u2, va_up]
  · simp [xb_si, xb_u2, h]
theorem xb_rl {σ : xb_St} {K j K' j' : Nat} {v : Int64} : (xb_sl σ K j v).2 K' j' = if K' = K then (if j' = j then v else σ.2 K' j') else σ.2 K' j' := by
  by_cases h : K' = K
  · subst h; simp [xb_sl, xb_u2, va_up]
  · simp [xb_sl, xb_u2, h]
theorem xb_rc {σ : xb_St} {K a b k K' j' : Nat} : (xb_cp σ K a b k).2 K' j' = if K' = K then (if b ≤ j' ∧ j' < b + k then σ.2 K' (a + (j' - b)) else σ.2 K' j') else σ.2 K' j' := by
  by_cases h : K' = K
  · subst h; simp [xb_cp, va_cpy]
  · simp [xb_cp, h]
/-- a line: the packets that stand in it -/
def rL (e : Nat) (σ τ : xb_St) : Prop := ∃ n : Nat, n ≤ 16 ∧ σ.1 (1 + e) 1 = nI n ∧ τ.1 24 e = nI n ∧ ∀ k, k < n → σ.2 (3 + e) (6 * k) = (τ.1 25 (16 * e + k)).toInt64 ∧ (∀ j, j < 4 → σ.2 (3 + e) (6 * k + 1 + j) = τ.2 26 (4 * (16 * e + k) + j)) ∧ σ.2 (3 + e) (6 * k + 5) = τ.2 27 (16 * e + k)
/-- one direction's keys; K in the program, d and the number n in the reference -/
abbrev rK (K d : Nat) (n : Int32) (σ τ : xb_St) : Prop := (σ.1 K 0 = τ.1 17 d) ∧ (σ.1 K 5 = n) ∧ (¬ τ.1 17 d = 0 → σ.2 K 1 = τ.2 18 d) ∧ (¬ τ.1 17 d = 0 → σ.2 K 2 = τ.2 19 d) ∧ (σ.1 K 3 = if τ.1 17 d = 0 then 0 else τ.1 20 d) ∧ (σ.1 K 4 = if τ.1 17 d = 0 then 0 else τ.1 21 d)
theorem rK.on {K d : Nat} {n : Int32} {σ τ : xb_St} (h : rK K d n σ τ) : σ.1 K 0 = τ.1 17 d := h.1
theorem rK.num {K d : Nat} {n : Int32} {σ τ : xb_St} (h : rK K d n σ τ) : σ.1 K 5 = n := h.2.1
theorem rK.ck {K d : Nat} {n : Int32} {σ τ : xb_St} (h : rK K d n σ τ) : ¬ τ.1 17 d = 0 → σ.2 K 1 = τ.2 18 d := h.2.2.1
theorem rK.tk {K d : Nat} {n : Int32} {σ τ : xb_St} (h : rK K d n σ τ) : ¬ τ.1 17 d = 0 → σ.2 K 2 = τ.2 19 d := h.2.2.2.1
theorem rK.ci {K d : Nat} {n : Int32} {σ τ : xb_St} (h : rK K d n σ τ) : σ.1 K 3 = if τ.1 17 d = 0 then 0 else τ.1 20 d := h.2.2.2.2.1
theorem rK.ta {K d : Nat} {n : Int32} {σ τ : xb_St} (h : rK K d n σ τ) : σ.1 K 4 = if τ.1 17 d = 0 then 0 else τ.1 21 d := h.2.2.2.2.2
/-- a channel -/
abbrev rC (C q c : Nat) (σ τ : xb_St) : Prop := (σ.1 C 0 = nI c) ∧ (σ.1 C 2 = τ.1 28 q) ∧ (σ.2 C 3 = τ.2 29 q) ∧ (σ.2 C 4 = τ.2 30 q) ∧ (σ.1 C 5 = τ.1 31 q) ∧ (σ.1 C 7 = τ.1 32 q) ∧ (σ.1 C 8 = τ.1 33 q) ∧ (∃ f a b d : Nat, f < 24 ∧ a + b + d ≤ 24 ∧ σ.1 C 6 = nI f ∧ τ.1 31 q = nI a ∧ τ.1 32 q = nI b ∧ τ.1 33 q = nI d ∧ ∀ i, i < b → σ.1 (C + 3) ((f + i) % 24) = τ.1 34 (32 * q + i)) ∧ (τ.1 28 q = 0 → τ.2 29 q = 0 ∧ τ.2 30 q = 0 ∧ τ.1 31 q = 0 ∧ τ.1 32 q = 0 ∧ τ.1 33 q = 0)
theorem rC.ix {C q c : Nat} {σ τ : xb_St} (h : rC C q c σ τ) : σ.1 C 0 = nI c := h.1
theorem rC.st {C q c : Nat} {σ τ : xb_St} (h : rC C q c σ τ) : σ.1 C 2 = τ.1 28 q := h.2.1
theorem rC.pe {C q c : Nat} {σ τ : xb_St} (h : rC C q c σ τ) : σ.2 C 3 = τ.2 29 q := h.2.2.1
theorem rC.wi {C q c : Nat} {σ τ : xb_St} (h : rC C q c σ τ) : σ.2 C 4 = τ.2 30 q := h.2.2.2.1
theorem rC.ro {C q c : Nat} {σ τ : xb_St} (h : rC C q c σ τ) : σ.1 C 5 = τ.1 31 q := h.2.2.2.2.1
theorem rC.he {C q c : Nat} {σ τ : xb_St} (h : rC C q c σ τ) : σ.1 C 7 = τ.1 32 q := h.2.2.2.2.2.1
theorem rC.ta {C q c : Nat} {σ τ : xb_St} (h : rC C q c σ τ) : σ.1 C 8 = τ.1 33 q := h.2.2.2.2.2.2.1
theorem rC.nu {C q c : Nat} {σ τ : xb_St} (h : rC C q c σ τ) : ∃ f a b d : Nat, f < 24 ∧ a + b + d ≤ 24 ∧ σ.1 C 6 = nI f ∧ τ.1 31 q = nI a ∧ τ.1 32 q = nI b ∧ τ.1 33 q = nI d ∧ ∀ i, i < b → σ.1 (C + 3) ((f + i) % 24) = τ.1 34 (32 * q + i) := h.2.2.2.2.2.2.2.1
theorem rC.z {C q c : Nat} {σ τ : xb_St} (h : rC C q c σ τ) : τ.1 28 q = 0 → τ.2 29 q = 0 ∧ τ.2 30 q = 0 ∧ τ.1 31 q = 0 ∧ τ.1 32 q = 0 ∧ τ.1 33 q = 0 := h.2.2.2.2.2.2.2.2
/-- an endpoint: B in the program, e in the reference -/
abbrev rE (B e : Nat) (σ τ : xb_St) : Prop := (σ.1 B 9 = τ.1 4 e) ∧ (σ.2 B 10 = if τ.1 4 e = 5 then τ.2 5 e else 0) ∧ (σ.1 B 2 = nI (e + 1)) ∧ (σ.1 B 11 = τ.1 1 e) ∧ (¬ f_isList (τ.1 1 e).toInt64 = 0) ∧ (σ.1 B 12 = τ.1 2 e) ∧ (¬ f_isList (τ.1 2 e).toInt64 = 0) ∧ (σ.1 B 13 = τ.1 3 e) ∧ (σ.1 B 14 = τ.1 6 e) ∧ (σ.1 B 15 = τ.1 10 e) ∧ (σ.2 B 16 = τ.2 9 e) ∧ (τ.1 10 e = 0 → τ.2 9 e = 0) ∧ (τ.1 11 e = τ.1 17 (2 * e + 1)) ∧ (rK (B + 4) (2 * e) (τ.1 7 e) σ τ) ∧ (rK (B + 3) (2 * e + 1) (τ.1 8 e) σ τ) ∧ (σ.2 (B + 5) 2 = τ.2 13 e) ∧ (σ.2 (B + 6) 0 = τ.2 12 (6 * e) ∧ σ.2 (B + 6) 1 = τ.2 12 (6 * e + 1) ∧ σ.2 (B + 6) 2 = τ.2 12 (6 * e + 2)) ∧ (σ.2 (B + 7) 0 = τ.2 12 (6 * e + 3) ∧ σ.2 (B + 7) 1 = τ.2 12 (6 * e + 4) ∧ σ.2 (B + 7) 2 = τ.2 12 (6 * e + 5)) ∧ (τ.1 4 e = 1 → ¬ f_isList (τ.2 12 (9 * e + 1)) = 0 ∧ ¬ f_isList (τ.2 12 (9 * e + 2)) = 0) ∧ (τ.1 4 e = 2 ∨ τ.1 4 e = 3 → σ.1 (B + 5) 3 = τ.1 15 e ∧ σ.1 (B + 5) 4 = τ.1 16 e) ∧ (τ.1 4 e = 3 → τ.2 22 (2 * e + 1) = f_mix (f_mix (f_mix (f_mix 0 (σ.2 (B + 5) 5)) (σ.2 (B + 5) 6)) (3 - nI (e + 1)).toInt64) (τ.2 9 e) ∧ τ.2 23 (2 * e + 1) = f_mix (f_mix (f_mix (f_mix 0 (σ.2 (B + 5) 5)) (σ.2 (B + 5) 6)) (3 - nI (e + 1) + 2).toInt64) (τ.2 9 e)) ∧ (e = 0 → τ.1 4 e = 2 → τ.2 14 e = f_power 7 (τ.2 13 e))
theorem rE.ph {B e : Nat} {σ τ : xb_St} (h : rE B e σ τ) : σ.1 B 9 = τ.1 4 e := h.1
theorem rE.re {B e : Nat} {σ τ : xb_St} (h : rE B e σ τ) : σ.2 B 10 = if τ.1 4 e = 5 then τ.2 5 e else 0 := h.2.1
theorem rE.di {B e : Nat} {σ τ : xb_St} (h : rE B e σ τ) : σ.1 B 2 = nI (e + 1) := h.2.2.1
theorem rE.ci {B e : Nat} {σ τ : xb_St} (h : rE B e σ τ) : σ.1 B 11 = τ.1 1 e := h.2.2.2.1
theorem rE.cl {B e : Nat} {σ τ : xb_St} (h : rE B e σ τ) : ¬ f_isList (τ.1 1 e).toInt64 = 0 := h.2.2.2.2.1
theorem rE.ta {B e : Nat} {σ τ : xb_St} (h : rE B e σ τ) : σ.1 B 12 = τ.1 2 e := h.2.2.2.2.2.1
theorem rE.tl {B e : Nat} {σ τ : xb_St} (h : rE B e σ τ) : ¬ f_isList (τ.1 2 e).toInt64 = 0 := h.2.2.2.2.2.2.1
theorem rE.se {B e : Nat} {σ τ : xb_St} (h : rE B e σ τ) : σ.1 B 13 = τ.1 3 e := h.2.2.2.2.2.2.2.1
theorem rE.it {B e : Nat} {σ τ : xb_St} (h : rE B e σ τ) : σ.1 B 14 = τ.1 6 e := h.2.2.2.2.2.2.2.2.1
theorem rE.hs {B e : Nat} {σ τ : xb_St} (h : rE B e σ τ) : σ.1 B 15 = τ.1 10 e := h.2.2.2.2.2.2.2.2.2.1
theorem rE.ss {B e : Nat} {σ τ : xb_St} (h : rE B e σ τ) : σ.2 B 16 = τ.2 9 e := h.2.2.2.2.2.2.2.2.2.2.1
theorem rE.s0 {B e : Nat} {σ τ : xb_St} (h : rE B e σ τ) : τ.1 10 e = 0 → τ.2 9 e = 0 := h.2.2.2.2.2.2.2.2.2.2.2.1
theorem rE.tu {B e : Nat} {σ τ : xb_St} (h : rE B e σ τ) : τ.1 11 e = τ.1 17 (2 * e + 1) := h.2.2.2.2.2.2.2.2.2.2.2.2.1
theorem rE.ko {B e : Nat} {σ τ : xb_St} (h : rE B e σ τ) : rK (B + 4) (2 * e) (τ.1 7 e) σ τ := h.2.2.2.2.2.2.2.2.2.2.2.2.2.1
theorem rE.ki {B e : Nat} {σ τ : xb_St} (h : rE B e σ τ) : rK (B + 3) (2 * e + 1) (τ.1 8 e) σ τ := h.2.2.2.2.2.2.2.2.2.2.2.2.2.2.1
theorem rE.us {B e : Nat} {σ τ : xb_St} (h : rE B e σ τ) : σ.2 (B + 5) 2 = τ.2 13 e := h.2.2.2.2.2.2.2.2.2.2.2.2.2.2.2.1
theorem rE.oc {B e : Nat} {σ τ : xb_St} (h : rE B e σ τ) : σ.2 (B + 6) 0 = τ.2 12 (6 * e) ∧ σ.2 (B + 6) 1 = τ.2 12 (6 * e + 1) ∧ σ.2 (B + 6) 2 = τ.2 12 (6 * e + 2) := h.2.2.2.2.2.2.2.2.2.2.2.2.2.2.2.2.1
theorem rE.os {B e : Nat} {σ τ : xb_St} (h : rE B e σ τ) : σ.2 (B + 7) 0 = τ.2 12 (6 * e + 3) ∧ σ.2 (B + 7) 1 = τ.2 12 (6 * e + 4) ∧ σ.2 (B + 7) 2 = τ.2 12 (6 * e + 5) := h.2.2.2.2.2.2.2.2.2.2.2.2.2.2.2.2.2.1
theorem rE.ol {B e : Nat} {σ τ : xb_St} (h : rE B e σ τ) : τ.1 4 e = 1 → ¬ f_isList (τ.2 12 (9 * e + 1)) = 0 ∧ ¬ f_isList (τ.2 12 (9 * e + 2)) = 0 := h.2.2.2.2.2.2.2.2.2.2.2.2.2.2.2.2.2.2.1
theorem rE.ch {B e : Nat} {σ τ : xb_St} (h : rE B e σ τ) : τ.1 4 e = 2 ∨ τ.1 4 e = 3 → σ.1 (B + 5) 3 = τ.1 15 e ∧ σ.1 (B + 5) 4 = τ.1 16 e := h.2.2.2.2.2.2.2.2.2.2.2.2.2.2.2.2.2.2.2.1
theorem rE.nx {B e : Nat} {σ τ : xb_St} (h : rE B e σ τ) : τ.1 4 e = 3 → τ.2 22 (2 * e + 1) = f_mix (f_mix (f_mix (f_mix 0 (σ.2 (B + 5) 5)) (σ.2 (B + 5) 6)) (3 - nI (e + 1)).toInt64) (τ.2 9 e) ∧ τ.2 23 (2 * e + 1) = f_mix (f_mix (f_mix (f_mix 0 (σ.2 (B + 5) 5)) (σ.2 (B + 5) 6)) (3 - nI (e + 1) + 2).toInt64) (τ.2 9 e) := h.2.2.2.2.2.2.2.2.2.2.2.2.2.2.2.2.2.2.2.2.1
theorem rE.sh {B e : Nat} {σ τ : xb_St} (h : rE B e σ τ) : e = 0 → τ.1 4 e = 2 → τ.2 14 e = f_power 7 (τ.2 13 e) := h.2.2.2.2.2.2.2.2.2.2.2.2.2.2.2.2.2.2.2.2.2
def rG (σ τ : xb_St) : Prop := σ.1 5 17 = τ.1 0 5 ∧ (σ.1 20 17).toInt64 = τ.2 0 4
abbrev Rel (σ τ : xb_St) : Prop := (rL 0 σ τ) ∧ (rL 1 σ τ) ∧ (rE 5 0 σ τ) ∧ (rE 20 1 σ τ) ∧ (rC 14 0 0 σ τ) ∧ (rC 15 1 1 σ τ) ∧ (rC 16 2 2 σ τ) ∧ (rC 29 3 0 σ τ) ∧ (rC 30 4 1 σ τ) ∧ (rC 31 5 2 σ τ) ∧ (rG σ τ)
theorem Rel.l0 {σ τ : xb_St} (h : Rel σ τ) : rL 0 σ τ := h.1
theorem Rel.l1 {σ τ : xb_St} (h : Rel σ τ) : rL 1 σ τ := h.2.1
theorem Rel.e0 {σ τ : xb_St} (h : Rel σ τ) : rE 5 0 σ τ := h.2.2.1
theorem Rel.e1 {σ τ : xb_St} (h : Rel σ τ) : rE 20 1 σ τ := h.2.2.2.1
theorem Rel.c0 {σ τ : xb_St} (h : Rel σ τ) : rC 14 0 0 σ τ := h.2.2.2.2.1
theorem Rel.c1 {σ τ : xb_St} (h : Rel σ τ) : rC 15 1 1 σ τ := h.2.2.2.2.2.1
theorem Rel.c2 {σ τ : xb_St} (h : Rel σ τ) : rC 16 2 2 σ τ := h.2.2.2.2.2.2.1
theorem Rel.c3 {σ τ : xb_St} (h : Rel σ τ) : rC 29 3 0 σ τ := h.2.2.2.2.2.2.2.1
theorem Rel.c4 {σ τ : xb_St} (h : Rel σ τ) : rC 30 4 1 σ τ := h.2.2.2.2.2.2.2.2.1
theorem Rel.c5 {σ τ : xb_St} (h : Rel σ τ) : rC 31 5 2 σ τ := h.2.2.2.2.2.2.2.2.2.1
theorem Rel.g {σ τ : xb_St} (h : Rel σ τ) : rG σ τ := h.2.2.2.2.2.2.2.2.2.2
/-! frames: what a set elsewhere leaves -/
theorem rL_si {e K j : Nat} {v : Int32} {σ τ : xb_St} (h : K ≠ 1 + e) : rL e (xb_si σ K j v) τ = rL e σ τ := by
  have h' : 1 + e ≠ K := fun q => h q.symm
  simp [rL, xb_ri, xb_l_i, h']
theorem rL_sl {e K j : Nat} {v : Int64} {σ τ : xb_St} (h : K ≠ 3 + e) : rL e (xb_sl σ K j v) τ = rL e σ τ := by
  have h' : 3 + e ≠ K := fun q => h q.symm
  simp [rL, xb_rl, xb_i_l, h']
theorem rL_ti {e K j : Nat} {v : Int32} {σ τ : xb_St} (h : K ≠ 24 ∧ K ≠ 25) : rL e σ (xb_si τ K j v) = rL e σ τ := by
  have h1 : 24 ≠ K := fun q => h.1 q.symm
  have h2 : 25 ≠ K := fun q => h.2 q.symm
  simp [rL, xb_ri, xb_l_i, h1, h2]
theorem rL_tl {e K j : Nat} {v : Int64} {σ τ : xb_St} (h : K ≠ 26 ∧ K ≠ 27) : rL e σ (xb_sl τ K j v) = rL e σ τ := by
  have h1 : 26 ≠ K := fun q => h.1 q.symm
  have h2 : 27 ≠ K := fun q => h.2 q.symm
  simp [rL, xb_rl, xb_i_l, h1, h2]
theorem rL_same {e : Nat} {σ σ' τ τ' : xb_St} (h : rL e σ τ) (h1 : σ'.1 (1 + e) 1 = σ.1 (1 + e) 1) (h2 : ∀ j, j < 96 → σ'.2 (3 + e) j = σ.2 (3 + e) j) (h3 : τ'.1 24 e = τ.1 24 e) (h4 : ∀ k, k < 16 → τ'.1 25 (16 * e + k) = τ.1 25 (16 * e + k) ∧ τ'.2 27 (16 * e + k) = τ.2 27 (16 * e + k) ∧ ∀ j, j < 4 → τ'.2 26 (4 * (16 * e + k) + j) = τ.2 26 (4 * (16 * e + k) + j)) : rL e σ' τ' := by
  obtain ⟨n, hn, e1, e2, hk⟩ := h
  refine ⟨n, hn, h1.trans e1, h3.trans e2, fun k hk' => ?_⟩
  have q := hk k hk'
  have f := h4 k (by omega)
  refine ⟨?_, fun j hj => ?_, ?_⟩
  · rw [h2 _ (by omega), f.1]; exact q.1
  · rw [h2 _ (by omega), f.2.2 j hj]; exact q.2.1 j hj
  · rw [h2 _ (by omega), f.2.1]; exact q.2.2
theorem rC_same {C q c : Nat} {σ σ' τ τ' : xb_St} (h : rC C q c σ τ) (h1 : ∀ j, j < 9 → σ'.1 C j = σ.1 C j) (h2 : ∀ j, σ'.2 C j = σ.2 C j) (h3 : ∀ j, j < 24 → σ'.1 (C + 3) j = σ.1 (C + 3) j) (h4 : τ'.1 28 q = τ.1 28 q ∧ τ'.2 29 q = τ.2 29 q ∧ τ'.2 30 q = τ.2 30 q ∧ τ'.1 31 q = τ.1 31 q ∧ τ'.1 32 q = τ.1 32 q ∧ τ'.1 33 q = τ.1 33 q) (h5 : ∀ i, i < 24 → τ'.1 34 (32 * q + i) = τ.1 34 (32 * q + i)) : rC C q c σ' τ' := by
  obtain ⟨a1, a2, a3, a4, a5, a6⟩ := h4
  refine ⟨?_, ?_, ?_, ?_, ?_, ?_, ?_, ?_, ?_⟩
  · rw [h1 0 (by omega)]; exact h.ix
  · rw [h1 2 (by omega), a1]; exact h.st
  · rw [h2, a2]; exact h.pe
  · rw [h2, a3]; exact h.wi
  · rw [h1 5 (by omega), a4]; exact h.ro
  · rw [h1 7 (by omega), a5]; exact h.he
  · rw [h1 8 (by omega), a6]; exact h.ta
  · obtain ⟨f, a, b, d, hf, hs, e1, e2, e3, e4, hi⟩ := h.nu
    refine ⟨f, a, b, d, hf, hs, ?_, ?_, ?_, ?_, fun i hi' => ?_⟩
    · rw [h1 6 (by omega)]; exact e1
    · rw [a4]; exact e2
    · rw [a5]; exact e3
    · rw [a6]; exact e4
    · rw [h3 _ (Nat.mod_lt _ (by decide)), h5 i (by omega)]; exact hi i hi'
  · rw [a1, a2, a3, a4, a5, a6]; exact h.z
theorem rK_same {K d : Nat} {n n' : Int32} {σ σ' τ τ' : xb_St} (h : rK K d n σ τ) (h0 : σ'.1 K 0 = σ.1 K 0 ∧ σ'.1 K 3 = σ.1 K 3 ∧ σ'.1 K 4 = σ.1 K 4 ∧ σ'.2 K 1 = σ.2 K 1 ∧ σ'.2 K 2 = σ.2 K 2) (hn : σ'.1 K 5 = n') (h1 : τ'.1 17 d = τ.1 17 d ∧ τ'.2 18 d = τ.2 18 d ∧ τ'.2 19 d = τ.2 19 d ∧ τ'.1 20 d = τ.1 20 d ∧ τ'.1 21 d = τ.1 21 d) : rK K d n' σ' τ' := by
  obtain ⟨a0, a3, a4, a1, a2⟩ := h0
  obtain ⟨b0, b1, b2, b3, b4⟩ := h1
  refine ⟨?_, hn, ?_, ?_, ?_, ?_⟩
  · rw [a0, b0]; exact h.on
  · rw [b0, b1, a1]; exact h.ck
  · rw [b0, b2, a2]; exact h.tk
  · rw [b0, b3, a3]; exact h.ci
  · rw [b0, b4, a4]; exact h.ta
