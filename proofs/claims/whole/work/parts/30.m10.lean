def f_on : Nat → Nat → Int32 → Int64 → xb_St → xb_St
  | 0, _, _, _, σ => σ
  | n + 1, q1, j_, x5, σ => if j_ < 0 then σ else f_on n q1 (j_ + (-1 : Int32)) x5 (xb_si (xb_si σ 34 ((32 * q1) + (σ.1 32 q1).toNatClampNeg) ((xb_lushr x5 ((8 : Int32) * j_)).toInt32 &&& (255 : Int32))) 32 q1 ((σ.1 32 q1) + (1 : Int32)))
theorem f_on_s {n q1 : Nat} {j_ : Int32} {x5 : Int64} {σ : xb_St} : f_on (n + 1) q1 j_ x5 σ = if j_ < 0 then σ else f_on n q1 (j_ + (-1 : Int32)) x5 (xb_si (xb_si σ 34 ((32 * q1) + (σ.1 32 q1).toNatClampNeg) ((xb_lushr x5 ((8 : Int32) * j_)).toInt32 &&& (255 : Int32))) 32 q1 ((σ.1 32 q1) + (1 : Int32))) := rfl
def f_rd : Nat → Nat → Nat → xb_St → xb_St
  | 0, _, _, σ => σ
  | n + 1, q1, k, σ => f_rd n q1 (k + 1) (xb_si σ 34 ((32 * q1) + k) (σ.1 34 (((32 * q1) + k) + 1)))
theorem sm_nn0 {x : Int32} {n : Nat} (h : x = nI n) (hn : n < 2 ^ 31) : 0 ≤ x := by rw [h]; exact nI_pos' hn
theorem xb_nnI {x : Int32} (h : ¬ x < 0) : 0 ≤ x.toInt := by
  rw [Int32.lt_iff_toInt_lt] at h
  have : (0 : Int32).toInt = 0 := rfl
  omega
theorem sm_c2 {x : Int64} (h1 : ¬ x < 0) (h2 : ¬ 2 < x) : x.toInt32 = nI x.toInt32.toNatClampNeg ∧ x.toInt32.toNatClampNeg < 3 := by
  obtain ⟨n, hn, rfl⟩ := pk_lOf h1
  have := mt (pk_lLT (a := 2) (b := n) (by decide) hn).mpr h2
  rw [lN_i, nI_clamp (by omega)]
  exact ⟨rfl, by omega⟩
theorem sm_x8 {x : Int64} {r : Int32} {a : Nat} (h1 : ¬ x < 1) (h2 : ¬ 8 < x) (ha : a ≤ 24) (ea : r = nI a) (h3 : ¬ r.toInt64 < x) : ∃ k : Nat, 1 ≤ k ∧ k ≤ 8 ∧ k ≤ a ∧ x = lN k := by
  have h0 : ¬ x < 0 := by
    rw [Int64.lt_iff_toInt_lt] at h1 ⊢
    have e1 : (1 : Int64).toInt = 1 := rfl
    have e0 : (0 : Int64).toInt = 0 := rfl
    omega
  obtain ⟨n, hn, rfl⟩ := pk_lOf h0
  have hb1 := mt (pk_lLT (a := n) (b := 1) hn (by decide)).mpr h1
  have hb2 := mt (pk_lLT (a := 8) (b := n) (by decide) hn).mpr h2
  rw [ea, nI_l (by omega)] at h3
  have hb3 := mt (pk_lLT (a := a) (b := n) (by omega) hn).mpr h3
  exact ⟨n, by omega, by omega, by omega, rfl⟩
theorem sm_j8 {x : Int64} {k : Nat} (ex : x = lN k) (h1 : 1 ≤ k) (h8 : k ≤ 8) : (x.toInt32 - (1 : Int32)).toInt = (k : Int) - 1 := by
  rw [ex, lN_i, xb_ns (xb_lit k rfl) (xb_lit (x := (1 : Int32)) 1 rfl) h1, nI_toInt (by omega)]
  omega
theorem mk_gen {σ σ' : xb_St} {q : Nat} (h : sm_ok σ) (h24 : ∀ e, σ'.1 24 e = σ.1 24 e) (ho : ∀ k, k ≠ q → σ'.1 31 k = σ.1 31 k ∧ σ'.1 32 k = σ.1 32 k ∧ σ'.1 33 k = σ.1 33 k) (hq : ∃ a b c : Nat, a + b + c ≤ 24 ∧ σ'.1 31 q = nI a ∧ σ'.1 32 q = nI b ∧ σ'.1 33 q = nI c) : sm_ok σ' := by
  refine ⟨fun e he => ?_, fun k hk => ?_⟩
  · rw [h24]; exact h.1 e he
  · by_cases e : k = q
    · subst e; exact hq
    · obtain ⟨a, b, c⟩ := ho k e
      rw [a, b, c]; exact h.2 k hk
theorem mk_sub {S : xb_St} {q a k : Nat} {x : Int64} (h : sm_ok S) (hq : q < 6) (ex : x = lN k) (hk : k ≤ a) (ha : a ≤ 24) (ea : S.1 31 q = nI a) : sm_ok (xb_si S 31 q (S.1 31 q - x.toInt32)) := by
  obtain ⟨a', b, c, hs, e1, e2, e3⟩ := h.2 q hq
  have : a = a' := (nI_eq (by omega) (by omega)).mp (ea.symm.trans e1)
  subst this
  refine mk_gen (q := q) h (fun e => xb_i_nk (by decide)) (fun k hk => ⟨xb_i_nj hk, xb_i_nk (by decide), xb_i_nk (by decide)⟩) ⟨a - k, b, c, by omega, ?_, by rw [xb_i_nk (by decide)]; exact e2, by rw [xb_i_nk (by decide)]; exact e3⟩
  rw [xb_i_hit, ea, ex, lN_i]; exact xb_ns (xb_lit a rfl) (xb_lit k rfl) hk
theorem ok_f_on {q : Nat} (hq : q < 6) {x5 : Int64} : ∀ (n : Nat) (j : Int32) (σ : xb_St) (a b d : Nat), sm_ok σ → σ.1 31 q = nI a → σ.1 32 q = nI b → σ.1 33 q = nI d → ((a : Int) + b + d) + (j.toInt + 1) ≤ 24 → sm_ok (f_on n q j x5 σ) := by
  intro n
  induction n with
  | zero => intro j σ a b d ok _ _ _ _; exact ok
  | succ n ih =>
    intro j σ a b d ok ha hb hd hle
    rw [f_on_s]
    split
    · exact ok
    · rename_i h
      have hj := xb_nnI h
      refine ih _ _ a (b + 1) d ?_ ?_ ?_ ?_ ?_
      · refine mk_gen (q := q) ok (fun e => ?_) (fun k hk => ⟨?_, ?_, ?_⟩) ⟨a, b + 1, d, by omega, ?_, ?_, ?_⟩
        · rw [xb_i_nk (by decide), xb_i_nk (by decide)]
        · rw [xb_i_nk (by decide), xb_i_nk (by decide)]
        · rw [xb_i_nj hk, xb_i_nk (by decide)]
        · rw [xb_i_nk (by decide), xb_i_nk (by decide)]
        · rw [xb_i_nk (by decide), xb_i_nk (by decide)]; exact ha
        · rw [xb_i_hit, hb]; exact nI_1 b
        · rw [xb_i_nk (by decide), xb_i_nk (by decide)]; exact hd
      · rw [xb_i_nk (by decide), xb_i_nk (by decide)]; exact ha
      · rw [xb_i_hit, hb]; exact nI_1 b
      · rw [xb_i_nk (by decide), xb_i_nk (by decide)]; exact hd
      · rw [xb_dec h]; omega
theorem ok_f_rd {q : Nat} : ∀ (n k : Nat) {σ : xb_St}, sm_ok σ → sm_ok (f_rd n q k σ) := by
  intro n
  induction n with
  | zero => intro k σ ok; exact ok
  | succ n ih => intro k σ ok; exact ih (k + 1) (mk_si ok (by decide))
theorem mk_byte {S : xb_St} {q : Nat} (h : sm_ok S) (hq : q < 6) (hn : ¬ S.1 32 q ≤ 0) : sm_ok (xb_si (xb_si S 32 q (S.1 32 q - (1 : Int32))) 33 q (S.1 33 q + (1 : Int32))) := by
  obtain ⟨a, b, c, hs, e1, e2, e3⟩ := h.2 q hq
  have hb := mt (xb_leN e2 (xb_lit (x := (0 : Int32)) 0 rfl) (by omega) (by decide)).mpr hn
  refine mk_gen (q := q) h (fun e => by rw [xb_i_nk (by decide), xb_i_nk (by decide)]) (fun k hk => ⟨by rw [xb_i_nk (by decide), xb_i_nk (by decide)], by rw [xb_i_nk (by decide), xb_i_nj hk], by rw [xb_i_nj hk, xb_i_nk (by decide)]⟩) ⟨a, b - 1, c + 1, by omega, ?_, ?_, ?_⟩
  · rw [xb_i_nk (by decide), xb_i_nk (by decide)]; exact e1
  · rw [xb_i_nk (by decide), xb_i_hit, e2]; exact xb_ns (xb_lit b rfl) (xb_lit (x := (1 : Int32)) 1 rfl) (by omega)
  · rw [xb_i_hit, e3]; exact nI_1 c
theorem mk_tr {S : xb_St} {q : Nat} (h : sm_ok S) (hq : q < 6) : sm_ok (xb_si (xb_si S 33 q (0 : Int32)) 31 q (S.1 31 q + S.1 33 q)) := by
  obtain ⟨a, b, c, hs, e1, e2, e3⟩ := h.2 q hq
  refine mk_gen (q := q) h (fun e => by rw [xb_i_nk (by decide), xb_i_nk (by decide)]) (fun k hk => ⟨by rw [xb_i_nj hk, xb_i_nk (by decide)], by rw [xb_i_nk (by decide), xb_i_nk (by decide)], by rw [xb_i_nk (by decide), xb_i_nj hk]⟩) ⟨a + c, b, 0, by omega, ?_, ?_, ?_⟩
  · rw [xb_i_hit, e1, e3]; exact nI_add a c
  · rw [xb_i_nk (by decide), xb_i_nk (by decide)]; exact e2
  · rw [xb_i_nk (by decide), xb_i_hit]; rfl
abbrev b_M_onChannel : ByteArray := prog_12_method_32_code
def y_M_onChannel : MethodName := ⟨"SecurePairModel", "onChannel", "(IIJJJ)V"⟩
abbrev w_M_onChannel : List Cond := .code y_M_onChannel b_M_onChannel 14 none :: xa
theorem d_M_onChannel_0 : decode b_M_onChannel 0 = .ok (.lload_n 3, 1) := by decide +kernel
theorem d_M_onChannel_1 : decode b_M_onChannel 1 = .ok (.lconst 0, 1) := by decide +kernel
theorem d_M_onChannel_2 : decode b_M_onChannel 2 = .ok (.lcmp, 1) := by decide +kernel
theorem d_M_onChannel_3 : decode b_M_onChannel 3 = .ok (.ifCond .lt 20, 3) := by decide +kernel
theorem d_M_onChannel_6 : decode b_M_onChannel 6 = .ok (.lload_n 3, 1) := by decide +kernel
theorem d_M_onChannel_7 : decode b_M_onChannel 7 = .ok (.ldc2_w 134, 3) := by decide +kernel
theorem d_M_onChannel_10 : decode b_M_onChannel 10 = .ok (.lcmp, 1) := by decide +kernel
theorem d_M_onChannel_11 : decode b_M_onChannel 11 = .ok (.ifCond .gt 12, 3) := by decide +kernel
theorem d_M_onChannel_14 : decode b_M_onChannel 14 = .ok (.iconst 3, 1) := by decide +kernel
theorem d_M_onChannel_15 : decode b_M_onChannel 15 = .ok (.iload_n 1, 1) := by decide +kernel
theorem d_M_onChannel_16 : decode b_M_onChannel 16 = .ok (.imul, 1) := by decide +kernel
theorem d_M_onChannel_17 : decode b_M_onChannel 17 = .ok (.lload_n 3, 1) := by decide +kernel
theorem d_M_onChannel_18 : decode b_M_onChannel 18 = .ok (.l2i, 1) := by decide +kernel
theorem d_M_onChannel_19 : decode b_M_onChannel 19 = .ok (.iadd, 1) := by decide +kernel
theorem d_M_onChannel_20 : decode b_M_onChannel 20 = .ok (.goto 4, 3) := by decide +kernel
theorem d_M_onChannel_23 : decode b_M_onChannel 23 = .ok (.iconst (-1), 1) := by decide +kernel
theorem d_M_onChannel_24 : decode b_M_onChannel 24 = .ok (.istore 9, 2) := by decide +kernel
theorem d_M_onChannel_26 : decode b_M_onChannel 26 = .ok (.iload 9, 2) := by decide +kernel
theorem d_M_onChannel_28 : decode b_M_onChannel 28 = .ok (.ifCond .ge 7, 3) := by decide +kernel
theorem d_M_onChannel_31 : decode b_M_onChannel 31 = .ok (.iconst 0, 1) := by decide +kernel
theorem d_M_onChannel_32 : decode b_M_onChannel 32 = .ok (.goto 10, 3) := by decide +kernel
theorem d_M_onChannel_35 : decode b_M_onChannel 35 = .ok (.aload_n 0, 1) := by decide +kernel
theorem d_M_onChannel_36 : decode b_M_onChannel 36 = .ok (.getfield 99, 3) := by decide +kernel
theorem d_M_onChannel_39 : decode b_M_onChannel 39 = .ok (.iload 9, 2) := by decide +kernel
theorem d_M_onChannel_41 : decode b_M_onChannel 41 = .ok (.iaload, 1) := by decide +kernel
theorem d_M_onChannel_42 : decode b_M_onChannel 42 = .ok (.istore 10, 2) := by decide +kernel
theorem d_M_onChannel_44 : decode b_M_onChannel 44 = .ok (.iload 10, 2) := by decide +kernel
theorem d_M_onChannel_46 : decode b_M_onChannel 46 = .ok (.iconst 1, 1) := by decide +kernel
theorem d_M_onChannel_47 : decode b_M_onChannel 47 = .ok (.if_icmp .ne 7, 3) := by decide +kernel
theorem d_M_onChannel_50 : decode b_M_onChannel 50 = .ok (.iconst 1, 1) := by decide +kernel
theorem d_M_onChannel_51 : decode b_M_onChannel 51 = .ok (.goto 4, 3) := by decide +kernel
theorem d_M_onChannel_54 : decode b_M_onChannel 54 = .ok (.iconst 0, 1) := by decide +kernel
theorem d_M_onChannel_55 : decode b_M_onChannel 55 = .ok (.istore 11, 2) := by decide +kernel
theorem d_M_onChannel_57 : decode b_M_onChannel 57 = .ok (.iload 10, 2) := by decide +kernel
theorem d_M_onChannel_59 : decode b_M_onChannel 59 = .ok (.iconst 2, 1) := by decide +kernel
theorem d_M_onChannel_60 : decode b_M_onChannel 60 = .ok (.if_icmp .eq 9, 3) := by decide +kernel
theorem d_M_onChannel_63 : decode b_M_onChannel 63 = .ok (.iload 10, 2) := by decide +kernel
theorem d_M_onChannel_65 : decode b_M_onChannel 65 = .ok (.iconst 3, 1) := by decide +kernel
theorem d_M_onChannel_66 : decode b_M_onChannel 66 = .ok (.if_icmp .ne 7, 3) := by decide +kernel
theorem d_M_onChannel_69 : decode b_M_onChannel 69 = .ok (.iconst 1, 1) := by decide +kernel
theorem d_M_onChannel_70 : decode b_M_onChannel 70 = .ok (.goto 4, 3) := by decide +kernel
theorem d_M_onChannel_73 : decode b_M_onChannel 73 = .ok (.iconst 0, 1) := by decide +kernel
theorem d_M_onChannel_74 : decode b_M_onChannel 74 = .ok (.istore 12, 2) := by decide +kernel
theorem d_M_onChannel_76 : decode b_M_onChannel 76 = .ok (.iload_n 2, 1) := by decide +kernel
theorem d_M_onChannel_77 : decode b_M_onChannel 77 = .ok (.bipush 91, 2) := by decide +kernel
theorem d_M_onChannel_79 : decode b_M_onChannel 79 = .ok (.if_icmp .ne 37, 3) := by decide +kernel
theorem d_M_onChannel_82 : decode b_M_onChannel 82 = .ok (.iload 11, 2) := by decide +kernel
theorem d_M_onChannel_84 : decode b_M_onChannel 84 = .ok (.ifCond .eq 32, 3) := by decide +kernel
theorem d_M_onChannel_87 : decode b_M_onChannel 87 = .ok (.aload_n 0, 1) := by decide +kernel
theorem d_M_onChannel_88 : decode b_M_onChannel 88 = .ok (.getfield 99, 3) := by decide +kernel
theorem d_M_onChannel_91 : decode b_M_onChannel 91 = .ok (.iload 9, 2) := by decide +kernel
theorem d_M_onChannel_93 : decode b_M_onChannel 93 = .ok (.iconst 2, 1) := by decide +kernel
theorem d_M_onChannel_94 : decode b_M_onChannel 94 = .ok (.iastore, 1) := by decide +kernel
theorem d_M_onChannel_95 : decode b_M_onChannel 95 = .ok (.aload_n 0, 1) := by decide +kernel
theorem d_M_onChannel_96 : decode b_M_onChannel 96 = .ok (.getfield 102, 3) := by decide +kernel
theorem d_M_onChannel_99 : decode b_M_onChannel 99 = .ok (.iload 9, 2) := by decide +kernel
theorem d_M_onChannel_101 : decode b_M_onChannel 101 = .ok (.lload 5, 2) := by decide +kernel
theorem d_M_onChannel_103 : decode b_M_onChannel 103 = .ok (.lastore, 1) := by decide +kernel
theorem d_M_onChannel_104 : decode b_M_onChannel 104 = .ok (.aload_n 0, 1) := by decide +kernel
theorem d_M_onChannel_105 : decode b_M_onChannel 105 = .ok (.getfield 105, 3) := by decide +kernel
theorem d_M_onChannel_108 : decode b_M_onChannel 108 = .ok (.iload 9, 2) := by decide +kernel
theorem d_M_onChannel_110 : decode b_M_onChannel 110 = .ok (.lload 7, 2) := by decide +kernel
theorem d_M_onChannel_112 : decode b_M_onChannel 112 = .ok (.lastore, 1) := by decide +kernel
theorem d_M_onChannel_113 : decode b_M_onChannel 113 = .ok (.goto 239, 3) := by decide +kernel
theorem d_M_onChannel_116 : decode b_M_onChannel 116 = .ok (.iload_n 2, 1) := by decide +kernel
theorem d_M_onChannel_117 : decode b_M_onChannel 117 = .ok (.bipush 92, 2) := by decide +kernel
theorem d_M_onChannel_119 : decode b_M_onChannel 119 = .ok (.if_icmp .ne 17, 3) := by decide +kernel
theorem d_M_onChannel_122 : decode b_M_onChannel 122 = .ok (.iload 11, 2) := by decide +kernel
theorem d_M_onChannel_124 : decode b_M_onChannel 124 = .ok (.ifCond .eq 12, 3) := by decide +kernel
theorem d_M_onChannel_127 : decode b_M_onChannel 127 = .ok (.aload_n 0, 1) := by decide +kernel
theorem d_M_onChannel_128 : decode b_M_onChannel 128 = .ok (.iload 9, 2) := by decide +kernel
theorem d_M_onChannel_130 : decode b_M_onChannel 130 = .ok (.invokevirtual 251, 3) := by decide +kernel
theorem d_M_onChannel_133 : decode b_M_onChannel 133 = .ok (.goto 219, 3) := by decide +kernel
theorem d_M_onChannel_136 : decode b_M_onChannel 136 = .ok (.iload_n 2, 1) := by decide +kernel
theorem d_M_onChannel_137 : decode b_M_onChannel 137 = .ok (.bipush 94, 2) := by decide +kernel
theorem d_M_onChannel_139 : decode b_M_onChannel 139 = .ok (.if_icmp .ne 120, 3) := by decide +kernel
theorem d_M_onChannel_142 : decode b_M_onChannel 142 = .ok (.iload 12, 2) := by decide +kernel
theorem d_M_onChannel_144 : decode b_M_onChannel 144 = .ok (.ifCond .eq 115, 3) := by decide +kernel
theorem d_M_onChannel_147 : decode b_M_onChannel 147 = .ok (.lload 5, 2) := by decide +kernel
theorem d_M_onChannel_149 : decode b_M_onChannel 149 = .ok (.lconst 1, 1) := by decide +kernel
theorem d_M_onChannel_150 : decode b_M_onChannel 150 = .ok (.lcmp, 1) := by decide +kernel
theorem d_M_onChannel_151 : decode b_M_onChannel 151 = .ok (.ifCond .lt 108, 3) := by decide +kernel
theorem d_M_onChannel_154 : decode b_M_onChannel 154 = .ok (.lload 5, 2) := by decide +kernel
theorem d_M_onChannel_156 : decode b_M_onChannel 156 = .ok (.ldc2_w 256, 3) := by decide +kernel
theorem d_M_onChannel_159 : decode b_M_onChannel 159 = .ok (.lcmp, 1) := by decide +kernel
theorem d_M_onChannel_160 : decode b_M_onChannel 160 = .ok (.ifCond .gt 99, 3) := by decide +kernel
theorem d_M_onChannel_163 : decode b_M_onChannel 163 = .ok (.lload 5, 2) := by decide +kernel
theorem d_M_onChannel_165 : decode b_M_onChannel 165 = .ok (.aload_n 0, 1) := by decide +kernel
theorem d_M_onChannel_166 : decode b_M_onChannel 166 = .ok (.getfield 108, 3) := by decide +kernel
theorem d_M_onChannel_169 : decode b_M_onChannel 169 = .ok (.iload 9, 2) := by decide +kernel
theorem d_M_onChannel_171 : decode b_M_onChannel 171 = .ok (.iaload, 1) := by decide +kernel
theorem d_M_onChannel_172 : decode b_M_onChannel 172 = .ok (.i2l, 1) := by decide +kernel
theorem d_M_onChannel_173 : decode b_M_onChannel 173 = .ok (.lcmp, 1) := by decide +kernel
theorem d_M_onChannel_174 : decode b_M_onChannel 174 = .ok (.ifCond .gt 85, 3) := by decide +kernel
theorem d_M_onChannel_177 : decode b_M_onChannel 177 = .ok (.aload_n 0, 1) := by decide +kernel
theorem d_M_onChannel_178 : decode b_M_onChannel 178 = .ok (.getfield 108, 3) := by decide +kernel
theorem d_M_onChannel_181 : decode b_M_onChannel 181 = .ok (.iload 9, 2) := by decide +kernel
theorem d_M_onChannel_183 : decode b_M_onChannel 183 = .ok (.dup2, 1) := by decide +kernel
theorem d_M_onChannel_184 : decode b_M_onChannel 184 = .ok (.iaload, 1) := by decide +kernel
theorem d_M_onChannel_185 : decode b_M_onChannel 185 = .ok (.lload 5, 2) := by decide +kernel
theorem d_M_onChannel_187 : decode b_M_onChannel 187 = .ok (.l2i, 1) := by decide +kernel
theorem d_M_onChannel_188 : decode b_M_onChannel 188 = .ok (.isub, 1) := by decide +kernel
theorem d_M_onChannel_189 : decode b_M_onChannel 189 = .ok (.iastore, 1) := by decide +kernel
theorem d_M_onChannel_190 : decode b_M_onChannel 190 = .ok (.lload 5, 2) := by decide +kernel
theorem d_M_onChannel_192 : decode b_M_onChannel 192 = .ok (.l2i, 1) := by decide +kernel
theorem d_M_onChannel_193 : decode b_M_onChannel 193 = .ok (.iconst 1, 1) := by decide +kernel
theorem d_M_onChannel_194 : decode b_M_onChannel 194 = .ok (.isub, 1) := by decide +kernel
theorem d_M_onChannel_195 : decode b_M_onChannel 195 = .ok (.istore 13, 2) := by decide +kernel
theorem d_M_onChannel_197 : decode b_M_onChannel 197 = .ok (.iload 13, 2) := by decide +kernel
theorem d_M_onChannel_199 : decode b_M_onChannel 199 = .ok (.ifCond .lt 57, 3) := by decide +kernel
theorem d_M_onChannel_202 : decode b_M_onChannel 202 = .ok (.iload 10, 2) := by decide +kernel
theorem d_M_onChannel_204 : decode b_M_onChannel 204 = .ok (.iconst 2, 1) := by decide +kernel
theorem d_M_onChannel_205 : decode b_M_onChannel 205 = .ok (.if_icmp .ne 51, 3) := by decide +kernel
theorem d_M_onChannel_208 : decode b_M_onChannel 208 = .ok (.aload_n 0, 1) := by decide +kernel
theorem d_M_onChannel_209 : decode b_M_onChannel 209 = .ok (.getfield 117, 3) := by decide +kernel
theorem d_M_onChannel_212 : decode b_M_onChannel 212 = .ok (.bipush 32, 2) := by decide +kernel
theorem d_M_onChannel_214 : decode b_M_onChannel 214 = .ok (.iload 9, 2) := by decide +kernel
theorem d_M_onChannel_216 : decode b_M_onChannel 216 = .ok (.imul, 1) := by decide +kernel
theorem d_M_onChannel_217 : decode b_M_onChannel 217 = .ok (.aload_n 0, 1) := by decide +kernel
theorem d_M_onChannel_218 : decode b_M_onChannel 218 = .ok (.getfield 111, 3) := by decide +kernel
theorem d_M_onChannel_221 : decode b_M_onChannel 221 = .ok (.iload 9, 2) := by decide +kernel
theorem d_M_onChannel_223 : decode b_M_onChannel 223 = .ok (.iaload, 1) := by decide +kernel
theorem d_M_onChannel_224 : decode b_M_onChannel 224 = .ok (.iadd, 1) := by decide +kernel
theorem d_M_onChannel_225 : decode b_M_onChannel 225 = .ok (.lload 7, 2) := by decide +kernel
theorem d_M_onChannel_227 : decode b_M_onChannel 227 = .ok (.bipush 8, 2) := by decide +kernel
theorem d_M_onChannel_229 : decode b_M_onChannel 229 = .ok (.iload 13, 2) := by decide +kernel
theorem d_M_onChannel_231 : decode b_M_onChannel 231 = .ok (.imul, 1) := by decide +kernel
theorem d_M_onChannel_232 : decode b_M_onChannel 232 = .ok (.lushr, 1) := by decide +kernel
theorem d_M_onChannel_233 : decode b_M_onChannel 233 = .ok (.l2i, 1) := by decide +kernel
theorem d_M_onChannel_234 : decode b_M_onChannel 234 = .ok (.sipush 255, 3) := by decide +kernel
theorem d_M_onChannel_237 : decode b_M_onChannel 237 = .ok (.iand, 1) := by decide +kernel
theorem d_M_onChannel_238 : decode b_M_onChannel 238 = .ok (.iastore, 1) := by decide +kernel
theorem d_M_onChannel_239 : decode b_M_onChannel 239 = .ok (.aload_n 0, 1) := by decide +kernel
theorem d_M_onChannel_240 : decode b_M_onChannel 240 = .ok (.getfield 111, 3) := by decide +kernel
theorem d_M_onChannel_243 : decode b_M_onChannel 243 = .ok (.iload 9, 2) := by decide +kernel
theorem d_M_onChannel_245 : decode b_M_onChannel 245 = .ok (.dup2, 1) := by decide +kernel
theorem d_M_onChannel_246 : decode b_M_onChannel 246 = .ok (.iaload, 1) := by decide +kernel
theorem d_M_onChannel_247 : decode b_M_onChannel 247 = .ok (.iconst 1, 1) := by decide +kernel
theorem d_M_onChannel_248 : decode b_M_onChannel 248 = .ok (.iadd, 1) := by decide +kernel
theorem d_M_onChannel_249 : decode b_M_onChannel 249 = .ok (.iastore, 1) := by decide +kernel
theorem d_M_onChannel_250 : decode b_M_onChannel 250 = .ok (.iinc 13 (-1), 3) := by decide +kernel
theorem d_M_onChannel_253 : decode b_M_onChannel 253 = .ok (.goto (-56), 3) := by decide +kernel
theorem d_M_onChannel_256 : decode b_M_onChannel 256 = .ok (.goto 96, 3) := by decide +kernel
theorem d_M_onChannel_259 : decode b_M_onChannel 259 = .ok (.iload_n 2, 1) := by decide +kernel
theorem d_M_onChannel_260 : decode b_M_onChannel 260 = .ok (.bipush 93, 2) := by decide +kernel
theorem d_M_onChannel_262 : decode b_M_onChannel 262 = .ok (.if_icmp .ne 39, 3) := by decide +kernel
theorem d_M_onChannel_265 : decode b_M_onChannel 265 = .ok (.iload 12, 2) := by decide +kernel
theorem d_M_onChannel_267 : decode b_M_onChannel 267 = .ok (.ifCond .eq 34, 3) := by decide +kernel
theorem d_M_onChannel_270 : decode b_M_onChannel 270 = .ok (.lload 5, 2) := by decide +kernel
theorem d_M_onChannel_272 : decode b_M_onChannel 272 = .ok (.lconst 1, 1) := by decide +kernel
theorem d_M_onChannel_273 : decode b_M_onChannel 273 = .ok (.lcmp, 1) := by decide +kernel
theorem d_M_onChannel_274 : decode b_M_onChannel 274 = .ok (.ifCond .lt 27, 3) := by decide +kernel
theorem d_M_onChannel_277 : decode b_M_onChannel 277 = .ok (.lload 5, 2) := by decide +kernel
theorem d_M_onChannel_279 : decode b_M_onChannel 279 = .ok (.ldc2_w 258, 3) := by decide +kernel
theorem d_M_onChannel_282 : decode b_M_onChannel 282 = .ok (.lcmp, 1) := by decide +kernel
theorem d_M_onChannel_283 : decode b_M_onChannel 283 = .ok (.ifCond .gt 18, 3) := by decide +kernel
theorem d_M_onChannel_286 : decode b_M_onChannel 286 = .ok (.aload_n 0, 1) := by decide +kernel
theorem d_M_onChannel_287 : decode b_M_onChannel 287 = .ok (.getfield 105, 3) := by decide +kernel
theorem d_M_onChannel_290 : decode b_M_onChannel 290 = .ok (.iload 9, 2) := by decide +kernel
theorem d_M_onChannel_292 : decode b_M_onChannel 292 = .ok (.dup2, 1) := by decide +kernel
theorem d_M_onChannel_293 : decode b_M_onChannel 293 = .ok (.laload, 1) := by decide +kernel
theorem d_M_onChannel_294 : decode b_M_onChannel 294 = .ok (.lload 5, 2) := by decide +kernel
theorem d_M_onChannel_296 : decode b_M_onChannel 296 = .ok (.ladd, 1) := by decide +kernel
theorem d_M_onChannel_297 : decode b_M_onChannel 297 = .ok (.lastore, 1) := by decide +kernel
theorem d_M_onChannel_298 : decode b_M_onChannel 298 = .ok (.goto 54, 3) := by decide +kernel
theorem d_M_onChannel_301 : decode b_M_onChannel 301 = .ok (.iload_n 2, 1) := by decide +kernel
theorem d_M_onChannel_302 : decode b_M_onChannel 302 = .ok (.bipush 97, 2) := by decide +kernel
theorem d_M_onChannel_304 : decode b_M_onChannel 304 = .ok (.if_icmp .ne 40, 3) := by decide +kernel
theorem d_M_onChannel_307 : decode b_M_onChannel 307 = .ok (.iload 12, 2) := by decide +kernel
theorem d_M_onChannel_309 : decode b_M_onChannel 309 = .ok (.ifCond .eq 35, 3) := by decide +kernel
theorem d_M_onChannel_312 : decode b_M_onChannel 312 = .ok (.iload 10, 2) := by decide +kernel
theorem d_M_onChannel_314 : decode b_M_onChannel 314 = .ok (.iconst 2, 1) := by decide +kernel
theorem d_M_onChannel_315 : decode b_M_onChannel 315 = .ok (.if_icmp .ne 20, 3) := by decide +kernel
theorem d_M_onChannel_318 : decode b_M_onChannel 318 = .ok (.aload_n 0, 1) := by decide +kernel
theorem d_M_onChannel_319 : decode b_M_onChannel 319 = .ok (.iload_n 1, 1) := by decide +kernel
theorem d_M_onChannel_320 : decode b_M_onChannel 320 = .ok (.bipush 97, 2) := by decide +kernel
theorem d_M_onChannel_322 : decode b_M_onChannel 322 = .ok (.aload_n 0, 1) := by decide +kernel
theorem d_M_onChannel_323 : decode b_M_onChannel 323 = .ok (.getfield 102, 3) := by decide +kernel
theorem d_M_onChannel_326 : decode b_M_onChannel 326 = .ok (.iload 9, 2) := by decide +kernel
theorem d_M_onChannel_328 : decode b_M_onChannel 328 = .ok (.laload, 1) := by decide +kernel
theorem d_M_onChannel_329 : decode b_M_onChannel 329 = .ok (.lconst 0, 1) := by decide +kernel
theorem d_M_onChannel_330 : decode b_M_onChannel 330 = .ok (.lconst 0, 1) := by decide +kernel
theorem d_M_onChannel_331 : decode b_M_onChannel 331 = .ok (.lconst 0, 1) := by decide +kernel
theorem d_M_onChannel_332 : decode b_M_onChannel 332 = .ok (.invokevirtual 165, 3) := by decide +kernel
theorem d_M_onChannel_335 : decode b_M_onChannel 335 = .ok (.aload_n 0, 1) := by decide +kernel
theorem d_M_onChannel_336 : decode b_M_onChannel 336 = .ok (.iload 9, 2) := by decide +kernel
theorem d_M_onChannel_338 : decode b_M_onChannel 338 = .ok (.invokevirtual 251, 3) := by decide +kernel
theorem d_M_onChannel_341 : decode b_M_onChannel 341 = .ok (.goto 11, 3) := by decide +kernel
theorem d_M_onChannel_344 : decode b_M_onChannel 344 = .ok (.aload_n 0, 1) := by decide +kernel
theorem d_M_onChannel_345 : decode b_M_onChannel 345 = .ok (.iload_n 1, 1) := by decide +kernel
theorem d_M_onChannel_346 : decode b_M_onChannel 346 = .ok (.ldc2_w 146, 3) := by decide +kernel
theorem d_M_onChannel_349 : decode b_M_onChannel 349 = .ok (.invokevirtual 181, 3) := by decide +kernel
theorem d_M_onChannel_352 : decode b_M_onChannel 352 = .ok (.return_, 1) := by decide +kernel
theorem xw988 : (Cond.fieldLink "SecurePairModel" (117 : Nat) "SecurePairModel" "inbox" "[I") ∈ xa := xa_t 988 (by decide +kernel) (by decide +kernel)
theorem xw1194 : (Cond.constantLong "SecurePairModel" (258 : Nat) (1000 : Int64)) ∈ xa := xa_t 1194 (by decide +kernel) (by decide +kernel)
def q_on (e1 : Nat) (x2 : Int32) (x3 : Int64) (x4 : Int64) (x5 : Int64) (σ : xb_St) : xb_St := (if x3 < (0 : Int64) then (if x2 = (91 : Int32) then (q_fail e1 (7 : Int64) σ) else (if x2 = (92 : Int32) then (q_fail e1 (7 : Int64) σ) else (if x2 = (94 : Int32) then (q_fail e1 (7 : Int64) σ) else (if x2 = (93 : Int32) then (q_fail e1 (7 : Int64) σ) else (if x2 = (97 : Int32) then (q_fail e1 (7 : Int64) σ) else (q_fail e1 (7 : Int64) σ)))))) else (if (2 : Int64) < x3 then (if x2 = (91 : Int32) then (q_fail e1 (7 : Int64) σ) else (if x2 = (92 : Int32) then (q_fail e1 (7 : Int64) σ) else (if x2 = (94 : Int32) then (q_fail e1 (7 : Int64) σ) else (if x2 = (93 : Int32) then (q_fail e1 (7 : Int64) σ) else (if x2 = (97 : Int32) then (q_fail e1 (7 : Int64) σ) else (q_fail e1 (7 : Int64) σ)))))) else (if (σ.1 28 ((3 * e1) + x3.toInt32.toNatClampNeg)) = (1 : Int32) then (if x2 = (91 : Int32) then (xb_sl (xb_sl (xb_si σ 28 ((3 * e1) + x3.toInt32.toNatClampNeg) (2 : Int32)) 29 ((3 * e1) + x3.toInt32.toNatClampNeg) x4) 30 ((3 * e1) + x3.toInt32.toNatClampNeg) x5) else (if x2 = (92 : Int32) then (q_release ((3 * e1) + x3.toInt32.toNatClampNeg) σ) else (if x2 = (94 : Int32) then (q_fail e1 (7 : Int64) σ) else (if x2 = (93 : Int32) then (q_fail e1 (7 : Int64) σ) else (if x2 = (97 : Int32) then (q_fail e1 (7 : Int64) σ) else (q_fail e1 (7 : Int64) σ)))))) else (if (σ.1 28 ((3 * e1) + x3.toInt32.toNatClampNeg)) = (2 : Int32) then (if x2 = (91 : Int32) then (q_fail e1 (7 : Int64) σ) else (if x2 = (92 : Int32) then (q_fail e1 (7 : Int64) σ) else (if x2 = (94 : Int32) then (if x4 < (1 : Int64) then (q_fail e1 (7 : Int64) σ) else (if (8 : Int64) < x4 then (q_fail e1 (7 : Int64) σ) else (if (σ.1 31 ((3 * e1) + x3.toInt32.toNatClampNeg)).toInt64 < x4 then (q_fail e1 (7 : Int64) σ) else (f_on 8 ((3 * e1) + x3.toInt32.toNatClampNeg) (x4.toInt32 - (1 : Int32)) x5 (xb_si σ 31 ((3 * e1) + x3.toInt32.toNatClampNeg) ((σ.1 31 ((3 * e1) + x3.toInt32.toNatClampNeg)) - x4.toInt32)))))) else (if x2 = (93 : Int32) then (if x4 < (1 : Int64) then (q_fail e1 (7 : Int64) σ) else (if (1000 : Int64) < x4 then (q_fail e1 (7 : Int64) σ) else (xb_sl σ 30 ((3 * e1) + x3.toInt32.toNatClampNeg) ((σ.2 30 ((3 * e1) + x3.toInt32.toNatClampNeg)) + x4)))) else (if x2 = (97 : Int32) then (q_release ((3 * e1) + x3.toInt32.toNatClampNeg) (q_send e1 (97 : Int32) (σ.2 29 ((3 * e1) + x3.toInt32.toNatClampNeg)) (0 : Int64) (0 : Int64) (0 : Int64) σ)) else (q_fail e1 (7 : Int64) σ)))))) else (if (σ.1 28 ((3 * e1) + x3.toInt32.toNatClampNeg)) = (3 : Int32) then (if x2 = (91 : Int32) then (q_fail e1 (7 : Int64) σ) else (if x2 = (92 : Int32) then (q_fail e1 (7 : Int64) σ) else (if x2 = (94 : Int32) then (if x4 < (1 : Int64) then (q_fail e1 (7 : Int64) σ) else (if (8 : Int64) < x4 then (q_fail e1 (7 : Int64) σ) else (if (σ.1 31 ((3 * e1) + x3.toInt32.toNatClampNeg)).toInt64 < x4 then (q_fail e1 (7 : Int64) σ) else (if (x4.toInt32 - (1 : Int32)) < 0 then (xb_si σ 31 ((3 * e1) + x3.toInt32.toNatClampNeg) ((σ.1 31 ((3 * e1) + x3.toInt32.toNatClampNeg)) - x4.toInt32)) else (xb_si σ 31 ((3 * e1) + x3.toInt32.toNatClampNeg) ((σ.1 31 ((3 * e1) + x3.toInt32.toNatClampNeg)) - x4.toInt32)))))) else (if x2 = (93 : Int32) then (if x4 < (1 : Int64) then (q_fail e1 (7 : Int64) σ) else (if (1000 : Int64) < x4 then (q_fail e1 (7 : Int64) σ) else (xb_sl σ 30 ((3 * e1) + x3.toInt32.toNatClampNeg) ((σ.2 30 ((3 * e1) + x3.toInt32.toNatClampNeg)) + x4)))) else (if x2 = (97 : Int32) then (q_release ((3 * e1) + x3.toInt32.toNatClampNeg) σ) else (q_fail e1 (7 : Int64) σ)))))) else (if x2 = (91 : Int32) then (q_fail e1 (7 : Int64) σ) else (if x2 = (92 : Int32) then (q_fail e1 (7 : Int64) σ) else (if x2 = (94 : Int32) then (q_fail e1 (7 : Int64) σ) else (if x2 = (93 : Int32) then (q_fail e1 (7 : Int64) σ) else (if x2 = (97 : Int32) then (q_fail e1 (7 : Int64) σ) else (q_fail e1 (7 : Int64) σ)))))))))))
set_option maxHeartbeats 4000000 in
set_option maxRecDepth 100000 in
theorem c_M_onChannel (l : Launch) (D : va_G) (α : Nat → Nat) (κ : Nat → ClassId) (hα : xb_inj α 35) (σ : xb_St) (x_e1 : Int32) (e1 : Nat) (e_e1 : x_e1 = nI e1) (b_e1 : e1 < 2) (x2 : Int32) (x3 : Int64) (x4 : Int64) (x5 : Int64) (ok : sm_ok σ) : Met l y_M_onChannel w_M_onChannel ({ frames := 4, cells := 0, slots := 0, locals := 115 }) (va_Pc ([.ref (α 0), .int x_e1, .int x2, .long x3, .long x4, .long x5]) (sm_Pre D α κ σ)) (va_Qv (fun u : xb_St => u = q_on e1 x2 x3 x4 x5 σ) (sm_B D α κ) (xb_A α 35)) 0 0 (xb_A α 35) := by
  subst e_e1
  refine Met.ofW (cc := b_M_onChannel) (maxL := 14) (ret := none) (by decide) rfl ?_
  intro p e s m args below meth c s₁ B_ hml hv
  obtain ⟨rfl, hP, hK, hN⟩ := hv
  have hx := B_.exec
  have hb := B_.bytes
  have hr := B_.returns
  have hts := atoms_spec (ws := w_M_onChannel) B_.pre
  have ht : ∀ w ∈ xa, w.before _ s = true := fun w h => hts w (List.mem_cons_of_mem _ h)
  have hown : s.vm.findClass "SecurePairModel" = some m.cls := findClass_of_methodNamed B_.named
  have hlocks := B_.notSynchronized
  have hD := sm_D hα κ
  have hS : va_S (xb_A α 35) s.heap s.heap [] := va_S.rf
  have hl := lv_entry ([.ref (α 0), .int (nI e1), .int x2, .long x3, .long x4, .long x5]) (n := 14) (Nat.le_of_ble_eq_true rfl)
  rw [lg_entry_eq]
  generalize (lg_sl ([.ref (α 0), .int (nI e1), .int x2, .long x3, .long x4, .long x5]) ++ List.replicate (14 - (lg_sl ([.ref (α 0), .int (nI e1), .int x2, .long x3, .long x4, .long x5])).length) Slot.unset).toArray = ls at hl ⊢
  have hl : lv_has ls 14 [(0, .ref (α 0)), (1, .int (nI e1)), (2, .int x2), (3, .long x3), (5, .long x4), (7, .long x5)] := hl
  refine lv_lload_n hx hb d_M_onChannel_0 rfl (lv_at hl 3 rfl) ?_
  refine lv_lconst (v := 0) hx hb d_M_onChannel_1 (by decide) ?_
  refine xb_llt (tgt := 23) hx hb d_M_onChannel_2 d_M_onChannel_3 (by decide) (fun c1 => ?_) (fun c1 => ?_)
  · skip
    refine lv_iconst (v := -1) hx hb d_M_onChannel_23 (by decide) ?_
    refine lv_istore (lv' := [(9, .int (-1 : Int32)), (0, .ref (α 0)), (1, .int (nI e1)), (2, .int x2), (3, .long x3), (5, .long x4), (7, .long x5)]) hx hb d_M_onChannel_24 hl (by decide) rfl (fun ls hl => ?_)
    refine lv_iload hx hb d_M_onChannel_26 (lv_at hl 0 rfl) ?_
    refine lv_if_ge (tgt := 35) hx hb d_M_onChannel_28 (by decide) (fun h_ => absurd h_ (by decide)) (fun _ => ?_)
    refine lv_iconst (v := 0) hx hb d_M_onChannel_31 (by decide) ?_
    refine lv_goto (tgt := 42) hx hb d_M_onChannel_32 (by decide) ?_
    refine lv_istore (lv' := [(10, .int (0 : Int32)), (9, .int (-1 : Int32)), (0, .ref (α 0)), (1, .int (nI e1)), (2, .int x2), (3, .long x3), (5, .long x4), (7, .long x5)]) hx hb d_M_onChannel_42 hl (by decide) rfl (fun ls hl => ?_)
    refine lv_iload hx hb d_M_onChannel_44 (lv_at hl 0 rfl) ?_
    refine lv_iconst (v := 1) hx hb d_M_onChannel_46 (by decide) ?_
    refine lv_icmp_ne (tgt := 54) hx hb d_M_onChannel_47 (by decide) (fun _ => ?_) (fun h_ => absurd h_ (by decide))
    refine lv_iconst (v := 0) hx hb d_M_onChannel_54 (by decide) ?_
    refine lv_istore (lv' := [(11, .int (0 : Int32)), (10, .int (0 : Int32)), (9, .int (-1 : Int32)), (0, .ref (α 0)), (1, .int (nI e1)), (2, .int x2), (3, .long x3), (5, .long x4), (7, .long x5)]) hx hb d_M_onChannel_55 hl (by decide) rfl (fun ls hl => ?_)
    refine lv_iload hx hb d_M_onChannel_57 (lv_at hl 1 rfl) ?_
    refine lv_iconst (v := 2) hx hb d_M_onChannel_59 (by decide) ?_
    refine lv_icmp_eq (tgt := 69) hx hb d_M_onChannel_60 (by decide) (fun h_ => absurd h_ (by decide)) (fun _ => ?_)
    refine lv_iload hx hb d_M_onChannel_63 (lv_at hl 1 rfl) ?_
    refine lv_iconst (v := 3) hx hb d_M_onChannel_65 (by decide) ?_
    refine lv_icmp_ne (tgt := 73) hx hb d_M_onChannel_66 (by decide) (fun _ => ?_) (fun h_ => absurd h_ (by decide))
    refine lv_iconst (v := 0) hx hb d_M_onChannel_73 (by decide) ?_
    refine lv_istore (lv' := [(12, .int (0 : Int32)), (11, .int (0 : Int32)), (10, .int (0 : Int32)), (9, .int (-1 : Int32)), (0, .ref (α 0)), (1, .int (nI e1)), (2, .int x2), (3, .long x3), (5, .long x4), (7, .long x5)]) hx hb d_M_onChannel_74 hl (by decide) rfl (fun ls hl => ?_)
    refine lv_iload_n hx hb d_M_onChannel_76 rfl (lv_at hl 6 rfl) ?_
    refine lv_bipush (v := 91) hx hb d_M_onChannel_77 (by decide) ?_
    refine lv_icmp_ne (tgt := 116) hx hb d_M_onChannel_79 (by decide) (fun c2 => ?_) (fun c2 => ?_)
    · skip
      refine lv_iload_n hx hb d_M_onChannel_116 rfl (lv_at hl 6 rfl) ?_
      refine lv_bipush (v := 92) hx hb d_M_onChannel_117 (by decide) ?_
      refine lv_icmp_ne (tgt := 136) hx hb d_M_onChannel_119 (by decide) (fun c3 => ?_) (fun c3 => ?_)
      · skip
        refine lv_iload_n hx hb d_M_onChannel_136 rfl (lv_at hl 6 rfl) ?_
        refine lv_bipush (v := 94) hx hb d_M_onChannel_137 (by decide) ?_
        refine lv_icmp_ne (tgt := 259) hx hb d_M_onChannel_139 (by decide) (fun c4 => ?_) (fun c4 => ?_)
        · skip
          refine lv_iload_n hx hb d_M_onChannel_259 rfl (lv_at hl 6 rfl) ?_
          refine lv_bipush (v := 93) hx hb d_M_onChannel_260 (by decide) ?_
          refine lv_icmp_ne (tgt := 301) hx hb d_M_onChannel_262 (by decide) (fun c5 => ?_) (fun c5 => ?_)
          · skip
            refine lv_iload_n hx hb d_M_onChannel_301 rfl (lv_at hl 6 rfl) ?_
            refine lv_bipush (v := 97) hx hb d_M_onChannel_302 (by decide) ?_
            refine lv_icmp_ne (tgt := 344) hx hb d_M_onChannel_304 (by decide) (fun c6 => ?_) (fun c6 => ?_)
            · skip
              refine lv_aload_n hx hb d_M_onChannel_344 rfl (lv_at hl 4 rfl) ?_
              refine lv_iload_n hx hb d_M_onChannel_345 rfl (lv_at hl 5 rfl) ?_
              refine lv_ldc2 hx hb hown (ht _ xw1133) d_M_onChannel_346 ?_
              refine sm_cv (va_runV (As := [.int (nI e1), .long (7 : Int64)]) (rest := []) ⟨hx, hb, hml, hown, hts⟩ (c_M_fail l D α κ hα σ (nI e1) e1 (xb_lit e1 rfl) (by omega) (7 : Int64) ok) (cwV 2 hts (xa_V xw1112 xw1114 xs9 xw11 xw1115) rfl rfl rfl (by decide +kernel) ⟨Nat.le_of_ble_eq_true rfl, Nat.le_of_ble_eq_true rfl⟩) ⟨sm_blind, va_recv (q0 := 0) (ci := 9) hK hP rfl rfl, sm_pre hP hK hN _⟩ rfl rfl hl.1 rfl (lv_room (Nat.le_of_ble_eq_true rfl)) d_M_onChannel_349 ⟨Nat.le_of_ble_eq_true rfl, Nat.le_of_ble_eq_true rfl⟩) hS (fun _ h_ => h_) (fun H locs hP hS => ?_)
              obtain ⟨τ1, hτ1⟩ : ∃ t_, t_ = (q_fail e1 (7 : Int64) σ) := ⟨_, rfl⟩
              rw [← hτ1] at hP
              have okτ1 : sm_ok τ1 := by rw [hτ1]; exact (ok_q_fail e1 (7 : Int64) (by omega) ok)
              exact W.vret hx hb hr (fun t ht_ hW => ⟨⟨τ1, rfl, (by subst hτ1; exact ((if_pos c1).trans ((if_neg c2).trans ((if_neg c3).trans ((if_neg c4).trans ((if_neg c5).trans ((if_neg c6))))))).symm), by rw [sm_B, ht_]; exact hP⟩, hS.F ht_⟩) hS.2.2 d_M_onChannel_352
            · skip
              refine lv_iload hx hb d_M_onChannel_307 (lv_at hl 0 rfl) ?_
              refine lv_if_eq (tgt := 344) hx hb d_M_onChannel_309 (by decide) (fun _ => ?_) (fun h_ => absurd h_ (by decide))
              refine lv_aload_n hx hb d_M_onChannel_344 rfl (lv_at hl 4 rfl) ?_
              refine lv_iload_n hx hb d_M_onChannel_345 rfl (lv_at hl 5 rfl) ?_
              refine lv_ldc2 hx hb hown (ht _ xw1133) d_M_onChannel_346 ?_
              refine sm_cv (va_runV (As := [.int (nI e1), .long (7 : Int64)]) (rest := []) ⟨hx, hb, hml, hown, hts⟩ (c_M_fail l D α κ hα σ (nI e1) e1 (xb_lit e1 rfl) (by omega) (7 : Int64) ok) (cwV 2 hts (xa_V xw1112 xw1114 xs9 xw11 xw1115) rfl rfl rfl (by decide +kernel) ⟨Nat.le_of_ble_eq_true rfl, Nat.le_of_ble_eq_true rfl⟩) ⟨sm_blind, va_recv (q0 := 0) (ci := 9) hK hP rfl rfl, sm_pre hP hK hN _⟩ rfl rfl hl.1 rfl (lv_room (Nat.le_of_ble_eq_true rfl)) d_M_onChannel_349 ⟨Nat.le_of_ble_eq_true rfl, Nat.le_of_ble_eq_true rfl⟩) hS (fun _ h_ => h_) (fun H locs hP hS => ?_)
              obtain ⟨τ2, hτ2⟩ : ∃ t_, t_ = (q_fail e1 (7 : Int64) σ) := ⟨_, rfl⟩
              rw [← hτ2] at hP
              have okτ2 : sm_ok τ2 := by rw [hτ2]; exact (ok_q_fail e1 (7 : Int64) (by omega) ok)
              exact W.vret hx hb hr (fun t ht_ hW => ⟨⟨τ2, rfl, (by subst hτ2; exact ((if_pos c1).trans ((if_neg c2).trans ((if_neg c3).trans ((if_neg c4).trans ((if_neg c5).trans ((if_pos c6))))))).symm), by rw [sm_B, ht_]; exact hP⟩, hS.F ht_⟩) hS.2.2 d_M_onChannel_352
          · skip
            refine lv_iload hx hb d_M_onChannel_265 (lv_at hl 0 rfl) ?_
            refine lv_if_eq (tgt := 301) hx hb d_M_onChannel_267 (by decide) (fun _ => ?_) (fun h_ => absurd h_ (by decide))
            refine lv_iload_n hx hb d_M_onChannel_301 rfl (lv_at hl 6 rfl) ?_
            refine lv_bipush (v := 97) hx hb d_M_onChannel_302 (by decide) ?_
            refine lv_icmp_ne (tgt := 344) hx hb d_M_onChannel_304 (by decide) (fun _ => ?_) (fun h_ => absurd h_ (by rw [c5]; decide))
            refine lv_aload_n hx hb d_M_onChannel_344 rfl (lv_at hl 4 rfl) ?_
            refine lv_iload_n hx hb d_M_onChannel_345 rfl (lv_at hl 5 rfl) ?_
            refine lv_ldc2 hx hb hown (ht _ xw1133) d_M_onChannel_346 ?_
            refine sm_cv (va_runV (As := [.int (nI e1), .long (7 : Int64)]) (rest := []) ⟨hx, hb, hml, hown, hts⟩ (c_M_fail l D α κ hα σ (nI e1) e1 (xb_lit e1 rfl) (by omega) (7 : Int64) ok) (cwV 2 hts (xa_V xw1112 xw1114 xs9 xw11 xw1115) rfl rfl rfl (by decide +kernel) ⟨Nat.le_of_ble_eq_true rfl, Nat.le_of_ble_eq_true rfl⟩) ⟨sm_blind, va_recv (q0 := 0) (ci := 9) hK hP rfl rfl, sm_pre hP hK hN _⟩ rfl rfl hl.1 rfl (lv_room (Nat.le_of_ble_eq_true rfl)) d_M_onChannel_349 ⟨Nat.le_of_ble_eq_true rfl, Nat.le_of_ble_eq_true rfl⟩) hS (fun _ h_ => h_) (fun H locs hP hS => ?_)
            obtain ⟨τ3, hτ3⟩ : ∃ t_, t_ = (q_fail e1 (7 : Int64) σ) := ⟨_, rfl⟩
            rw [← hτ3] at hP
            have okτ3 : sm_ok τ3 := by rw [hτ3]; exact (ok_q_fail e1 (7 : Int64) (by omega) ok)
            exact W.vret hx hb hr (fun t ht_ hW => ⟨⟨τ3, rfl, (by subst hτ3; exact ((if_pos c1).trans ((if_neg c2).trans ((if_neg c3).trans ((if_neg c4).trans ((if_pos c5)))))).symm), by rw [sm_B, ht_]; exact hP⟩, hS.F ht_⟩) hS.2.2 d_M_onChannel_352
        · skip
          refine lv_iload hx hb d_M_onChannel_142 (lv_at hl 0 rfl) ?_
          refine lv_if_eq (tgt := 259) hx hb d_M_onChannel_144 (by decide) (fun _ => ?_) (fun h_ => absurd h_ (by decide))
          refine lv_iload_n hx hb d_M_onChannel_259 rfl (lv_at hl 6 rfl) ?_
          refine lv_bipush (v := 93) hx hb d_M_onChannel_260 (by decide) ?_
          refine lv_icmp_ne (tgt := 301) hx hb d_M_onChannel_262 (by decide) (fun _ => ?_) (fun h_ => absurd h_ (by rw [c4]; decide))
          refine lv_iload_n hx hb d_M_onChannel_301 rfl (lv_at hl 6 rfl) ?_
          refine lv_bipush (v := 97) hx hb d_M_onChannel_302 (by decide) ?_
          refine lv_icmp_ne (tgt := 344) hx hb d_M_onChannel_304 (by decide) (fun _ => ?_) (fun h_ => absurd h_ (by rw [c4]; decide))
          refine lv_aload_n hx hb d_M_onChannel_344 rfl (lv_at hl 4 rfl) ?_
          refine lv_iload_n hx hb d_M_onChannel_345 rfl (lv_at hl 5 rfl) ?_
          refine lv_ldc2 hx hb hown (ht _ xw1133) d_M_onChannel_346 ?_
          refine sm_cv (va_runV (As := [.int (nI e1), .long (7 : Int64)]) (rest := []) ⟨hx, hb, hml, hown, hts⟩ (c_M_fail l D α κ hα σ (nI e1) e1 (xb_lit e1 rfl) (by omega) (7 : Int64) ok) (cwV 2 hts (xa_V xw1112 xw1114 xs9 xw11 xw1115) rfl rfl rfl (by decide +kernel) ⟨Nat.le_of_ble_eq_true rfl, Nat.le_of_ble_eq_true rfl⟩) ⟨sm_blind, va_recv (q0 := 0) (ci := 9) hK hP rfl rfl, sm_pre hP hK hN _⟩ rfl rfl hl.1 rfl (lv_room (Nat.le_of_ble_eq_true rfl)) d_M_onChannel_349 ⟨Nat.le_of_ble_eq_true rfl, Nat.le_of_ble_eq_true rfl⟩) hS (fun _ h_ => h_) (fun H locs hP hS => ?_)
          obtain ⟨τ4, hτ4⟩ : ∃ t_, t_ = (q_fail e1 (7 : Int64) σ) := ⟨_, rfl⟩
          rw [← hτ4] at hP
          have okτ4 : sm_ok τ4 := by rw [hτ4]; exact (ok_q_fail e1 (7 : Int64) (by omega) ok)
          exact W.vret hx hb hr (fun t ht_ hW => ⟨⟨τ4, rfl, (by subst hτ4; exact ((if_pos c1).trans ((if_neg c2).trans ((if_neg c3).trans ((if_pos c4))))).symm), by rw [sm_B, ht_]; exact hP⟩, hS.F ht_⟩) hS.2.2 d_M_onChannel_352
      · skip
        refine lv_iload hx hb d_M_onChannel_122 (lv_at hl 1 rfl) ?_
        refine lv_if_eq (tgt := 136) hx hb d_M_onChannel_124 (by decide) (fun _ => ?_) (fun h_ => absurd h_ (by decide))
        refine lv_iload_n hx hb d_M_onChannel_136 rfl (lv_at hl 6 rfl) ?_
        refine lv_bipush (v := 94) hx hb d_M_onChannel_137 (by decide) ?_
        refine lv_icmp_ne (tgt := 259) hx hb d_M_onChannel_139 (by decide) (fun _ => ?_) (fun h_ => absurd h_ (by rw [c3]; decide))
        refine lv_iload_n hx hb d_M_onChannel_259 rfl (lv_at hl 6 rfl) ?_
        refine lv_bipush (v := 93) hx hb d_M_onChannel_260 (by decide) ?_
        refine lv_icmp_ne (tgt := 301) hx hb d_M_onChannel_262 (by decide) (fun _ => ?_) (fun h_ => absurd h_ (by rw [c3]; decide))
        refine lv_iload_n hx hb d_M_onChannel_301 rfl (lv_at hl 6 rfl) ?_
        refine lv_bipush (v := 97) hx hb d_M_onChannel_302 (by decide) ?_
        refine lv_icmp_ne (tgt := 344) hx hb d_M_onChannel_304 (by decide) (fun _ => ?_) (fun h_ => absurd h_ (by rw [c3]; decide))
        refine lv_aload_n hx hb d_M_onChannel_344 rfl (lv_at hl 4 rfl) ?_
        refine lv_iload_n hx hb d_M_onChannel_345 rfl (lv_at hl 5 rfl) ?_
        refine lv_ldc2 hx hb hown (ht _ xw1133) d_M_onChannel_346 ?_
        refine sm_cv (va_runV (As := [.int (nI e1), .long (7 : Int64)]) (rest := []) ⟨hx, hb, hml, hown, hts⟩ (c_M_fail l D α κ hα σ (nI e1) e1 (xb_lit e1 rfl) (by omega) (7 : Int64) ok) (cwV 2 hts (xa_V xw1112 xw1114 xs9 xw11 xw1115) rfl rfl rfl (by decide +kernel) ⟨Nat.le_of_ble_eq_true rfl, Nat.le_of_ble_eq_true rfl⟩) ⟨sm_blind, va_recv (q0 := 0) (ci := 9) hK hP rfl rfl, sm_pre hP hK hN _⟩ rfl rfl hl.1 rfl (lv_room (Nat.le_of_ble_eq_true rfl)) d_M_onChannel_349 ⟨Nat.le_of_ble_eq_true rfl, Nat.le_of_ble_eq_true rfl⟩) hS (fun _ h_ => h_) (fun H locs hP hS => ?_)
        obtain ⟨τ5, hτ5⟩ : ∃ t_, t_ = (q_fail e1 (7 : Int64) σ) := ⟨_, rfl⟩
        rw [← hτ5] at hP
        have okτ5 : sm_ok τ5 := by rw [hτ5]; exact (ok_q_fail e1 (7 : Int64) (by omega) ok)
        exact W.vret hx hb hr (fun t ht_ hW => ⟨⟨τ5, rfl, (by subst hτ5; exact ((if_pos c1).trans ((if_neg c2).trans ((if_pos c3)))).symm), by rw [sm_B, ht_]; exact hP⟩, hS.F ht_⟩) hS.2.2 d_M_onChannel_352
    · skip
      refine lv_iload hx hb d_M_onChannel_82 (lv_at hl 1 rfl) ?_
      refine lv_if_eq (tgt := 116) hx hb d_M_onChannel_84 (by decide) (fun _ => ?_) (fun h_ => absurd h_ (by decide))
      refine lv_iload_n hx hb d_M_onChannel_116 rfl (lv_at hl 6 rfl) ?_
      refine lv_bipush (v := 92) hx hb d_M_onChannel_117 (by decide) ?_
      refine lv_icmp_ne (tgt := 136) hx hb d_M_onChannel_119 (by decide) (fun _ => ?_) (fun h_ => absurd h_ (by rw [c2]; decide))
      refine lv_iload_n hx hb d_M_onChannel_136 rfl (lv_at hl 6 rfl) ?_
      refine lv_bipush (v := 94) hx hb d_M_onChannel_137 (by decide) ?_
      refine lv_icmp_ne (tgt := 259) hx hb d_M_onChannel_139 (by decide) (fun _ => ?_) (fun h_ => absurd h_ (by rw [c2]; decide))
      refine lv_iload_n hx hb d_M_onChannel_259 rfl (lv_at hl 6 rfl) ?_
      refine lv_bipush (v := 93) hx hb d_M_onChannel_260 (by decide) ?_
      refine lv_icmp_ne (tgt := 301) hx hb d_M_onChannel_262 (by decide) (fun _ => ?_) (fun h_ => absurd h_ (by rw [c2]; decide))
      refine lv_iload_n hx hb d_M_onChannel_301 rfl (lv_at hl 6 rfl) ?_
      refine lv_bipush (v := 97) hx hb d_M_onChannel_302 (by decide) ?_
      refine lv_icmp_ne (tgt := 344) hx hb d_M_onChannel_304 (by decide) (fun _ => ?_) (fun h_ => absurd h_ (by rw [c2]; decide))
      refine lv_aload_n hx hb d_M_onChannel_344 rfl (lv_at hl 4 rfl) ?_
      refine lv_iload_n hx hb d_M_onChannel_345 rfl (lv_at hl 5 rfl) ?_
      refine lv_ldc2 hx hb hown (ht _ xw1133) d_M_onChannel_346 ?_
      refine sm_cv (va_runV (As := [.int (nI e1), .long (7 : Int64)]) (rest := []) ⟨hx, hb, hml, hown, hts⟩ (c_M_fail l D α κ hα σ (nI e1) e1 (xb_lit e1 rfl) (by omega) (7 : Int64) ok) (cwV 2 hts (xa_V xw1112 xw1114 xs9 xw11 xw1115) rfl rfl rfl (by decide +kernel) ⟨Nat.le_of_ble_eq_true rfl, Nat.le_of_ble_eq_true rfl⟩) ⟨sm_blind, va_recv (q0 := 0) (ci := 9) hK hP rfl rfl, sm_pre hP hK hN _⟩ rfl rfl hl.1 rfl (lv_room (Nat.le_of_ble_eq_true rfl)) d_M_onChannel_349 ⟨Nat.le_of_ble_eq_true rfl, Nat.le_of_ble_eq_true rfl⟩) hS (fun _ h_ => h_) (fun H locs hP hS => ?_)
      obtain ⟨τ6, hτ6⟩ : ∃ t_, t_ = (q_fail e1 (7 : Int64) σ) := ⟨_, rfl⟩
      rw [← hτ6] at hP
      have okτ6 : sm_ok τ6 := by rw [hτ6]; exact (ok_q_fail e1 (7 : Int64) (by omega) ok)
      exact W.vret hx hb hr (fun t ht_ hW => ⟨⟨τ6, rfl, (by subst hτ6; exact ((if_pos c1).trans ((if_pos c2))).symm), by rw [sm_B, ht_]; exact hP⟩, hS.F ht_⟩) hS.2.2 d_M_onChannel_352
  · skip
    refine lv_lload_n hx hb d_M_onChannel_6 rfl (lv_at hl 3 rfl) ?_
    refine lv_ldc2 hx hb hown (ht _ xw1120) d_M_onChannel_7 ?_
    refine xb_lgt (tgt := 23) hx hb d_M_onChannel_10 d_M_onChannel_11 (by decide) (fun c7 => ?_) (fun c7 => ?_)
    · skip
      refine lv_iconst (v := -1) hx hb d_M_onChannel_23 (by decide) ?_
      refine lv_istore (lv' := [(9, .int (-1 : Int32)), (0, .ref (α 0)), (1, .int (nI e1)), (2, .int x2), (3, .long x3), (5, .long x4), (7, .long x5)]) hx hb d_M_onChannel_24 hl (by decide) rfl (fun ls hl => ?_)
      refine lv_iload hx hb d_M_onChannel_26 (lv_at hl 0 rfl) ?_
      refine lv_if_ge (tgt := 35) hx hb d_M_onChannel_28 (by decide) (fun h_ => absurd h_ (by decide)) (fun _ => ?_)
      refine lv_iconst (v := 0) hx hb d_M_onChannel_31 (by decide) ?_
      refine lv_goto (tgt := 42) hx hb d_M_onChannel_32 (by decide) ?_
      refine lv_istore (lv' := [(10, .int (0 : Int32)), (9, .int (-1 : Int32)), (0, .ref (α 0)), (1, .int (nI e1)), (2, .int x2), (3, .long x3), (5, .long x4), (7, .long x5)]) hx hb d_M_onChannel_42 hl (by decide) rfl (fun ls hl => ?_)
      refine lv_iload hx hb d_M_onChannel_44 (lv_at hl 0 rfl) ?_
      refine lv_iconst (v := 1) hx hb d_M_onChannel_46 (by decide) ?_
      refine lv_icmp_ne (tgt := 54) hx hb d_M_onChannel_47 (by decide) (fun _ => ?_) (fun h_ => absurd h_ (by decide))
      refine lv_iconst (v := 0) hx hb d_M_onChannel_54 (by decide) ?_
      refine lv_istore (lv' := [(11, .int (0 : Int32)), (10, .int (0 : Int32)), (9, .int (-1 : Int32)), (0, .ref (α 0)), (1, .int (nI e1)), (2, .int x2), (3, .long x3), (5, .long x4), (7, .long x5)]) hx hb d_M_onChannel_55 hl (by decide) rfl (fun ls hl => ?_)
      refine lv_iload hx hb d_M_onChannel_57 (lv_at hl 1 rfl) ?_
      refine lv_iconst (v := 2) hx hb d_M_onChannel_59 (by decide) ?_
      refine lv_icmp_eq (tgt := 69) hx hb d_M_onChannel_60 (by decide) (fun h_ => absurd h_ (by decide)) (fun _ => ?_)
      refine lv_iload hx hb d_M_onChannel_63 (lv_at hl 1 rfl) ?_
      refine lv_iconst (v := 3) hx hb d_M_onChannel_65 (by decide) ?_
      refine lv_icmp_ne (tgt := 73) hx hb d_M_onChannel_66 (by decide) (fun _ => ?_) (fun h_ => absurd h_ (by decide))
      refine lv_iconst (v := 0) hx hb d_M_onChannel_73 (by decide) ?_
      refine lv_istore (lv' := [(12, .int (0 : Int32)), (11, .int (0 : Int32)), (10, .int (0 : Int32)), (9, .int (-1 : Int32)), (0, .ref (α 0)), (1, .int (nI e1)), (2, .int x2), (3, .long x3), (5, .long x4), (7, .long x5)]) hx hb d_M_onChannel_74 hl (by decide) rfl (fun ls hl => ?_)
      refine lv_iload_n hx hb d_M_onChannel_76 rfl (lv_at hl 6 rfl) ?_
      refine lv_bipush (v := 91) hx hb d_M_onChannel_77 (by decide) ?_
      refine lv_icmp_ne (tgt := 116) hx hb d_M_onChannel_79 (by decide) (fun c8 => ?_) (fun c8 => ?_)
      · skip
        refine lv_iload_n hx hb d_M_onChannel_116 rfl (lv_at hl 6 rfl) ?_
        refine lv_bipush (v := 92) hx hb d_M_onChannel_117 (by decide) ?_
        refine lv_icmp_ne (tgt := 136) hx hb d_M_onChannel_119 (by decide) (fun c9 => ?_) (fun c9 => ?_)
        · skip
          refine lv_iload_n hx hb d_M_onChannel_136 rfl (lv_at hl 6 rfl) ?_
          refine lv_bipush (v := 94) hx hb d_M_onChannel_137 (by decide) ?_
          refine lv_icmp_ne (tgt := 259) hx hb d_M_onChannel_139 (by decide) (fun c10 => ?_) (fun c10 => ?_)
          · skip
            refine lv_iload_n hx hb d_M_onChannel_259 rfl (lv_at hl 6 rfl) ?_
            refine lv_bipush (v := 93) hx hb d_M_onChannel_260 (by decide) ?_
            refine lv_icmp_ne (tgt := 301) hx hb d_M_onChannel_262 (by decide) (fun c11 => ?_) (fun c11 => ?_)
            · skip
              refine lv_iload_n hx hb d_M_onChannel_301 rfl (lv_at hl 6 rfl) ?_
              refine lv_bipush (v := 97) hx hb d_M_onChannel_302 (by decide) ?_
              refine lv_icmp_ne (tgt := 344) hx hb d_M_onChannel_304 (by decide) (fun c12 => ?_) (fun c12 => ?_)
              · skip
                refine lv_aload_n hx hb d_M_onChannel_344 rfl (lv_at hl 4 rfl) ?_
                refine lv_iload_n hx hb d_M_onChannel_345 rfl (lv_at hl 5 rfl) ?_
                refine lv_ldc2 hx hb hown (ht _ xw1133) d_M_onChannel_346 ?_
                refine sm_cv (va_runV (As := [.int (nI e1), .long (7 : Int64)]) (rest := []) ⟨hx, hb, hml, hown, hts⟩ (c_M_fail l D α κ hα σ (nI e1) e1 (xb_lit e1 rfl) (by omega) (7 : Int64) ok) (cwV 2 hts (xa_V xw1112 xw1114 xs9 xw11 xw1115) rfl rfl rfl (by decide +kernel) ⟨Nat.le_of_ble_eq_true rfl, Nat.le_of_ble_eq_true rfl⟩) ⟨sm_blind, va_recv (q0 := 0) (ci := 9) hK hP rfl rfl, sm_pre hP hK hN _⟩ rfl rfl hl.1 rfl (lv_room (Nat.le_of_ble_eq_true rfl)) d_M_onChannel_349 ⟨Nat.le_of_ble_eq_true rfl, Nat.le_of_ble_eq_true rfl⟩) hS (fun _ h_ => h_) (fun H locs hP hS => ?_)
                obtain ⟨τ7, hτ7⟩ : ∃ t_, t_ = (q_fail e1 (7 : Int64) σ) := ⟨_, rfl⟩
                rw [← hτ7] at hP
                have okτ7 : sm_ok τ7 := by rw [hτ7]; exact (ok_q_fail e1 (7 : Int64) (by omega) ok)
                exact W.vret hx hb hr (fun t ht_ hW => ⟨⟨τ7, rfl, (by subst hτ7; exact ((if_neg c1).trans ((if_pos c7).trans ((if_neg c8).trans ((if_neg c9).trans ((if_neg c10).trans ((if_neg c11).trans ((if_neg c12)))))))).symm), by rw [sm_B, ht_]; exact hP⟩, hS.F ht_⟩) hS.2.2 d_M_onChannel_352
              · skip
                refine lv_iload hx hb d_M_onChannel_307 (lv_at hl 0 rfl) ?_
                refine lv_if_eq (tgt := 344) hx hb d_M_onChannel_309 (by decide) (fun _ => ?_) (fun h_ => absurd h_ (by decide))
                refine lv_aload_n hx hb d_M_onChannel_344 rfl (lv_at hl 4 rfl) ?_
                refine lv_iload_n hx hb d_M_onChannel_345 rfl (lv_at hl 5 rfl) ?_
                refine lv_ldc2 hx hb hown (ht _ xw1133) d_M_onChannel_346 ?_
                refine sm_cv (va_runV (As := [.int (nI e1), .long (7 : Int64)]) (rest := []) ⟨hx, hb, hml, hown, hts⟩ (c_M_fail l D α κ hα σ (nI e1) e1 (xb_lit e1 rfl) (by omega) (7 : Int64) ok) (cwV 2 hts (xa_V xw1112 xw1114 xs9 xw11 xw1115) rfl rfl rfl (by decide +kernel) ⟨Nat.le_of_ble_eq_true rfl, Nat.le_of_ble_eq_true rfl⟩) ⟨sm_blind, va_recv (q0 := 0) (ci := 9) hK hP rfl rfl, sm_pre hP hK hN _⟩ rfl rfl hl.1 rfl (lv_room (Nat.le_of_ble_eq_true rfl)) d_M_onChannel_349 ⟨Nat.le_of_ble_eq_true rfl, Nat.le_of_ble_eq_true rfl⟩) hS (fun _ h_ => h_) (fun H locs hP hS => ?_)
                obtain ⟨τ8, hτ8⟩ : ∃ t_, t_ = (q_fail e1 (7 : Int64) σ) := ⟨_, rfl⟩
                rw [← hτ8] at hP
                have okτ8 : sm_ok τ8 := by rw [hτ8]; exact (ok_q_fail e1 (7 : Int64) (by omega) ok)
                exact W.vret hx hb hr (fun t ht_ hW => ⟨⟨τ8, rfl, (by subst hτ8; exact ((if_neg c1).trans ((if_pos c7).trans ((if_neg c8).trans ((if_neg c9).trans ((if_neg c10).trans ((if_neg c11).trans ((if_pos c12)))))))).symm), by rw [sm_B, ht_]; exact hP⟩, hS.F ht_⟩) hS.2.2 d_M_onChannel_352
            · skip
              refine lv_iload hx hb d_M_onChannel_265 (lv_at hl 0 rfl) ?_
              refine lv_if_eq (tgt := 301) hx hb d_M_onChannel_267 (by decide) (fun _ => ?_) (fun h_ => absurd h_ (by decide))
              refine lv_iload_n hx hb d_M_onChannel_301 rfl (lv_at hl 6 rfl) ?_
              refine lv_bipush (v := 97) hx hb d_M_onChannel_302 (by decide) ?_
              refine lv_icmp_ne (tgt := 344) hx hb d_M_onChannel_304 (by decide) (fun _ => ?_) (fun h_ => absurd h_ (by rw [c11]; decide))
              refine lv_aload_n hx hb d_M_onChannel_344 rfl (lv_at hl 4 rfl) ?_
              refine lv_iload_n hx hb d_M_onChannel_345 rfl (lv_at hl 5 rfl) ?_
              refine lv_ldc2 hx hb hown (ht _ xw1133) d_M_onChannel_346 ?_
              refine sm_cv (va_runV (As := [.int (nI e1), .long (7 : Int64)]) (rest := []) ⟨hx, hb, hml, hown, hts⟩ (c_M_fail l D α κ hα σ (nI e1) e1 (xb_lit e1 rfl) (by omega) (7 : Int64) ok) (cwV 2 hts (xa_V xw1112 xw1114 xs9 xw11 xw1115) rfl rfl rfl (by decide +kernel) ⟨Nat.le_of_ble_eq_true rfl, Nat.le_of_ble_eq_true rfl⟩) ⟨sm_blind, va_recv (q0 := 0) (ci := 9) hK hP rfl rfl, sm_pre hP hK hN _⟩ rfl rfl hl.1 rfl (lv_room (Nat.le_of_ble_eq_true rfl)) d_M_onChannel_349 ⟨Nat.le_of_ble_eq_true rfl, Nat.le_of_ble_eq_true rfl⟩) hS (fun _ h_ => h_) (fun H locs hP hS => ?_)
              obtain ⟨τ9, hτ9⟩ : ∃ t_, t_ = (q_fail e1 (7 : Int64) σ) := ⟨_, rfl⟩
              rw [← hτ9] at hP
              have okτ9 : sm_ok τ9 := by rw [hτ9]; exact (ok_q_fail e1 (7 : Int64) (by omega) ok)
              exact W.vret hx hb hr (fun t ht_ hW => ⟨⟨τ9, rfl, (by subst hτ9; exact ((if_neg c1).trans ((if_pos c7).trans ((if_neg c8).trans ((if_neg c9).trans ((if_neg c10).trans ((if_pos c11))))))).symm), by rw [sm_B, ht_]; exact hP⟩, hS.F ht_⟩) hS.2.2 d_M_onChannel_352
          · skip
            refine lv_iload hx hb d_M_onChannel_142 (lv_at hl 0 rfl) ?_
            refine lv_if_eq (tgt := 259) hx hb d_M_onChannel_144 (by decide) (fun _ => ?_) (fun h_ => absurd h_ (by decide))
            refine lv_iload_n hx hb d_M_onChannel_259 rfl (lv_at hl 6 rfl) ?_
            refine lv_bipush (v := 93) hx hb d_M_onChannel_260 (by decide) ?_
            refine lv_icmp_ne (tgt := 301) hx hb d_M_onChannel_262 (by decide) (fun _ => ?_) (fun h_ => absurd h_ (by rw [c10]; decide))
            refine lv_iload_n hx hb d_M_onChannel_301 rfl (lv_at hl 6 rfl) ?_
            refine lv_bipush (v := 97) hx hb d_M_onChannel_302 (by decide) ?_
            refine lv_icmp_ne (tgt := 344) hx hb d_M_onChannel_304 (by decide) (fun _ => ?_) (fun h_ => absurd h_ (by rw [c10]; decide))
            refine lv_aload_n hx hb d_M_onChannel_344 rfl (lv_at hl 4 rfl) ?_
            refine lv_iload_n hx hb d_M_onChannel_345 rfl (lv_at hl 5 rfl) ?_
            refine lv_ldc2 hx hb hown (ht _ xw1133) d_M_onChannel_346 ?_
            refine sm_cv (va_runV (As := [.int (nI e1), .long (7 : Int64)]) (rest := []) ⟨hx, hb, hml, hown, hts⟩ (c_M_fail l D α κ hα σ (nI e1) e1 (xb_lit e1 rfl) (by omega) (7 : Int64) ok) (cwV 2 hts (xa_V xw1112 xw1114 xs9 xw11 xw1115) rfl rfl rfl (by decide +kernel) ⟨Nat.le_of_ble_eq_true rfl, Nat.le_of_ble_eq_true rfl⟩) ⟨sm_blind, va_recv (q0 := 0) (ci := 9) hK hP rfl rfl, sm_pre hP hK hN _⟩ rfl rfl hl.1 rfl (lv_room (Nat.le_of_ble_eq_true rfl)) d_M_onChannel_349 ⟨Nat.le_of_ble_eq_true rfl, Nat.le_of_ble_eq_true rfl⟩) hS (fun _ h_ => h_) (fun H locs hP hS => ?_)
            obtain ⟨τ10, hτ10⟩ : ∃ t_, t_ = (q_fail e1 (7 : Int64) σ) := ⟨_, rfl⟩
            rw [← hτ10] at hP
            have okτ10 : sm_ok τ10 := by rw [hτ10]; exact (ok_q_fail e1 (7 : Int64) (by omega) ok)
            exact W.vret hx hb hr (fun t ht_ hW => ⟨⟨τ10, rfl, (by subst hτ10; exact ((if_neg c1).trans ((if_pos c7).trans ((if_neg c8).trans ((if_neg c9).trans ((if_pos c10)))))).symm), by rw [sm_B, ht_]; exact hP⟩, hS.F ht_⟩) hS.2.2 d_M_onChannel_352
        · skip
          refine lv_iload hx hb d_M_onChannel_122 (lv_at hl 1 rfl) ?_
          refine lv_if_eq (tgt := 136) hx hb d_M_onChannel_124 (by decide) (fun _ => ?_) (fun h_ => absurd h_ (by decide))
          refine lv_iload_n hx hb d_M_onChannel_136 rfl (lv_at hl 6 rfl) ?_
          refine lv_bipush (v := 94) hx hb d_M_onChannel_137 (by decide) ?_
          refine lv_icmp_ne (tgt := 259) hx hb d_M_onChannel_139 (by decide) (fun _ => ?_) (fun h_ => absurd h_ (by rw [c9]; decide))
          refine lv_iload_n hx hb d_M_onChannel_259 rfl (lv_at hl 6 rfl) ?_
          refine lv_bipush (v := 93) hx hb d_M_onChannel_260 (by decide) ?_
          refine lv_icmp_ne (tgt := 301) hx hb d_M_onChannel_262 (by decide) (fun _ => ?_) (fun h_ => absurd h_ (by rw [c9]; decide))
          refine lv_iload_n hx hb d_M_onChannel_301 rfl (lv_at hl 6 rfl) ?_
          refine lv_bipush (v := 97) hx hb d_M_onChannel_302 (by decide) ?_
          refine lv_icmp_ne (tgt := 344) hx hb d_M_onChannel_304 (by decide) (fun _ => ?_) (fun h_ => absurd h_ (by rw [c9]; decide))
          refine lv_aload_n hx hb d_M_onChannel_344 rfl (lv_at hl 4 rfl) ?_
          refine lv_iload_n hx hb d_M_onChannel_345 rfl (lv_at hl 5 rfl) ?_
          refine lv_ldc2 hx hb hown (ht _ xw1133) d_M_onChannel_346 ?_
          refine sm_cv (va_runV (As := [.int (nI e1), .long (7 : Int64)]) (rest := []) ⟨hx, hb, hml, hown, hts⟩ (c_M_fail l D α κ hα σ (nI e1) e1 (xb_lit e1 rfl) (by omega) (7 : Int64) ok) (cwV 2 hts (xa_V xw1112 xw1114 xs9 xw11 xw1115) rfl rfl rfl (by decide +kernel) ⟨Nat.le_of_ble_eq_true rfl, Nat.le_of_ble_eq_true rfl⟩) ⟨sm_blind, va_recv (q0 := 0) (ci := 9) hK hP rfl rfl, sm_pre hP hK hN _⟩ rfl rfl hl.1 rfl (lv_room (Nat.le_of_ble_eq_true rfl)) d_M_onChannel_349 ⟨Nat.le_of_ble_eq_true rfl, Nat.le_of_ble_eq_true rfl⟩) hS (fun _ h_ => h_) (fun H locs hP hS => ?_)
          obtain ⟨τ11, hτ11⟩ : ∃ t_, t_ = (q_fail e1 (7 : Int64) σ) := ⟨_, rfl⟩
          rw [← hτ11] at hP
          have okτ11 : sm_ok τ11 := by rw [hτ11]; exact (ok_q_fail e1 (7 : Int64) (by omega) ok)
          exact W.vret hx hb hr (fun t ht_ hW => ⟨⟨τ11, rfl, (by subst hτ11; exact ((if_neg c1).trans ((if_pos c7).trans ((if_neg c8).trans ((if_pos c9))))).symm), by rw [sm_B, ht_]; exact hP⟩, hS.F ht_⟩) hS.2.2 d_M_onChannel_352
      · skip
        refine lv_iload hx hb d_M_onChannel_82 (lv_at hl 1 rfl) ?_
        refine lv_if_eq (tgt := 116) hx hb d_M_onChannel_84 (by decide) (fun _ => ?_) (fun h_ => absurd h_ (by decide))
        refine lv_iload_n hx hb d_M_onChannel_116 rfl (lv_at hl 6 rfl) ?_
        refine lv_bipush (v := 92) hx hb d_M_onChannel_117 (by decide) ?_
        refine lv_icmp_ne (tgt := 136) hx hb d_M_onChannel_119 (by decide) (fun _ => ?_) (fun h_ => absurd h_ (by rw [c8]; decide))
        refine lv_iload_n hx hb d_M_onChannel_136 rfl (lv_at hl 6 rfl) ?_
        refine lv_bipush (v := 94) hx hb d_M_onChannel_137 (by decide) ?_
        refine lv_icmp_ne (tgt := 259) hx hb d_M_onChannel_139 (by decide) (fun _ => ?_) (fun h_ => absurd h_ (by rw [c8]; decide))
        refine lv_iload_n hx hb d_M_onChannel_259 rfl (lv_at hl 6 rfl) ?_
        refine lv_bipush (v := 93) hx hb d_M_onChannel_260 (by decide) ?_
        refine lv_icmp_ne (tgt := 301) hx hb d_M_onChannel_262 (by decide) (fun _ => ?_) (fun h_ => absurd h_ (by rw [c8]; decide))
        refine lv_iload_n hx hb d_M_onChannel_301 rfl (lv_at hl 6 rfl) ?_
        refine lv_bipush (v := 97) hx hb d_M_onChannel_302 (by decide) ?_
        refine lv_icmp_ne (tgt := 344) hx hb d_M_onChannel_304 (by decide) (fun _ => ?_) (fun h_ => absurd h_ (by rw [c8]; decide))
        refine lv_aload_n hx hb d_M_onChannel_344 rfl (lv_at hl 4 rfl) ?_
        refine lv_iload_n hx hb d_M_onChannel_345 rfl (lv_at hl 5 rfl) ?_
        refine lv_ldc2 hx hb hown (ht _ xw1133) d_M_onChannel_346 ?_
        refine sm_cv (va_runV (As := [.int (nI e1), .long (7 : Int64)]) (rest := []) ⟨hx, hb, hml, hown, hts⟩ (c_M_fail l D α κ hα σ (nI e1) e1 (xb_lit e1 rfl) (by omega) (7 : Int64) ok) (cwV 2 hts (xa_V xw1112 xw1114 xs9 xw11 xw1115) rfl rfl rfl (by decide +kernel) ⟨Nat.le_of_ble_eq_true rfl, Nat.le_of_ble_eq_true rfl⟩) ⟨sm_blind, va_recv (q0 := 0) (ci := 9) hK hP rfl rfl, sm_pre hP hK hN _⟩ rfl rfl hl.1 rfl (lv_room (Nat.le_of_ble_eq_true rfl)) d_M_onChannel_349 ⟨Nat.le_of_ble_eq_true rfl, Nat.le_of_ble_eq_true rfl⟩) hS (fun _ h_ => h_) (fun H locs hP hS => ?_)
        obtain ⟨τ12, hτ12⟩ : ∃ t_, t_ = (q_fail e1 (7 : Int64) σ) := ⟨_, rfl⟩
        rw [← hτ12] at hP
        have okτ12 : sm_ok τ12 := by rw [hτ12]; exact (ok_q_fail e1 (7 : Int64) (by omega) ok)
        exact W.vret hx hb hr (fun t ht_ hW => ⟨⟨τ12, rfl, (by subst hτ12; exact ((if_neg c1).trans ((if_pos c7).trans ((if_pos c8)))).symm), by rw [sm_B, ht_]; exact hP⟩, hS.F ht_⟩) hS.2.2 d_M_onChannel_352
    · skip
      have hz := sm_c2 (x := x3) (by assumption) (by assumption)
      obtain ⟨a0, b0, d0, hs0, ea, eb, ed⟩ := ok.2 ((3 * e1) + x3.toInt32.toNatClampNeg) (by omega)
      refine lv_iconst (v := 3) hx hb d_M_onChannel_14 (by decide) ?_
      refine lv_iload_n hx hb d_M_onChannel_15 rfl (lv_at hl 1 rfl) ?_
      refine lv_imul hx hb d_M_onChannel_16 ?_
      refine lv_lload_n hx hb d_M_onChannel_17 rfl (lv_at hl 3 rfl) ?_
      refine lv_l2i (v := x3.toInt32) hx hb d_M_onChannel_18 (by rfl) ?_
      refine lv_iadd hx hb d_M_onChannel_19 ?_
      refine lv_goto (tgt := 24) hx hb d_M_onChannel_20 (by decide) ?_
      refine lv_istore (lv' := [(9, .int (((3 : Int32) * (nI e1)) + x3.toInt32)), (0, .ref (α 0)), (1, .int (nI e1)), (2, .int x2), (3, .long x3), (5, .long x4), (7, .long x5)]) hx hb d_M_onChannel_24 hl (by decide) rfl (fun ls hl => ?_)
      refine lv_iload hx hb d_M_onChannel_26 (lv_at hl 0 rfl) ?_
      refine lv_if_ge (tgt := 35) hx hb d_M_onChannel_28 (by decide) (fun _ => ?_) (fun h_ => absurd (sm_nn0 (xb_na (xb_nm (xb_lit (x := (3 : Int32)) 3 rfl) (xb_lit e1 rfl)) hz.1) (by omega)) h_)
      refine lv_aload_n hx hb d_M_onChannel_35 rfl (lv_at hl 1 rfl) ?_
      refine sm_g (v := .ref (α 28)) hx hb ht hown hK hP 30 (by decide) (ht _ xw982) (fun _ h_ => h_) rfl d_M_onChannel_36 ?_
      refine lv_iload hx hb d_M_onChannel_39 (lv_at hl 0 rfl) ?_
      refine sm_gaI (L := 6) (n := ((3 * e1) + x3.toInt32.toNatClampNeg)) (v := (σ.1 28 ((3 * e1) + x3.toInt32.toNatClampNeg))) hx hb hK hP 28 27 rfl rfl (xb_in (xb_na (xb_nm (xb_lit (x := (3 : Int32)) 3 rfl) (xb_lit e1 rfl)) hz.1) (by omega) (by decide)) (xb_cl (xb_na (xb_nm (xb_lit (x := (3 : Int32)) 3 rfl) (xb_lit e1 rfl)) hz.1) (by omega)) rfl d_M_onChannel_41 ?_
      refine lv_istore (lv' := [(10, .int (σ.1 28 ((3 * e1) + x3.toInt32.toNatClampNeg))), (9, .int (((3 : Int32) * (nI e1)) + x3.toInt32)), (0, .ref (α 0)), (1, .int (nI e1)), (2, .int x2), (3, .long x3), (5, .long x4), (7, .long x5)]) hx hb d_M_onChannel_42 hl (by decide) rfl (fun ls hl => ?_)
      refine lv_iload hx hb d_M_onChannel_44 (lv_at hl 0 rfl) ?_
      refine lv_iconst (v := 1) hx hb d_M_onChannel_46 (by decide) ?_
      refine lv_icmp_ne (tgt := 54) hx hb d_M_onChannel_47 (by decide) (fun c13 => ?_) (fun c13 => ?_)
      · skip
        refine lv_iconst (v := 0) hx hb d_M_onChannel_54 (by decide) ?_
        refine lv_istore (lv' := [(11, .int (0 : Int32)), (10, .int (σ.1 28 ((3 * e1) + x3.toInt32.toNatClampNeg))), (9, .int (((3 : Int32) * (nI e1)) + x3.toInt32)), (0, .ref (α 0)), (1, .int (nI e1)), (2, .int x2), (3, .long x3), (5, .long x4), (7, .long x5)]) hx hb d_M_onChannel_55 hl (by decide) rfl (fun ls hl => ?_)
        refine lv_iload hx hb d_M_onChannel_57 (lv_at hl 1 rfl) ?_
        refine lv_iconst (v := 2) hx hb d_M_onChannel_59 (by decide) ?_
        refine lv_icmp_eq (tgt := 69) hx hb d_M_onChannel_60 (by decide) (fun c14 => ?_) (fun c14 => ?_)
        · skip
          refine lv_iconst (v := 1) hx hb d_M_onChannel_69 (by decide) ?_
          refine lv_goto (tgt := 74) hx hb d_M_onChannel_70 (by decide) ?_
          refine lv_istore (lv' := [(12, .int (1 : Int32)), (11, .int (0 : Int32)), (10, .int (σ.1 28 ((3 * e1) + x3.toInt32.toNatClampNeg))), (9, .int (((3 : Int32) * (nI e1)) + x3.toInt32)), (0, .ref (α 0)), (1, .int (nI e1)), (2, .int x2), (3, .long x3), (5, .long x4), (7, .long x5)]) hx hb d_M_onChannel_74 hl (by decide) rfl (fun ls hl => ?_)
          refine lv_iload_n hx hb d_M_onChannel_76 rfl (lv_at hl 6 rfl) ?_
          refine lv_bipush (v := 91) hx hb d_M_onChannel_77 (by decide) ?_
          refine lv_icmp_ne (tgt := 116) hx hb d_M_onChannel_79 (by decide) (fun c15 => ?_) (fun c15 => ?_)
          · skip
            refine lv_iload_n hx hb d_M_onChannel_116 rfl (lv_at hl 6 rfl) ?_
            refine lv_bipush (v := 92) hx hb d_M_onChannel_117 (by decide) ?_
            refine lv_icmp_ne (tgt := 136) hx hb d_M_onChannel_119 (by decide) (fun c16 => ?_) (fun c16 => ?_)
            · skip
              refine lv_iload_n hx hb d_M_onChannel_136 rfl (lv_at hl 6 rfl) ?_
              refine lv_bipush (v := 94) hx hb d_M_onChannel_137 (by decide) ?_
              refine lv_icmp_ne (tgt := 259) hx hb d_M_onChannel_139 (by decide) (fun c17 => ?_) (fun c17 => ?_)
              · skip
                refine lv_iload_n hx hb d_M_onChannel_259 rfl (lv_at hl 6 rfl) ?_
                refine lv_bipush (v := 93) hx hb d_M_onChannel_260 (by decide) ?_
                refine lv_icmp_ne (tgt := 301) hx hb d_M_onChannel_262 (by decide) (fun c18 => ?_) (fun c18 => ?_)
                · skip
                  refine lv_iload_n hx hb d_M_onChannel_301 rfl (lv_at hl 6 rfl) ?_
                  refine lv_bipush (v := 97) hx hb d_M_onChannel_302 (by decide) ?_
                  refine lv_icmp_ne (tgt := 344) hx hb d_M_onChannel_304 (by decide) (fun c19 => ?_) (fun c19 => ?_)
                  · skip
                    refine lv_aload_n hx hb d_M_onChannel_344 rfl (lv_at hl 4 rfl) ?_
                    refine lv_iload_n hx hb d_M_onChannel_345 rfl (lv_at hl 5 rfl) ?_
                    refine lv_ldc2 hx hb hown (ht _ xw1133) d_M_onChannel_346 ?_
                    refine sm_cv (va_runV (As := [.int (nI e1), .long (7 : Int64)]) (rest := []) ⟨hx, hb, hml, hown, hts⟩ (c_M_fail l D α κ hα σ (nI e1) e1 (xb_lit e1 rfl) (by omega) (7 : Int64) ok) (cwV 2 hts (xa_V xw1112 xw1114 xs9 xw11 xw1115) rfl rfl rfl (by decide +kernel) ⟨Nat.le_of_ble_eq_true rfl, Nat.le_of_ble_eq_true rfl⟩) ⟨sm_blind, va_recv (q0 := 0) (ci := 9) hK hP rfl rfl, sm_pre hP hK hN _⟩ rfl rfl hl.1 rfl (lv_room (Nat.le_of_ble_eq_true rfl)) d_M_onChannel_349 ⟨Nat.le_of_ble_eq_true rfl, Nat.le_of_ble_eq_true rfl⟩) hS (fun _ h_ => h_) (fun H locs hP hS => ?_)
                    obtain ⟨τ13, hτ13⟩ : ∃ t_, t_ = (q_fail e1 (7 : Int64) σ) := ⟨_, rfl⟩
                    rw [← hτ13] at hP
                    have okτ13 : sm_ok τ13 := by rw [hτ13]; exact (ok_q_fail e1 (7 : Int64) (by omega) ok)
                    exact W.vret hx hb hr (fun t ht_ hW => ⟨⟨τ13, rfl, (by subst hτ13; exact ((if_neg c1).trans ((if_neg c7).trans ((if_neg c13).trans ((if_pos c14).trans ((if_neg c15).trans ((if_neg c16).trans ((if_neg c17).trans ((if_neg c18).trans ((if_neg c19)))))))))).symm), by rw [sm_B, ht_]; exact hP⟩, hS.F ht_⟩) hS.2.2 d_M_onChannel_352
                  · skip
                    refine lv_iload hx hb d_M_onChannel_307 (lv_at hl 0 rfl) ?_
                    refine lv_if_eq (tgt := 344) hx hb d_M_onChannel_309 (by decide) (fun h_ => absurd h_ (by decide)) (fun _ => ?_)
                    refine lv_iload hx hb d_M_onChannel_312 (lv_at hl 2 rfl) ?_
                    refine lv_iconst (v := 2) hx hb d_M_onChannel_314 (by decide) ?_
                    refine lv_icmp_ne (tgt := 335) hx hb d_M_onChannel_315 (by decide) (fun h_ => absurd c14 h_) (fun _ => ?_)
                    refine lv_aload_n hx hb d_M_onChannel_318 rfl (lv_at hl 4 rfl) ?_
                    refine lv_iload_n hx hb d_M_onChannel_319 rfl (lv_at hl 5 rfl) ?_
                    refine lv_bipush (v := 97) hx hb d_M_onChannel_320 (by decide) ?_
                    refine lv_aload_n hx hb d_M_onChannel_322 rfl (lv_at hl 4 rfl) ?_
                    refine sm_g (v := .ref (α 29)) hx hb ht hown hK hP 31 (by decide) (ht _ xw983) (fun _ h_ => h_) rfl d_M_onChannel_323 ?_
                    refine lv_iload hx hb d_M_onChannel_326 (lv_at hl 3 rfl) ?_
                    refine sm_gaJ (L := 6) (n := ((3 * e1) + x3.toInt32.toNatClampNeg)) (v := (σ.2 29 ((3 * e1) + x3.toInt32.toNatClampNeg))) hx hb hK hP 29 28 rfl rfl (xb_in (xb_na (xb_nm (xb_lit (x := (3 : Int32)) 3 rfl) (xb_lit e1 rfl)) hz.1) (by omega) (by decide)) (xb_cl (xb_na (xb_nm (xb_lit (x := (3 : Int32)) 3 rfl) (xb_lit e1 rfl)) hz.1) (by omega)) rfl d_M_onChannel_328 ?_
                    refine lv_lconst (v := 0) hx hb d_M_onChannel_329 (by decide) ?_
                    refine lv_lconst (v := 0) hx hb d_M_onChannel_330 (by decide) ?_
                    refine lv_lconst (v := 0) hx hb d_M_onChannel_331 (by decide) ?_
                    refine sm_cv (va_runV (As := [.int (nI e1), .int (97 : Int32), .long (σ.2 29 ((3 * e1) + x3.toInt32.toNatClampNeg)), .long (0 : Int64), .long (0 : Int64), .long (0 : Int64)]) (rest := []) ⟨hx, hb, hml, hown, hts⟩ (c_M_send l D α κ hα σ (nI e1) e1 (xb_lit e1 rfl) (by omega) (97 : Int32) (σ.2 29 ((3 * e1) + x3.toInt32.toNatClampNeg)) (0 : Int64) (0 : Int64) (0 : Int64) ok) (cwV 6 hts (xa_V xw1084 xw1086 xs6 xw11 xw1087) rfl rfl rfl (by decide +kernel) ⟨Nat.le_of_ble_eq_true rfl, Nat.le_of_ble_eq_true rfl⟩) ⟨sm_blind, va_recv (q0 := 0) (ci := 9) hK hP rfl rfl, sm_pre hP hK hN _⟩ rfl rfl hl.1 rfl (lv_room (Nat.le_of_ble_eq_true rfl)) d_M_onChannel_332 ⟨Nat.le_of_ble_eq_true rfl, Nat.le_of_ble_eq_true rfl⟩) hS (fun _ h_ => h_) (fun H locs hP hS => ?_)
                    obtain ⟨τ14, hτ14⟩ : ∃ t_, t_ = (q_send e1 (97 : Int32) (σ.2 29 ((3 * e1) + x3.toInt32.toNatClampNeg)) (0 : Int64) (0 : Int64) (0 : Int64) σ) := ⟨_, rfl⟩
                    rw [← hτ14] at hP
                    have okτ14 : sm_ok τ14 := by rw [hτ14]; exact (ok_q_send e1 (97 : Int32) (σ.2 29 ((3 * e1) + x3.toInt32.toNatClampNeg)) (0 : Int64) (0 : Int64) (0 : Int64) (by omega) ok)
                    refine lv_aload_n hx hb d_M_onChannel_335 rfl (lv_at hl 4 rfl) ?_
                    refine lv_iload hx hb d_M_onChannel_336 (lv_at hl 3 rfl) ?_
                    refine sm_cv (va_runV (As := [.int (((3 : Int32) * (nI e1)) + x3.toInt32)]) (rest := []) ⟨hx, hb, hml, hown, hts⟩ (c_M_release l D α κ hα τ14 (((3 : Int32) * (nI e1)) + x3.toInt32) ((3 * e1) + x3.toInt32.toNatClampNeg) (xb_na (xb_nm (xb_lit (x := (3 : Int32)) 3 rfl) (xb_lit e1 rfl)) hz.1) (by omega)) (cwV 1 hts (xa_V xw1184 xw1186 xs20 xw11 xw1187) rfl rfl rfl (by decide +kernel) ⟨Nat.le_of_ble_eq_true rfl, Nat.le_of_ble_eq_true rfl⟩) ⟨sm_blind, va_recv (q0 := 0) (ci := 9) hK hP rfl rfl, sm_pre hP hK hN _⟩ rfl rfl hl.1 rfl (lv_room (Nat.le_of_ble_eq_true rfl)) d_M_onChannel_338 ⟨Nat.le_of_ble_eq_true rfl, Nat.le_of_ble_eq_true rfl⟩) hS (fun _ h_ => h_) (fun H locs hP hS => ?_)
                    obtain ⟨τ15, hτ15⟩ : ∃ t_, t_ = (q_release ((3 * e1) + x3.toInt32.toNatClampNeg) τ14) := ⟨_, rfl⟩
                    rw [← hτ15] at hP
                    have okτ15 : sm_ok τ15 := by rw [hτ15]; exact (ok_q_release ((3 * e1) + x3.toInt32.toNatClampNeg) (by omega) okτ14)
                    refine lv_goto (tgt := 352) hx hb d_M_onChannel_341 (by decide) ?_
                    exact W.vret hx hb hr (fun t ht_ hW => ⟨⟨τ15, rfl, (by subst hτ15; subst hτ14; exact ((if_neg c1).trans ((if_neg c7).trans ((if_neg c13).trans ((if_pos c14).trans ((if_neg c15).trans ((if_neg c16).trans ((if_neg c17).trans ((if_neg c18).trans ((if_pos c19)))))))))).symm), by rw [sm_B, ht_]; exact hP⟩, hS.F ht_⟩) hS.2.2 d_M_onChannel_352
                · skip
                  refine lv_iload hx hb d_M_onChannel_265 (lv_at hl 0 rfl) ?_
                  refine lv_if_eq (tgt := 301) hx hb d_M_onChannel_267 (by decide) (fun h_ => absurd h_ (by decide)) (fun _ => ?_)
                  refine lv_lload hx hb d_M_onChannel_270 (lv_at hl 8 rfl) ?_
                  refine lv_lconst (v := 1) hx hb d_M_onChannel_272 (by decide) ?_
                  refine xb_llt (tgt := 301) hx hb d_M_onChannel_273 d_M_onChannel_274 (by decide) (fun c20 => ?_) (fun c20 => ?_)
                  · skip
                    refine lv_iload_n hx hb d_M_onChannel_301 rfl (lv_at hl 6 rfl) ?_
                    refine lv_bipush (v := 97) hx hb d_M_onChannel_302 (by decide) ?_
                    refine lv_icmp_ne (tgt := 344) hx hb d_M_onChannel_304 (by decide) (fun _ => ?_) (fun h_ => absurd h_ (by rw [c18]; decide))
                    refine lv_aload_n hx hb d_M_onChannel_344 rfl (lv_at hl 4 rfl) ?_
                    refine lv_iload_n hx hb d_M_onChannel_345 rfl (lv_at hl 5 rfl) ?_
                    refine lv_ldc2 hx hb hown (ht _ xw1133) d_M_onChannel_346 ?_
                    refine sm_cv (va_runV (As := [.int (nI e1), .long (7 : Int64)]) (rest := []) ⟨hx, hb, hml, hown, hts⟩ (c_M_fail l D α κ hα σ (nI e1) e1 (xb_lit e1 rfl) (by omega) (7 : Int64) ok) (cwV 2 hts (xa_V xw1112 xw1114 xs9 xw11 xw1115) rfl rfl rfl (by decide +kernel) ⟨Nat.le_of_ble_eq_true rfl, Nat.le_of_ble_eq_true rfl⟩) ⟨sm_blind, va_recv (q0 := 0) (ci := 9) hK hP rfl rfl, sm_pre hP hK hN _⟩ rfl rfl hl.1 rfl (lv_room (Nat.le_of_ble_eq_true rfl)) d_M_onChannel_349 ⟨Nat.le_of_ble_eq_true rfl, Nat.le_of_ble_eq_true rfl⟩) hS (fun _ h_ => h_) (fun H locs hP hS => ?_)
                    obtain ⟨τ16, hτ16⟩ : ∃ t_, t_ = (q_fail e1 (7 : Int64) σ) := ⟨_, rfl⟩
                    rw [← hτ16] at hP
                    have okτ16 : sm_ok τ16 := by rw [hτ16]; exact (ok_q_fail e1 (7 : Int64) (by omega) ok)
                    exact W.vret hx hb hr (fun t ht_ hW => ⟨⟨τ16, rfl, (by subst hτ16; exact ((if_neg c1).trans ((if_neg c7).trans ((if_neg c13).trans ((if_pos c14).trans ((if_neg c15).trans ((if_neg c16).trans ((if_neg c17).trans ((if_pos c18).trans ((if_pos c20)))))))))).symm), by rw [sm_B, ht_]; exact hP⟩, hS.F ht_⟩) hS.2.2 d_M_onChannel_352
                  · skip
                    refine lv_lload hx hb d_M_onChannel_277 (lv_at hl 8 rfl) ?_
                    refine lv_ldc2 hx hb hown (ht _ xw1194) d_M_onChannel_279 ?_
                    refine xb_lgt (tgt := 301) hx hb d_M_onChannel_282 d_M_onChannel_283 (by decide) (fun c21 => ?_) (fun c21 => ?_)
                    · skip
                      refine lv_iload_n hx hb d_M_onChannel_301 rfl (lv_at hl 6 rfl) ?_
                      refine lv_bipush (v := 97) hx hb d_M_onChannel_302 (by decide) ?_
                      refine lv_icmp_ne (tgt := 344) hx hb d_M_onChannel_304 (by decide) (fun _ => ?_) (fun h_ => absurd h_ (by rw [c18]; decide))
                      refine lv_aload_n hx hb d_M_onChannel_344 rfl (lv_at hl 4 rfl) ?_
                      refine lv_iload_n hx hb d_M_onChannel_345 rfl (lv_at hl 5 rfl) ?_
                      refine lv_ldc2 hx hb hown (ht _ xw1133) d_M_onChannel_346 ?_
                      refine sm_cv (va_runV (As := [.int (nI e1), .long (7 : Int64)]) (rest := []) ⟨hx, hb, hml, hown, hts⟩ (c_M_fail l D α κ hα σ (nI e1) e1 (xb_lit e1 rfl) (by omega) (7 : Int64) ok) (cwV 2 hts (xa_V xw1112 xw1114 xs9 xw11 xw1115) rfl rfl rfl (by decide +kernel) ⟨Nat.le_of_ble_eq_true rfl, Nat.le_of_ble_eq_true rfl⟩) ⟨sm_blind, va_recv (q0 := 0) (ci := 9) hK hP rfl rfl, sm_pre hP hK hN _⟩ rfl rfl hl.1 rfl (lv_room (Nat.le_of_ble_eq_true rfl)) d_M_onChannel_349 ⟨Nat.le_of_ble_eq_true rfl, Nat.le_of_ble_eq_true rfl⟩) hS (fun _ h_ => h_) (fun H locs hP hS => ?_)
                      obtain ⟨τ17, hτ17⟩ : ∃ t_, t_ = (q_fail e1 (7 : Int64) σ) := ⟨_, rfl⟩
                      rw [← hτ17] at hP
                      have okτ17 : sm_ok τ17 := by rw [hτ17]; exact (ok_q_fail e1 (7 : Int64) (by omega) ok)
                      exact W.vret hx hb hr (fun t ht_ hW => ⟨⟨τ17, rfl, (by subst hτ17; exact ((if_neg c1).trans ((if_neg c7).trans ((if_neg c13).trans ((if_pos c14).trans ((if_neg c15).trans ((if_neg c16).trans ((if_neg c17).trans ((if_pos c18).trans ((if_neg c20).trans ((if_pos c21))))))))))).symm), by rw [sm_B, ht_]; exact hP⟩, hS.F ht_⟩) hS.2.2 d_M_onChannel_352
                    · skip
                      refine lv_aload_n hx hb d_M_onChannel_286 rfl (lv_at hl 4 rfl) ?_
                      refine sm_g (v := .ref (α 30)) hx hb ht hown hK hP 32 (by decide) (ht _ xw984) (fun _ h_ => h_) rfl d_M_onChannel_287 ?_
                      refine lv_iload hx hb d_M_onChannel_290 (lv_at hl 3 rfl) ?_
                      refine lv_dup2_11 hx hb d_M_onChannel_292 rfl rfl ?_
                      refine sm_gaJ (L := 6) (n := ((3 * e1) + x3.toInt32.toNatClampNeg)) (v := (σ.2 30 ((3 * e1) + x3.toInt32.toNatClampNeg))) hx hb hK hP 30 29 rfl rfl (xb_in (xb_na (xb_nm (xb_lit (x := (3 : Int32)) 3 rfl) (xb_lit e1 rfl)) hz.1) (by omega) (by decide)) (xb_cl (xb_na (xb_nm (xb_lit (x := (3 : Int32)) 3 rfl) (xb_lit e1 rfl)) hz.1) (by omega)) rfl d_M_onChannel_293 ?_
                      refine lv_lload hx hb d_M_onChannel_294 (lv_at hl 8 rfl) ?_
                      refine lv_ladd hx hb d_M_onChannel_296 ?_
                      refine sm_paJ (L := 6) (n := ((3 * e1) + x3.toInt32.toNatClampNeg)) (x := ((σ.2 30 ((3 * e1) + x3.toInt32.toNatClampNeg)) + x4)) hx hb hK hP 30 29 rfl rfl hD hS (xb_in (xb_na (xb_nm (xb_lit (x := (3 : Int32)) 3 rfl) (xb_lit e1 rfl)) hz.1) (by omega) (by decide)) (xb_cl (xb_na (xb_nm (xb_lit (x := (3 : Int32)) 3 rfl) (xb_lit e1 rfl)) hz.1) (by omega)) sm_s_30 d_M_onChannel_297 (fun H locs hP hS => ?_)
                      refine lv_goto (tgt := 352) hx hb d_M_onChannel_298 (by decide) ?_
                      exact W.vret hx hb hr (fun t ht_ hW => ⟨⟨(xb_sl σ 30 ((3 * e1) + x3.toInt32.toNatClampNeg) ((σ.2 30 ((3 * e1) + x3.toInt32.toNatClampNeg)) + x4)), rfl, ((if_neg c1).trans ((if_neg c7).trans ((if_neg c13).trans ((if_pos c14).trans ((if_neg c15).trans ((if_neg c16).trans ((if_neg c17).trans ((if_pos c18).trans ((if_neg c20).trans ((if_neg c21))))))))))).symm, by rw [sm_B, ht_]; exact hP⟩, hS.F ht_⟩) hS.2.2 d_M_onChannel_352
              · skip
                refine lv_iload hx hb d_M_onChannel_142 (lv_at hl 0 rfl) ?_
                refine lv_if_eq (tgt := 259) hx hb d_M_onChannel_144 (by decide) (fun h_ => absurd h_ (by decide)) (fun _ => ?_)
                refine lv_lload hx hb d_M_onChannel_147 (lv_at hl 8 rfl) ?_
                refine lv_lconst (v := 1) hx hb d_M_onChannel_149 (by decide) ?_
                refine xb_llt (tgt := 259) hx hb d_M_onChannel_150 d_M_onChannel_151 (by decide) (fun c22 => ?_) (fun c22 => ?_)
                · skip
                  refine lv_iload_n hx hb d_M_onChannel_259 rfl (lv_at hl 6 rfl) ?_
                  refine lv_bipush (v := 93) hx hb d_M_onChannel_260 (by decide) ?_
                  refine lv_icmp_ne (tgt := 301) hx hb d_M_onChannel_262 (by decide) (fun _ => ?_) (fun h_ => absurd h_ (by rw [c17]; decide))
                  refine lv_iload_n hx hb d_M_onChannel_301 rfl (lv_at hl 6 rfl) ?_
                  refine lv_bipush (v := 97) hx hb d_M_onChannel_302 (by decide) ?_
                  refine lv_icmp_ne (tgt := 344) hx hb d_M_onChannel_304 (by decide) (fun _ => ?_) (fun h_ => absurd h_ (by rw [c17]; decide))
                  refine lv_aload_n hx hb d_M_onChannel_344 rfl (lv_at hl 4 rfl) ?_
                  refine lv_iload_n hx hb d_M_onChannel_345 rfl (lv_at hl 5 rfl) ?_
                  refine lv_ldc2 hx hb hown (ht _ xw1133) d_M_onChannel_346 ?_
                  refine sm_cv (va_runV (As := [.int (nI e1), .long (7 : Int64)]) (rest := []) ⟨hx, hb, hml, hown, hts⟩ (c_M_fail l D α κ hα σ (nI e1) e1 (xb_lit e1 rfl) (by omega) (7 : Int64) ok) (cwV 2 hts (xa_V xw1112 xw1114 xs9 xw11 xw1115) rfl rfl rfl (by decide +kernel) ⟨Nat.le_of_ble_eq_true rfl, Nat.le_of_ble_eq_true rfl⟩) ⟨sm_blind, va_recv (q0 := 0) (ci := 9) hK hP rfl rfl, sm_pre hP hK hN _⟩ rfl rfl hl.1 rfl (lv_room (Nat.le_of_ble_eq_true rfl)) d_M_onChannel_349 ⟨Nat.le_of_ble_eq_true rfl, Nat.le_of_ble_eq_true rfl⟩) hS (fun _ h_ => h_) (fun H locs hP hS => ?_)
                  obtain ⟨τ18, hτ18⟩ : ∃ t_, t_ = (q_fail e1 (7 : Int64) σ) := ⟨_, rfl⟩
                  rw [← hτ18] at hP
                  have okτ18 : sm_ok τ18 := by rw [hτ18]; exact (ok_q_fail e1 (7 : Int64) (by omega) ok)
                  exact W.vret hx hb hr (fun t ht_ hW => ⟨⟨τ18, rfl, (by subst hτ18; exact ((if_neg c1).trans ((if_neg c7).trans ((if_neg c13).trans ((if_pos c14).trans ((if_neg c15).trans ((if_neg c16).trans ((if_pos c17).trans ((if_pos c22))))))))).symm), by rw [sm_B, ht_]; exact hP⟩, hS.F ht_⟩) hS.2.2 d_M_onChannel_352
                · skip
                  refine lv_lload hx hb d_M_onChannel_154 (lv_at hl 8 rfl) ?_
                  refine lv_ldc2 hx hb hown (ht _ xw1193) d_M_onChannel_156 ?_
                  refine xb_lgt (tgt := 259) hx hb d_M_onChannel_159 d_M_onChannel_160 (by decide) (fun c23 => ?_) (fun c23 => ?_)
                  · skip
                    refine lv_iload_n hx hb d_M_onChannel_259 rfl (lv_at hl 6 rfl) ?_
                    refine lv_bipush (v := 93) hx hb d_M_onChannel_260 (by decide) ?_
                    refine lv_icmp_ne (tgt := 301) hx hb d_M_onChannel_262 (by decide) (fun _ => ?_) (fun h_ => absurd h_ (by rw [c17]; decide))
                    refine lv_iload_n hx hb d_M_onChannel_301 rfl (lv_at hl 6 rfl) ?_
                    refine lv_bipush (v := 97) hx hb d_M_onChannel_302 (by decide) ?_
                    refine lv_icmp_ne (tgt := 344) hx hb d_M_onChannel_304 (by decide) (fun _ => ?_) (fun h_ => absurd h_ (by rw [c17]; decide))
                    refine lv_aload_n hx hb d_M_onChannel_344 rfl (lv_at hl 4 rfl) ?_
                    refine lv_iload_n hx hb d_M_onChannel_345 rfl (lv_at hl 5 rfl) ?_
                    refine lv_ldc2 hx hb hown (ht _ xw1133) d_M_onChannel_346 ?_
                    refine sm_cv (va_runV (As := [.int (nI e1), .long (7 : Int64)]) (rest := []) ⟨hx, hb, hml, hown, hts⟩ (c_M_fail l D α κ hα σ (nI e1) e1 (xb_lit e1 rfl) (by omega) (7 : Int64) ok) (cwV 2 hts (xa_V xw1112 xw1114 xs9 xw11 xw1115) rfl rfl rfl (by decide +kernel) ⟨Nat.le_of_ble_eq_true rfl, Nat.le_of_ble_eq_true rfl⟩) ⟨sm_blind, va_recv (q0 := 0) (ci := 9) hK hP rfl rfl, sm_pre hP hK hN _⟩ rfl rfl hl.1 rfl (lv_room (Nat.le_of_ble_eq_true rfl)) d_M_onChannel_349 ⟨Nat.le_of_ble_eq_true rfl, Nat.le_of_ble_eq_true rfl⟩) hS (fun _ h_ => h_) (fun H locs hP hS => ?_)
                    obtain ⟨τ19, hτ19⟩ : ∃ t_, t_ = (q_fail e1 (7 : Int64) σ) := ⟨_, rfl⟩
                    rw [← hτ19] at hP
                    have okτ19 : sm_ok τ19 := by rw [hτ19]; exact (ok_q_fail e1 (7 : Int64) (by omega) ok)
                    exact W.vret hx hb hr (fun t ht_ hW => ⟨⟨τ19, rfl, (by subst hτ19; exact ((if_neg c1).trans ((if_neg c7).trans ((if_neg c13).trans ((if_pos c14).trans ((if_neg c15).trans ((if_neg c16).trans ((if_pos c17).trans ((if_neg c22).trans ((if_pos c23)))))))))).symm), by rw [sm_B, ht_]; exact hP⟩, hS.F ht_⟩) hS.2.2 d_M_onChannel_352
                  · skip
                    refine lv_lload hx hb d_M_onChannel_163 (lv_at hl 8 rfl) ?_
                    refine lv_aload_n hx hb d_M_onChannel_165 rfl (lv_at hl 4 rfl) ?_
                    refine sm_g (v := .ref (α 31)) hx hb ht hown hK hP 33 (by decide) (ht _ xw985) (fun _ h_ => h_) rfl d_M_onChannel_166 ?_
                    refine lv_iload hx hb d_M_onChannel_169 (lv_at hl 3 rfl) ?_
                    refine sm_gaI (L := 6) (n := ((3 * e1) + x3.toInt32.toNatClampNeg)) (v := (σ.1 31 ((3 * e1) + x3.toInt32.toNatClampNeg))) hx hb hK hP 31 30 rfl rfl (xb_in (xb_na (xb_nm (xb_lit (x := (3 : Int32)) 3 rfl) (xb_lit e1 rfl)) hz.1) (by omega) (by decide)) (xb_cl (xb_na (xb_nm (xb_lit (x := (3 : Int32)) 3 rfl) (xb_lit e1 rfl)) hz.1) (by omega)) rfl d_M_onChannel_171 ?_
                    refine lv_i2l (v := (σ.1 31 ((3 * e1) + x3.toInt32.toNatClampNeg)).toInt64) hx hb d_M_onChannel_172 (by rfl) ?_
                    refine xb_lgt (tgt := 259) hx hb d_M_onChannel_173 d_M_onChannel_174 (by decide) (fun c24 => ?_) (fun c24 => ?_)
                    · skip
                      refine lv_iload_n hx hb d_M_onChannel_259 rfl (lv_at hl 6 rfl) ?_
                      refine lv_bipush (v := 93) hx hb d_M_onChannel_260 (by decide) ?_
                      refine lv_icmp_ne (tgt := 301) hx hb d_M_onChannel_262 (by decide) (fun _ => ?_) (fun h_ => absurd h_ (by rw [c17]; decide))
                      refine lv_iload_n hx hb d_M_onChannel_301 rfl (lv_at hl 6 rfl) ?_
                      refine lv_bipush (v := 97) hx hb d_M_onChannel_302 (by decide) ?_
                      refine lv_icmp_ne (tgt := 344) hx hb d_M_onChannel_304 (by decide) (fun _ => ?_) (fun h_ => absurd h_ (by rw [c17]; decide))
                      refine lv_aload_n hx hb d_M_onChannel_344 rfl (lv_at hl 4 rfl) ?_
                      refine lv_iload_n hx hb d_M_onChannel_345 rfl (lv_at hl 5 rfl) ?_
                      refine lv_ldc2 hx hb hown (ht _ xw1133) d_M_onChannel_346 ?_
                      refine sm_cv (va_runV (As := [.int (nI e1), .long (7 : Int64)]) (rest := []) ⟨hx, hb, hml, hown, hts⟩ (c_M_fail l D α κ hα σ (nI e1) e1 (xb_lit e1 rfl) (by omega) (7 : Int64) ok) (cwV 2 hts (xa_V xw1112 xw1114 xs9 xw11 xw1115) rfl rfl rfl (by decide +kernel) ⟨Nat.le_of_ble_eq_true rfl, Nat.le_of_ble_eq_true rfl⟩) ⟨sm_blind, va_recv (q0 := 0) (ci := 9) hK hP rfl rfl, sm_pre hP hK hN _⟩ rfl rfl hl.1 rfl (lv_room (Nat.le_of_ble_eq_true rfl)) d_M_onChannel_349 ⟨Nat.le_of_ble_eq_true rfl, Nat.le_of_ble_eq_true rfl⟩) hS (fun _ h_ => h_) (fun H locs hP hS => ?_)
                      obtain ⟨τ20, hτ20⟩ : ∃ t_, t_ = (q_fail e1 (7 : Int64) σ) := ⟨_, rfl⟩
                      rw [← hτ20] at hP
                      have okτ20 : sm_ok τ20 := by rw [hτ20]; exact (ok_q_fail e1 (7 : Int64) (by omega) ok)
                      exact W.vret hx hb hr (fun t ht_ hW => ⟨⟨τ20, rfl, (by subst hτ20; exact ((if_neg c1).trans ((if_neg c7).trans ((if_neg c13).trans ((if_pos c14).trans ((if_neg c15).trans ((if_neg c16).trans ((if_pos c17).trans ((if_neg c22).trans ((if_neg c23).trans ((if_pos c24))))))))))).symm), by rw [sm_B, ht_]; exact hP⟩, hS.F ht_⟩) hS.2.2 d_M_onChannel_352
                    · skip
                      obtain ⟨k0, hk1, hk8, hka, ex4⟩ := sm_x8 (x := x4) (by assumption) (by assumption) (by omega) ea (by assumption)
                      refine lv_aload_n hx hb d_M_onChannel_177 rfl (lv_at hl 4 rfl) ?_
                      refine sm_g (v := .ref (α 31)) hx hb ht hown hK hP 33 (by decide) (ht _ xw985) (fun _ h_ => h_) rfl d_M_onChannel_178 ?_
                      refine lv_iload hx hb d_M_onChannel_181 (lv_at hl 3 rfl) ?_
                      refine lv_dup2_11 hx hb d_M_onChannel_183 rfl rfl ?_
                      refine sm_gaI (L := 6) (n := ((3 * e1) + x3.toInt32.toNatClampNeg)) (v := (σ.1 31 ((3 * e1) + x3.toInt32.toNatClampNeg))) hx hb hK hP 31 30 rfl rfl (xb_in (xb_na (xb_nm (xb_lit (x := (3 : Int32)) 3 rfl) (xb_lit e1 rfl)) hz.1) (by omega) (by decide)) (xb_cl (xb_na (xb_nm (xb_lit (x := (3 : Int32)) 3 rfl) (xb_lit e1 rfl)) hz.1) (by omega)) rfl d_M_onChannel_184 ?_
                      refine lv_lload hx hb d_M_onChannel_185 (lv_at hl 8 rfl) ?_
                      refine lv_l2i (v := x4.toInt32) hx hb d_M_onChannel_187 (by rfl) ?_
                      refine lv_isub hx hb d_M_onChannel_188 ?_
                      refine sm_paI (L := 6) (n := ((3 * e1) + x3.toInt32.toNatClampNeg)) (x := ((σ.1 31 ((3 * e1) + x3.toInt32.toNatClampNeg)) - x4.toInt32)) hx hb hK hP 31 30 rfl rfl hD hS (xb_in (xb_na (xb_nm (xb_lit (x := (3 : Int32)) 3 rfl) (xb_lit e1 rfl)) hz.1) (by omega) (by decide)) (xb_cl (xb_na (xb_nm (xb_lit (x := (3 : Int32)) 3 rfl) (xb_lit e1 rfl)) hz.1) (by omega)) sm_s_31 d_M_onChannel_189 (fun H locs hP hS => ?_)
                      refine lv_lload hx hb d_M_onChannel_190 (lv_at hl 8 rfl) ?_
                      refine lv_l2i (v := x4.toInt32) hx hb d_M_onChannel_192 (by rfl) ?_
                      refine lv_iconst (v := 1) hx hb d_M_onChannel_193 (by decide) ?_
                      refine lv_isub hx hb d_M_onChannel_194 ?_
                      refine lv_istore (lv' := [(13, .int (x4.toInt32 - (1 : Int32))), (12, .int (1 : Int32)), (11, .int (0 : Int32)), (10, .int (σ.1 28 ((3 * e1) + x3.toInt32.toNatClampNeg))), (9, .int (((3 : Int32) * (nI e1)) + x3.toInt32)), (0, .ref (α 0)), (1, .int (nI e1)), (2, .int x2), (3, .long x3), (5, .long x4), (7, .long x5)]) hx hb d_M_onChannel_195 hl (by decide) rfl (fun ls hl => ?_)
                      have loop : ∀ (s_ : Int32) (hs2 : s_ = (2 : Int32)) (n b_ : Nat) (σ' : xb_St) (j_ : Int32) (ls : Array Slot) (H : Heap) (locs : List Loc), j_.toInt < n → (b_ : Int) + j_.toInt < 24 → σ'.1 32 ((3 * e1) + x3.toInt32.toNatClampNeg) = nI b_ → lv_has ls 14 [(13, .int j_), (12, .int (1 : Int32)), (11, .int (0 : Int32)), (10, .int s_), (9, .int (((3 : Int32) * (nI e1)) + x3.toInt32)), (0, .ref (α 0)), (1, .int (nI e1)), (2, .int x2), (3, .long x3), (5, .long x4), (7, .long x5)] → va_P D xC (sm_w α κ σ') H → va_S (xb_A α 35) s.heap H locs → f_on n ((3 * e1) + x3.toInt32.toNatClampNeg) j_ x5 σ' = q_on e1 x2 x3 x4 x5 σ → W p l e (headSpec w_M_onChannel ({ frames := 4, cells := 0, slots := 0, locals := 115 })).room s m ([.ref (α 0), .int (nI e1), .int x2, .long x3, .long x4, .long x5] : List Value).toArray below meth c H locs 0 0 (MQ below (va_Qv (fun u : xb_St => u = q_on e1 x2 x3 x4 x5 σ) (sm_B D α κ) (xb_A α 35)) ([.ref (α 0), .int (nI e1), .int x2, .long x3, .long x4, .long x5] : List Value).toArray s 0 0 (xb_A α 35)) (F0 m 197 ls []) := by
                        intro s_ hs2 n
                        induction n with
                        | zero =>
                          intro b_ σ j_ ls H locs hlt hbj hm hl hP hS hF
                          have hneg : j_ < 0 := by rw [Int32.lt_iff_toInt_lt]; show j_.toInt < 0; omega
                          refine lv_iload hx hb d_M_onChannel_197 (lv_at hl 0 rfl) ?_
                          refine lv_if_lt (tgt := 256) hx hb d_M_onChannel_199 (by decide) (fun _ => ?_) (fun h_ => absurd hneg h_)
                          refine lv_goto (tgt := 352) hx hb d_M_onChannel_256 (by decide) ?_
                          exact W.vret hx hb hr (fun t ht_ hW => ⟨⟨σ, rfl, hF, by rw [sm_B, ht_]; exact hP⟩, hS.F ht_⟩) hS.2.2 d_M_onChannel_352
                        | succ n ih =>
                          intro b_ σ j_ ls H locs hlt hbj hm hl hP hS hF
                          rw [f_on_s] at hF
                          refine lv_iload hx hb d_M_onChannel_197 (lv_at hl 0 rfl) ?_
                          refine lv_if_lt (tgt := 256) hx hb d_M_onChannel_199 (by decide) (fun c51 => ?_) (fun c51 => ?_)
                          · skip
                            refine lv_goto (tgt := 352) hx hb d_M_onChannel_256 (by decide) ?_
                            exact W.vret hx hb hr (fun t ht_ hW => ⟨⟨σ, rfl, (((if_pos c51)).symm.trans hF), by rw [sm_B, ht_]; exact hP⟩, hS.F ht_⟩) hS.2.2 d_M_onChannel_352
                          · skip
                            have hj1 := xb_nnI c51
                            have hy := xb_nb hm (by omega)
                            have hy0 : (σ.1 32 ((3 * e1) + x3.toInt32.toNatClampNeg)).toNatClampNeg = b_ := hy.2
                            refine lv_iload hx hb d_M_onChannel_202 (lv_at hl 3 rfl) ?_
                            refine lv_iconst (v := 2) hx hb d_M_onChannel_204 (by decide) ?_
                            refine lv_icmp_ne (tgt := 256) hx hb d_M_onChannel_205 (by decide) (fun h_ => absurd hs2 h_) (fun _ => ?_)
                            refine lv_aload_n hx hb d_M_onChannel_208 rfl (lv_at hl 5 rfl) ?_
                            refine sm_g (v := .ref (α 34)) hx hb ht hown hK hP 36 (by decide) (ht _ xw988) (fun _ h_ => h_) rfl d_M_onChannel_209 ?_
                            refine lv_bipush (v := 32) hx hb d_M_onChannel_212 (by decide) ?_
                            refine lv_iload hx hb d_M_onChannel_214 (lv_at hl 4 rfl) ?_
                            refine lv_imul hx hb d_M_onChannel_216 ?_
                            refine lv_aload_n hx hb d_M_onChannel_217 rfl (lv_at hl 5 rfl) ?_
                            refine sm_g (v := .ref (α 32)) hx hb ht hown hK hP 34 (by decide) (ht _ xw986) (fun _ h_ => h_) rfl d_M_onChannel_218 ?_
                            refine lv_iload hx hb d_M_onChannel_221 (lv_at hl 4 rfl) ?_
                            refine sm_gaI (L := 6) (n := ((3 * e1) + x3.toInt32.toNatClampNeg)) (v := (σ.1 32 ((3 * e1) + x3.toInt32.toNatClampNeg))) hx hb hK hP 32 31 rfl rfl (xb_in (xb_na (xb_nm (xb_lit (x := (3 : Int32)) 3 rfl) (xb_lit e1 rfl)) hz.1) (by omega) (by decide)) (xb_cl (xb_na (xb_nm (xb_lit (x := (3 : Int32)) 3 rfl) (xb_lit e1 rfl)) hz.1) (by omega)) rfl d_M_onChannel_223 ?_
                            refine lv_iadd hx hb d_M_onChannel_224 ?_
                            refine lv_lload hx hb d_M_onChannel_225 (lv_at hl 10 rfl) ?_
                            refine lv_bipush (v := 8) hx hb d_M_onChannel_227 (by decide) ?_
                            refine lv_iload hx hb d_M_onChannel_229 (lv_at hl 0 rfl) ?_
                            refine lv_imul hx hb d_M_onChannel_231 ?_
                            refine lv_lushr (v := (xb_lushr x5 ((8 : Int32) * j_))) hx hb d_M_onChannel_232 rfl ?_
                            refine lv_l2i (v := (xb_lushr x5 ((8 : Int32) * j_)).toInt32) hx hb d_M_onChannel_233 (by rfl) ?_
                            refine lv_sipush (v := 255) hx hb d_M_onChannel_234 (by decide) ?_
                            refine lv_iand hx hb d_M_onChannel_237 ?_
                            refine sm_paI (L := 192) (n := ((32 * ((3 * e1) + x3.toInt32.toNatClampNeg)) + (σ.1 32 ((3 * e1) + x3.toInt32.toNatClampNeg)).toNatClampNeg)) (x := ((xb_lushr x5 ((8 : Int32) * j_)).toInt32 &&& (255 : Int32))) hx hb hK hP 34 33 rfl rfl hD hS (xb_in (xb_na (xb_nm (xb_lit (x := (32 : Int32)) 32 rfl) (xb_na (xb_nm (xb_lit (x := (3 : Int32)) 3 rfl) (xb_lit e1 rfl)) hz.1)) hy.1) (by omega) (by decide)) (xb_cl (xb_na (xb_nm (xb_lit (x := (32 : Int32)) 32 rfl) (xb_na (xb_nm (xb_lit (x := (3 : Int32)) 3 rfl) (xb_lit e1 rfl)) hz.1)) hy.1) (by omega)) sm_s_34 d_M_onChannel_238 (fun H locs hP hS => ?_)
                            refine lv_aload_n hx hb d_M_onChannel_239 rfl (lv_at hl 5 rfl) ?_
                            refine sm_g (v := .ref (α 32)) hx hb ht hown hK hP 34 (by decide) (ht _ xw986) (fun _ h_ => h_) rfl d_M_onChannel_240 ?_
                            refine lv_iload hx hb d_M_onChannel_243 (lv_at hl 4 rfl) ?_
                            refine lv_dup2_11 hx hb d_M_onChannel_245 rfl rfl ?_
                            refine sm_gaI (L := 6) (n := ((3 * e1) + x3.toInt32.toNatClampNeg)) (v := (σ.1 32 ((3 * e1) + x3.toInt32.toNatClampNeg))) hx hb hK hP 32 31 rfl rfl (xb_in (xb_na (xb_nm (xb_lit (x := (3 : Int32)) 3 rfl) (xb_lit e1 rfl)) hz.1) (by omega) (by decide)) (xb_cl (xb_na (xb_nm (xb_lit (x := (3 : Int32)) 3 rfl) (xb_lit e1 rfl)) hz.1) (by omega)) (xb_i_nk (by decide)) d_M_onChannel_246 ?_
                            refine lv_iconst (v := 1) hx hb d_M_onChannel_247 (by decide) ?_
                            refine lv_iadd hx hb d_M_onChannel_248 ?_
                            refine sm_paI (L := 6) (n := ((3 * e1) + x3.toInt32.toNatClampNeg)) (x := ((σ.1 32 ((3 * e1) + x3.toInt32.toNatClampNeg)) + (1 : Int32))) hx hb hK hP 32 31 rfl rfl hD hS (xb_in (xb_na (xb_nm (xb_lit (x := (3 : Int32)) 3 rfl) (xb_lit e1 rfl)) hz.1) (by omega) (by decide)) (xb_cl (xb_na (xb_nm (xb_lit (x := (3 : Int32)) 3 rfl) (xb_lit e1 rfl)) hz.1) (by omega)) sm_s_32 d_M_onChannel_249 (fun H locs hP hS => ?_)
                            refine lv_iinc (v := (j_ + (-1 : Int32))) (k := 0) (lv' := [(13, .int (j_ + (-1 : Int32))), (12, .int (1 : Int32)), (11, .int (0 : Int32)), (10, .int s_), (9, .int (((3 : Int32) * (nI e1)) + x3.toInt32)), (0, .ref (α 0)), (1, .int (nI e1)), (2, .int x2), (3, .long x3), (5, .long x4), (7, .long x5)]) hx hb d_M_onChannel_250 hl rfl (by rfl) (by decide) rfl (fun ls hl => ?_)
                            refine lv_goto (tgt := 197) hx hb d_M_onChannel_253 (by decide) ?_
                            exact ih (b_ + 1) _ _ ls _ _ (by rw [xb_dec c51]; omega) (by rw [xb_dec c51]; omega) (by rw [xb_i_hit]; exact xb_na hm (xb_lit (x := (1 : Int32)) 1 rfl)) hl hP hS (((if_neg c51)).symm.trans hF)
                      have hj8 := sm_j8 ex4 hk1 hk8
                      exact loop _ c14 8 b0 _ _ ls _ _ (by rw [hj8]; omega) (by rw [hj8]; omega) (by rw [xb_i_nk (by decide)]; exact eb) hl hP hS ((if_neg c1).trans ((if_neg c7).trans ((if_neg c13).trans ((if_pos c14).trans ((if_neg c15).trans ((if_neg c16).trans ((if_pos c17).trans ((if_neg c22).trans ((if_neg c23).trans ((if_neg c24))))))))))).symm
            · skip
              refine lv_iload hx hb d_M_onChannel_122 (lv_at hl 1 rfl) ?_
              refine lv_if_eq (tgt := 136) hx hb d_M_onChannel_124 (by decide) (fun _ => ?_) (fun h_ => absurd h_ (by decide))
              refine lv_iload_n hx hb d_M_onChannel_136 rfl (lv_at hl 6 rfl) ?_
              refine lv_bipush (v := 94) hx hb d_M_onChannel_137 (by decide) ?_
              refine lv_icmp_ne (tgt := 259) hx hb d_M_onChannel_139 (by decide) (fun _ => ?_) (fun h_ => absurd h_ (by rw [c16]; decide))
              refine lv_iload_n hx hb d_M_onChannel_259 rfl (lv_at hl 6 rfl) ?_
              refine lv_bipush (v := 93) hx hb d_M_onChannel_260 (by decide) ?_
              refine lv_icmp_ne (tgt := 301) hx hb d_M_onChannel_262 (by decide) (fun _ => ?_) (fun h_ => absurd h_ (by rw [c16]; decide))
              refine lv_iload_n hx hb d_M_onChannel_301 rfl (lv_at hl 6 rfl) ?_
              refine lv_bipush (v := 97) hx hb d_M_onChannel_302 (by decide) ?_
              refine lv_icmp_ne (tgt := 344) hx hb d_M_onChannel_304 (by decide) (fun _ => ?_) (fun h_ => absurd h_ (by rw [c16]; decide))
              refine lv_aload_n hx hb d_M_onChannel_344 rfl (lv_at hl 4 rfl) ?_
              refine lv_iload_n hx hb d_M_onChannel_345 rfl (lv_at hl 5 rfl) ?_
              refine lv_ldc2 hx hb hown (ht _ xw1133) d_M_onChannel_346 ?_
              refine sm_cv (va_runV (As := [.int (nI e1), .long (7 : Int64)]) (rest := []) ⟨hx, hb, hml, hown, hts⟩ (c_M_fail l D α κ hα σ (nI e1) e1 (xb_lit e1 rfl) (by omega) (7 : Int64) ok) (cwV 2 hts (xa_V xw1112 xw1114 xs9 xw11 xw1115) rfl rfl rfl (by decide +kernel) ⟨Nat.le_of_ble_eq_true rfl, Nat.le_of_ble_eq_true rfl⟩) ⟨sm_blind, va_recv (q0 := 0) (ci := 9) hK hP rfl rfl, sm_pre hP hK hN _⟩ rfl rfl hl.1 rfl (lv_room (Nat.le_of_ble_eq_true rfl)) d_M_onChannel_349 ⟨Nat.le_of_ble_eq_true rfl, Nat.le_of_ble_eq_true rfl⟩) hS (fun _ h_ => h_) (fun H locs hP hS => ?_)
              obtain ⟨τ21, hτ21⟩ : ∃ t_, t_ = (q_fail e1 (7 : Int64) σ) := ⟨_, rfl⟩
              rw [← hτ21] at hP
              have okτ21 : sm_ok τ21 := by rw [hτ21]; exact (ok_q_fail e1 (7 : Int64) (by omega) ok)
              exact W.vret hx hb hr (fun t ht_ hW => ⟨⟨τ21, rfl, (by subst hτ21; exact ((if_neg c1).trans ((if_neg c7).trans ((if_neg c13).trans ((if_pos c14).trans ((if_neg c15).trans ((if_pos c16))))))).symm), by rw [sm_B, ht_]; exact hP⟩, hS.F ht_⟩) hS.2.2 d_M_onChannel_352
          · skip
            refine lv_iload hx hb d_M_onChannel_82 (lv_at hl 1 rfl) ?_
            refine lv_if_eq (tgt := 116) hx hb d_M_onChannel_84 (by decide) (fun _ => ?_) (fun h_ => absurd h_ (by decide))
            refine lv_iload_n hx hb d_M_onChannel_116 rfl (lv_at hl 6 rfl) ?_
            refine lv_bipush (v := 92) hx hb d_M_onChannel_117 (by decide) ?_
            refine lv_icmp_ne (tgt := 136) hx hb d_M_onChannel_119 (by decide) (fun _ => ?_) (fun h_ => absurd h_ (by rw [c15]; decide))
            refine lv_iload_n hx hb d_M_onChannel_136 rfl (lv_at hl 6 rfl) ?_
            refine lv_bipush (v := 94) hx hb d_M_onChannel_137 (by decide) ?_
            refine lv_icmp_ne (tgt := 259) hx hb d_M_onChannel_139 (by decide) (fun _ => ?_) (fun h_ => absurd h_ (by rw [c15]; decide))
            refine lv_iload_n hx hb d_M_onChannel_259 rfl (lv_at hl 6 rfl) ?_
            refine lv_bipush (v := 93) hx hb d_M_onChannel_260 (by decide) ?_
            refine lv_icmp_ne (tgt := 301) hx hb d_M_onChannel_262 (by decide) (fun _ => ?_) (fun h_ => absurd h_ (by rw [c15]; decide))
            refine lv_iload_n hx hb d_M_onChannel_301 rfl (lv_at hl 6 rfl) ?_
            refine lv_bipush (v := 97) hx hb d_M_onChannel_302 (by decide) ?_
            refine lv_icmp_ne (tgt := 344) hx hb d_M_onChannel_304 (by decide) (fun _ => ?_) (fun h_ => absurd h_ (by rw [c15]; decide))
            refine lv_aload_n hx hb d_M_onChannel_344 rfl (lv_at hl 4 rfl) ?_
            refine lv_iload_n hx hb d_M_onChannel_345 rfl (lv_at hl 5 rfl) ?_
            refine lv_ldc2 hx hb hown (ht _ xw1133) d_M_onChannel_346 ?_
            refine sm_cv (va_runV (As := [.int (nI e1), .long (7 : Int64)]) (rest := []) ⟨hx, hb, hml, hown, hts⟩ (c_M_fail l D α κ hα σ (nI e1) e1 (xb_lit e1 rfl) (by omega) (7 : Int64) ok) (cwV 2 hts (xa_V xw1112 xw1114 xs9 xw11 xw1115) rfl rfl rfl (by decide +kernel) ⟨Nat.le_of_ble_eq_true rfl, Nat.le_of_ble_eq_true rfl⟩) ⟨sm_blind, va_recv (q0 := 0) (ci := 9) hK hP rfl rfl, sm_pre hP hK hN _⟩ rfl rfl hl.1 rfl (lv_room (Nat.le_of_ble_eq_true rfl)) d_M_onChannel_349 ⟨Nat.le_of_ble_eq_true rfl, Nat.le_of_ble_eq_true rfl⟩) hS (fun _ h_ => h_) (fun H locs hP hS => ?_)
            obtain ⟨τ22, hτ22⟩ : ∃ t_, t_ = (q_fail e1 (7 : Int64) σ) := ⟨_, rfl⟩
            rw [← hτ22] at hP
            have okτ22 : sm_ok τ22 := by rw [hτ22]; exact (ok_q_fail e1 (7 : Int64) (by omega) ok)
            exact W.vret hx hb hr (fun t ht_ hW => ⟨⟨τ22, rfl, (by subst hτ22; exact ((if_neg c1).trans ((if_neg c7).trans ((if_neg c13).trans ((if_pos c14).trans ((if_pos c15)))))).symm), by rw [sm_B, ht_]; exact hP⟩, hS.F ht_⟩) hS.2.2 d_M_onChannel_352
        · skip
          refine lv_iload hx hb d_M_onChannel_63 (lv_at hl 1 rfl) ?_
          refine lv_iconst (v := 3) hx hb d_M_onChannel_65 (by decide) ?_
          refine lv_icmp_ne (tgt := 73) hx hb d_M_onChannel_66 (by decide) (fun c25 => ?_) (fun c25 => ?_)
          · skip
            refine lv_iconst (v := 0) hx hb d_M_onChannel_73 (by decide) ?_
            refine lv_istore (lv' := [(12, .int (0 : Int32)), (11, .int (0 : Int32)), (10, .int (σ.1 28 ((3 * e1) + x3.toInt32.toNatClampNeg))), (9, .int (((3 : Int32) * (nI e1)) + x3.toInt32)), (0, .ref (α 0)), (1, .int (nI e1)), (2, .int x2), (3, .long x3), (5, .long x4), (7, .long x5)]) hx hb d_M_onChannel_74 hl (by decide) rfl (fun ls hl => ?_)
            refine lv_iload_n hx hb d_M_onChannel_76 rfl (lv_at hl 6 rfl) ?_
            refine lv_bipush (v := 91) hx hb d_M_onChannel_77 (by decide) ?_
            refine lv_icmp_ne (tgt := 116) hx hb d_M_onChannel_79 (by decide) (fun c26 => ?_) (fun c26 => ?_)
            · skip
              refine lv_iload_n hx hb d_M_onChannel_116 rfl (lv_at hl 6 rfl) ?_
              refine lv_bipush (v := 92) hx hb d_M_onChannel_117 (by decide) ?_
              refine lv_icmp_ne (tgt := 136) hx hb d_M_onChannel_119 (by decide) (fun c27 => ?_) (fun c27 => ?_)
              · skip
                refine lv_iload_n hx hb d_M_onChannel_136 rfl (lv_at hl 6 rfl) ?_
                refine lv_bipush (v := 94) hx hb d_M_onChannel_137 (by decide) ?_
                refine lv_icmp_ne (tgt := 259) hx hb d_M_onChannel_139 (by decide) (fun c28 => ?_) (fun c28 => ?_)
                · skip
                  refine lv_iload_n hx hb d_M_onChannel_259 rfl (lv_at hl 6 rfl) ?_
                  refine lv_bipush (v := 93) hx hb d_M_onChannel_260 (by decide) ?_
                  refine lv_icmp_ne (tgt := 301) hx hb d_M_onChannel_262 (by decide) (fun c29 => ?_) (fun c29 => ?_)
                  · skip
                    refine lv_iload_n hx hb d_M_onChannel_301 rfl (lv_at hl 6 rfl) ?_
                    refine lv_bipush (v := 97) hx hb d_M_onChannel_302 (by decide) ?_
                    refine lv_icmp_ne (tgt := 344) hx hb d_M_onChannel_304 (by decide) (fun c30 => ?_) (fun c30 => ?_)
                    · skip
                      refine lv_aload_n hx hb d_M_onChannel_344 rfl (lv_at hl 4 rfl) ?_
                      refine lv_iload_n hx hb d_M_onChannel_345 rfl (lv_at hl 5 rfl) ?_
                      refine lv_ldc2 hx hb hown (ht _ xw1133) d_M_onChannel_346 ?_
                      refine sm_cv (va_runV (As := [.int (nI e1), .long (7 : Int64)]) (rest := []) ⟨hx, hb, hml, hown, hts⟩ (c_M_fail l D α κ hα σ (nI e1) e1 (xb_lit e1 rfl) (by omega) (7 : Int64) ok) (cwV 2 hts (xa_V xw1112 xw1114 xs9 xw11 xw1115) rfl rfl rfl (by decide +kernel) ⟨Nat.le_of_ble_eq_true rfl, Nat.le_of_ble_eq_true rfl⟩) ⟨sm_blind, va_recv (q0 := 0) (ci := 9) hK hP rfl rfl, sm_pre hP hK hN _⟩ rfl rfl hl.1 rfl (lv_room (Nat.le_of_ble_eq_true rfl)) d_M_onChannel_349 ⟨Nat.le_of_ble_eq_true rfl, Nat.le_of_ble_eq_true rfl⟩) hS (fun _ h_ => h_) (fun H locs hP hS => ?_)
                      obtain ⟨τ23, hτ23⟩ : ∃ t_, t_ = (q_fail e1 (7 : Int64) σ) := ⟨_, rfl⟩
                      rw [← hτ23] at hP
                      have okτ23 : sm_ok τ23 := by rw [hτ23]; exact (ok_q_fail e1 (7 : Int64) (by omega) ok)
                      exact W.vret hx hb hr (fun t ht_ hW => ⟨⟨τ23, rfl, (by subst hτ23; exact ((if_neg c1).trans ((if_neg c7).trans ((if_neg c13).trans ((if_neg c14).trans ((if_neg c25).trans ((if_neg c26).trans ((if_neg c27).trans ((if_neg c28).trans ((if_neg c29).trans ((if_neg c30))))))))))).symm), by rw [sm_B, ht_]; exact hP⟩, hS.F ht_⟩) hS.2.2 d_M_onChannel_352
                    · skip
                      refine lv_iload hx hb d_M_onChannel_307 (lv_at hl 0 rfl) ?_
                      refine lv_if_eq (tgt := 344) hx hb d_M_onChannel_309 (by decide) (fun _ => ?_) (fun h_ => absurd h_ (by decide))
                      refine lv_aload_n hx hb d_M_onChannel_344 rfl (lv_at hl 4 rfl) ?_
                      refine lv_iload_n hx hb d_M_onChannel_345 rfl (lv_at hl 5 rfl) ?_
                      refine lv_ldc2 hx hb hown (ht _ xw1133) d_M_onChannel_346 ?_
                      refine sm_cv (va_runV (As := [.int (nI e1), .long (7 : Int64)]) (rest := []) ⟨hx, hb, hml, hown, hts⟩ (c_M_fail l D α κ hα σ (nI e1) e1 (xb_lit e1 rfl) (by omega) (7 : Int64) ok) (cwV 2 hts (xa_V xw1112 xw1114 xs9 xw11 xw1115) rfl rfl rfl (by decide +kernel) ⟨Nat.le_of_ble_eq_true rfl, Nat.le_of_ble_eq_true rfl⟩) ⟨sm_blind, va_recv (q0 := 0) (ci := 9) hK hP rfl rfl, sm_pre hP hK hN _⟩ rfl rfl hl.1 rfl (lv_room (Nat.le_of_ble_eq_true rfl)) d_M_onChannel_349 ⟨Nat.le_of_ble_eq_true rfl, Nat.le_of_ble_eq_true rfl⟩) hS (fun _ h_ => h_) (fun H locs hP hS => ?_)
                      obtain ⟨τ24, hτ24⟩ : ∃ t_, t_ = (q_fail e1 (7 : Int64) σ) := ⟨_, rfl⟩
                      rw [← hτ24] at hP
                      have okτ24 : sm_ok τ24 := by rw [hτ24]; exact (ok_q_fail e1 (7 : Int64) (by omega) ok)
                      exact W.vret hx hb hr (fun t ht_ hW => ⟨⟨τ24, rfl, (by subst hτ24; exact ((if_neg c1).trans ((if_neg c7).trans ((if_neg c13).trans ((if_neg c14).trans ((if_neg c25).trans ((if_neg c26).trans ((if_neg c27).trans ((if_neg c28).trans ((if_neg c29).trans ((if_pos c30))))))))))).symm), by rw [sm_B, ht_]; exact hP⟩, hS.F ht_⟩) hS.2.2 d_M_onChannel_352
                  · skip
                    refine lv_iload hx hb d_M_onChannel_265 (lv_at hl 0 rfl) ?_
                    refine lv_if_eq (tgt := 301) hx hb d_M_onChannel_267 (by decide) (fun _ => ?_) (fun h_ => absurd h_ (by decide))
                    refine lv_iload_n hx hb d_M_onChannel_301 rfl (lv_at hl 6 rfl) ?_
                    refine lv_bipush (v := 97) hx hb d_M_onChannel_302 (by decide) ?_
                    refine lv_icmp_ne (tgt := 344) hx hb d_M_onChannel_304 (by decide) (fun _ => ?_) (fun h_ => absurd h_ (by rw [c29]; decide))
                    refine lv_aload_n hx hb d_M_onChannel_344 rfl (lv_at hl 4 rfl) ?_
                    refine lv_iload_n hx hb d_M_onChannel_345 rfl (lv_at hl 5 rfl) ?_
                    refine lv_ldc2 hx hb hown (ht _ xw1133) d_M_onChannel_346 ?_
                    refine sm_cv (va_runV (As := [.int (nI e1), .long (7 : Int64)]) (rest := []) ⟨hx, hb, hml, hown, hts⟩ (c_M_fail l D α κ hα σ (nI e1) e1 (xb_lit e1 rfl) (by omega) (7 : Int64) ok) (cwV 2 hts (xa_V xw1112 xw1114 xs9 xw11 xw1115) rfl rfl rfl (by decide +kernel) ⟨Nat.le_of_ble_eq_true rfl, Nat.le_of_ble_eq_true rfl⟩) ⟨sm_blind, va_recv (q0 := 0) (ci := 9) hK hP rfl rfl, sm_pre hP hK hN _⟩ rfl rfl hl.1 rfl (lv_room (Nat.le_of_ble_eq_true rfl)) d_M_onChannel_349 ⟨Nat.le_of_ble_eq_true rfl, Nat.le_of_ble_eq_true rfl⟩) hS (fun _ h_ => h_) (fun H locs hP hS => ?_)
                    obtain ⟨τ25, hτ25⟩ : ∃ t_, t_ = (q_fail e1 (7 : Int64) σ) := ⟨_, rfl⟩
                    rw [← hτ25] at hP
                    have okτ25 : sm_ok τ25 := by rw [hτ25]; exact (ok_q_fail e1 (7 : Int64) (by omega) ok)
                    exact W.vret hx hb hr (fun t ht_ hW => ⟨⟨τ25, rfl, (by subst hτ25; exact ((if_neg c1).trans ((if_neg c7).trans ((if_neg c13).trans ((if_neg c14).trans ((if_neg c25).trans ((if_neg c26).trans ((if_neg c27).trans ((if_neg c28).trans ((if_pos c29)))))))))).symm), by rw [sm_B, ht_]; exact hP⟩, hS.F ht_⟩) hS.2.2 d_M_onChannel_352
                · skip
                  refine lv_iload hx hb d_M_onChannel_142 (lv_at hl 0 rfl) ?_
                  refine lv_if_eq (tgt := 259) hx hb d_M_onChannel_144 (by decide) (fun _ => ?_) (fun h_ => absurd h_ (by decide))
                  refine lv_iload_n hx hb d_M_onChannel_259 rfl (lv_at hl 6 rfl) ?_
                  refine lv_bipush (v := 93) hx hb d_M_onChannel_260 (by decide) ?_
                  refine lv_icmp_ne (tgt := 301) hx hb d_M_onChannel_262 (by decide) (fun _ => ?_) (fun h_ => absurd h_ (by rw [c28]; decide))
                  refine lv_iload_n hx hb d_M_onChannel_301 rfl (lv_at hl 6 rfl) ?_
                  refine lv_bipush (v := 97) hx hb d_M_onChannel_302 (by decide) ?_
                  refine lv_icmp_ne (tgt := 344) hx hb d_M_onChannel_304 (by decide) (fun _ => ?_) (fun h_ => absurd h_ (by rw [c28]; decide))
                  refine lv_aload_n hx hb d_M_onChannel_344 rfl (lv_at hl 4 rfl) ?_
                  refine lv_iload_n hx hb d_M_onChannel_345 rfl (lv_at hl 5 rfl) ?_
                  refine lv_ldc2 hx hb hown (ht _ xw1133) d_M_onChannel_346 ?_
                  refine sm_cv (va_runV (As := [.int (nI e1), .long (7 : Int64)]) (rest := []) ⟨hx, hb, hml, hown, hts⟩ (c_M_fail l D α κ hα σ (nI e1) e1 (xb_lit e1 rfl) (by omega) (7 : Int64) ok) (cwV 2 hts (xa_V xw1112 xw1114 xs9 xw11 xw1115) rfl rfl rfl (by decide +kernel) ⟨Nat.le_of_ble_eq_true rfl, Nat.le_of_ble_eq_true rfl⟩) ⟨sm_blind, va_recv (q0 := 0) (ci := 9) hK hP rfl rfl, sm_pre hP hK hN _⟩ rfl rfl hl.1 rfl (lv_room (Nat.le_of_ble_eq_true rfl)) d_M_onChannel_349 ⟨Nat.le_of_ble_eq_true rfl, Nat.le_of_ble_eq_true rfl⟩) hS (fun _ h_ => h_) (fun H locs hP hS => ?_)
                  obtain ⟨τ26, hτ26⟩ : ∃ t_, t_ = (q_fail e1 (7 : Int64) σ) := ⟨_, rfl⟩
                  rw [← hτ26] at hP
                  have okτ26 : sm_ok τ26 := by rw [hτ26]; exact (ok_q_fail e1 (7 : Int64) (by omega) ok)
                  exact W.vret hx hb hr (fun t ht_ hW => ⟨⟨τ26, rfl, (by subst hτ26; exact ((if_neg c1).trans ((if_neg c7).trans ((if_neg c13).trans ((if_neg c14).trans ((if_neg c25).trans ((if_neg c26).trans ((if_neg c27).trans ((if_pos c28))))))))).symm), by rw [sm_B, ht_]; exact hP⟩, hS.F ht_⟩) hS.2.2 d_M_onChannel_352
              · skip
                refine lv_iload hx hb d_M_onChannel_122 (lv_at hl 1 rfl) ?_
                refine lv_if_eq (tgt := 136) hx hb d_M_onChannel_124 (by decide) (fun _ => ?_) (fun h_ => absurd h_ (by decide))
                refine lv_iload_n hx hb d_M_onChannel_136 rfl (lv_at hl 6 rfl) ?_
                refine lv_bipush (v := 94) hx hb d_M_onChannel_137 (by decide) ?_
                refine lv_icmp_ne (tgt := 259) hx hb d_M_onChannel_139 (by decide) (fun _ => ?_) (fun h_ => absurd h_ (by rw [c27]; decide))
                refine lv_iload_n hx hb d_M_onChannel_259 rfl (lv_at hl 6 rfl) ?_
                refine lv_bipush (v := 93) hx hb d_M_onChannel_260 (by decide) ?_
                refine lv_icmp_ne (tgt := 301) hx hb d_M_onChannel_262 (by decide) (fun _ => ?_) (fun h_ => absurd h_ (by rw [c27]; decide))
                refine lv_iload_n hx hb d_M_onChannel_301 rfl (lv_at hl 6 rfl) ?_
                refine lv_bipush (v := 97) hx hb d_M_onChannel_302 (by decide) ?_
                refine lv_icmp_ne (tgt := 344) hx hb d_M_onChannel_304 (by decide) (fun _ => ?_) (fun h_ => absurd h_ (by rw [c27]; decide))
                refine lv_aload_n hx hb d_M_onChannel_344 rfl (lv_at hl 4 rfl) ?_
                refine lv_iload_n hx hb d_M_onChannel_345 rfl (lv_at hl 5 rfl) ?_
                refine lv_ldc2 hx hb hown (ht _ xw1133) d_M_onChannel_346 ?_
                refine sm_cv (va_runV (As := [.int (nI e1), .long (7 : Int64)]) (rest := []) ⟨hx, hb, hml, hown, hts⟩ (c_M_fail l D α κ hα σ (nI e1) e1 (xb_lit e1 rfl) (by omega) (7 : Int64) ok) (cwV 2 hts (xa_V xw1112 xw1114 xs9 xw11 xw1115) rfl rfl rfl (by decide +kernel) ⟨Nat.le_of_ble_eq_true rfl, Nat.le_of_ble_eq_true rfl⟩) ⟨sm_blind, va_recv (q0 := 0) (ci := 9) hK hP rfl rfl, sm_pre hP hK hN _⟩ rfl rfl hl.1 rfl (lv_room (Nat.le_of_ble_eq_true rfl)) d_M_onChannel_349 ⟨Nat.le_of_ble_eq_true rfl, Nat.le_of_ble_eq_true rfl⟩) hS (fun _ h_ => h_) (fun H locs hP hS => ?_)
                obtain ⟨τ27, hτ27⟩ : ∃ t_, t_ = (q_fail e1 (7 : Int64) σ) := ⟨_, rfl⟩
                rw [← hτ27] at hP
                have okτ27 : sm_ok τ27 := by rw [hτ27]; exact (ok_q_fail e1 (7 : Int64) (by omega) ok)
                exact W.vret hx hb hr (fun t ht_ hW => ⟨⟨τ27, rfl, (by subst hτ27; exact ((if_neg c1).trans ((if_neg c7).trans ((if_neg c13).trans ((if_neg c14).trans ((if_neg c25).trans ((if_neg c26).trans ((if_pos c27)))))))).symm), by rw [sm_B, ht_]; exact hP⟩, hS.F ht_⟩) hS.2.2 d_M_onChannel_352
            · skip
              refine lv_iload hx hb d_M_onChannel_82 (lv_at hl 1 rfl) ?_
              refine lv_if_eq (tgt := 116) hx hb d_M_onChannel_84 (by decide) (fun _ => ?_) (fun h_ => absurd h_ (by decide))
              refine lv_iload_n hx hb d_M_onChannel_116 rfl (lv_at hl 6 rfl) ?_
              refine lv_bipush (v := 92) hx hb d_M_onChannel_117 (by decide) ?_
              refine lv_icmp_ne (tgt := 136) hx hb d_M_onChannel_119 (by decide) (fun _ => ?_) (fun h_ => absurd h_ (by rw [c26]; decide))
              refine lv_iload_n hx hb d_M_onChannel_136 rfl (lv_at hl 6 rfl) ?_
              refine lv_bipush (v := 94) hx hb d_M_onChannel_137 (by decide) ?_
              refine lv_icmp_ne (tgt := 259) hx hb d_M_onChannel_139 (by decide) (fun _ => ?_) (fun h_ => absurd h_ (by rw [c26]; decide))
              refine lv_iload_n hx hb d_M_onChannel_259 rfl (lv_at hl 6 rfl) ?_
              refine lv_bipush (v := 93) hx hb d_M_onChannel_260 (by decide) ?_
              refine lv_icmp_ne (tgt := 301) hx hb d_M_onChannel_262 (by decide) (fun _ => ?_) (fun h_ => absurd h_ (by rw [c26]; decide))
              refine lv_iload_n hx hb d_M_onChannel_301 rfl (lv_at hl 6 rfl) ?_
              refine lv_bipush (v := 97) hx hb d_M_onChannel_302 (by decide) ?_
              refine lv_icmp_ne (tgt := 344) hx hb d_M_onChannel_304 (by decide) (fun _ => ?_) (fun h_ => absurd h_ (by rw [c26]; decide))
              refine lv_aload_n hx hb d_M_onChannel_344 rfl (lv_at hl 4 rfl) ?_
              refine lv_iload_n hx hb d_M_onChannel_345 rfl (lv_at hl 5 rfl) ?_
              refine lv_ldc2 hx hb hown (ht _ xw1133) d_M_onChannel_346 ?_
              refine sm_cv (va_runV (As := [.int (nI e1), .long (7 : Int64)]) (rest := []) ⟨hx, hb, hml, hown, hts⟩ (c_M_fail l D α κ hα σ (nI e1) e1 (xb_lit e1 rfl) (by omega) (7 : Int64) ok) (cwV 2 hts (xa_V xw1112 xw1114 xs9 xw11 xw1115) rfl rfl rfl (by decide +kernel) ⟨Nat.le_of_ble_eq_true rfl, Nat.le_of_ble_eq_true rfl⟩) ⟨sm_blind, va_recv (q0 := 0) (ci := 9) hK hP rfl rfl, sm_pre hP hK hN _⟩ rfl rfl hl.1 rfl (lv_room (Nat.le_of_ble_eq_true rfl)) d_M_onChannel_349 ⟨Nat.le_of_ble_eq_true rfl, Nat.le_of_ble_eq_true rfl⟩) hS (fun _ h_ => h_) (fun H locs hP hS => ?_)
              obtain ⟨τ28, hτ28⟩ : ∃ t_, t_ = (q_fail e1 (7 : Int64) σ) := ⟨_, rfl⟩
              rw [← hτ28] at hP
              have okτ28 : sm_ok τ28 := by rw [hτ28]; exact (ok_q_fail e1 (7 : Int64) (by omega) ok)
              exact W.vret hx hb hr (fun t ht_ hW => ⟨⟨τ28, rfl, (by subst hτ28; exact ((if_neg c1).trans ((if_neg c7).trans ((if_neg c13).trans ((if_neg c14).trans ((if_neg c25).trans ((if_pos c26))))))).symm), by rw [sm_B, ht_]; exact hP⟩, hS.F ht_⟩) hS.2.2 d_M_onChannel_352
          · skip
            refine lv_iconst (v := 1) hx hb d_M_onChannel_69 (by decide) ?_
            refine lv_goto (tgt := 74) hx hb d_M_onChannel_70 (by decide) ?_
            refine lv_istore (lv' := [(12, .int (1 : Int32)), (11, .int (0 : Int32)), (10, .int (σ.1 28 ((3 * e1) + x3.toInt32.toNatClampNeg))), (9, .int (((3 : Int32) * (nI e1)) + x3.toInt32)), (0, .ref (α 0)), (1, .int (nI e1)), (2, .int x2), (3, .long x3), (5, .long x4), (7, .long x5)]) hx hb d_M_onChannel_74 hl (by decide) rfl (fun ls hl => ?_)
            refine lv_iload_n hx hb d_M_onChannel_76 rfl (lv_at hl 6 rfl) ?_
            refine lv_bipush (v := 91) hx hb d_M_onChannel_77 (by decide) ?_
            refine lv_icmp_ne (tgt := 116) hx hb d_M_onChannel_79 (by decide) (fun c31 => ?_) (fun c31 => ?_)
            · skip
              refine lv_iload_n hx hb d_M_onChannel_116 rfl (lv_at hl 6 rfl) ?_
              refine lv_bipush (v := 92) hx hb d_M_onChannel_117 (by decide) ?_
              refine lv_icmp_ne (tgt := 136) hx hb d_M_onChannel_119 (by decide) (fun c32 => ?_) (fun c32 => ?_)
              · skip
                refine lv_iload_n hx hb d_M_onChannel_136 rfl (lv_at hl 6 rfl) ?_
                refine lv_bipush (v := 94) hx hb d_M_onChannel_137 (by decide) ?_
                refine lv_icmp_ne (tgt := 259) hx hb d_M_onChannel_139 (by decide) (fun c33 => ?_) (fun c33 => ?_)
                · skip
                  refine lv_iload_n hx hb d_M_onChannel_259 rfl (lv_at hl 6 rfl) ?_
                  refine lv_bipush (v := 93) hx hb d_M_onChannel_260 (by decide) ?_
                  refine lv_icmp_ne (tgt := 301) hx hb d_M_onChannel_262 (by decide) (fun c34 => ?_) (fun c34 => ?_)
                  · skip
                    refine lv_iload_n hx hb d_M_onChannel_301 rfl (lv_at hl 6 rfl) ?_
                    refine lv_bipush (v := 97) hx hb d_M_onChannel_302 (by decide) ?_
                    refine lv_icmp_ne (tgt := 344) hx hb d_M_onChannel_304 (by decide) (fun c35 => ?_) (fun c35 => ?_)
                    · skip
                      refine lv_aload_n hx hb d_M_onChannel_344 rfl (lv_at hl 4 rfl) ?_
                      refine lv_iload_n hx hb d_M_onChannel_345 rfl (lv_at hl 5 rfl) ?_
                      refine lv_ldc2 hx hb hown (ht _ xw1133) d_M_onChannel_346 ?_
                      refine sm_cv (va_runV (As := [.int (nI e1), .long (7 : Int64)]) (rest := []) ⟨hx, hb, hml, hown, hts⟩ (c_M_fail l D α κ hα σ (nI e1) e1 (xb_lit e1 rfl) (by omega) (7 : Int64) ok) (cwV 2 hts (xa_V xw1112 xw1114 xs9 xw11 xw1115) rfl rfl rfl (by decide +kernel) ⟨Nat.le_of_ble_eq_true rfl, Nat.le_of_ble_eq_true rfl⟩) ⟨sm_blind, va_recv (q0 := 0) (ci := 9) hK hP rfl rfl, sm_pre hP hK hN _⟩ rfl rfl hl.1 rfl (lv_room (Nat.le_of_ble_eq_true rfl)) d_M_onChannel_349 ⟨Nat.le_of_ble_eq_true rfl, Nat.le_of_ble_eq_true rfl⟩) hS (fun _ h_ => h_) (fun H locs hP hS => ?_)
                      obtain ⟨τ29, hτ29⟩ : ∃ t_, t_ = (q_fail e1 (7 : Int64) σ) := ⟨_, rfl⟩
                      rw [← hτ29] at hP
                      have okτ29 : sm_ok τ29 := by rw [hτ29]; exact (ok_q_fail e1 (7 : Int64) (by omega) ok)
                      exact W.vret hx hb hr (fun t ht_ hW => ⟨⟨τ29, rfl, (by subst hτ29; exact ((if_neg c1).trans ((if_neg c7).trans ((if_neg c13).trans ((if_neg c14).trans ((if_pos c25).trans ((if_neg c31).trans ((if_neg c32).trans ((if_neg c33).trans ((if_neg c34).trans ((if_neg c35))))))))))).symm), by rw [sm_B, ht_]; exact hP⟩, hS.F ht_⟩) hS.2.2 d_M_onChannel_352
                    · skip
                      refine lv_iload hx hb d_M_onChannel_307 (lv_at hl 0 rfl) ?_
                      refine lv_if_eq (tgt := 344) hx hb d_M_onChannel_309 (by decide) (fun h_ => absurd h_ (by decide)) (fun _ => ?_)
                      refine lv_iload hx hb d_M_onChannel_312 (lv_at hl 2 rfl) ?_
                      refine lv_iconst (v := 2) hx hb d_M_onChannel_314 (by decide) ?_
                      refine lv_icmp_ne (tgt := 335) hx hb d_M_onChannel_315 (by decide) (fun _ => ?_) (fun h_ => absurd h_ c14)
                      refine lv_aload_n hx hb d_M_onChannel_335 rfl (lv_at hl 4 rfl) ?_
                      refine lv_iload hx hb d_M_onChannel_336 (lv_at hl 3 rfl) ?_
                      refine sm_cv (va_runV (As := [.int (((3 : Int32) * (nI e1)) + x3.toInt32)]) (rest := []) ⟨hx, hb, hml, hown, hts⟩ (c_M_release l D α κ hα σ (((3 : Int32) * (nI e1)) + x3.toInt32) ((3 * e1) + x3.toInt32.toNatClampNeg) (xb_na (xb_nm (xb_lit (x := (3 : Int32)) 3 rfl) (xb_lit e1 rfl)) hz.1) (by omega)) (cwV 1 hts (xa_V xw1184 xw1186 xs20 xw11 xw1187) rfl rfl rfl (by decide +kernel) ⟨Nat.le_of_ble_eq_true rfl, Nat.le_of_ble_eq_true rfl⟩) ⟨sm_blind, va_recv (q0 := 0) (ci := 9) hK hP rfl rfl, sm_pre hP hK hN _⟩ rfl rfl hl.1 rfl (lv_room (Nat.le_of_ble_eq_true rfl)) d_M_onChannel_338 ⟨Nat.le_of_ble_eq_true rfl, Nat.le_of_ble_eq_true rfl⟩) hS (fun _ h_ => h_) (fun H locs hP hS => ?_)
                      obtain ⟨τ30, hτ30⟩ : ∃ t_, t_ = (q_release ((3 * e1) + x3.toInt32.toNatClampNeg) σ) := ⟨_, rfl⟩
                      rw [← hτ30] at hP
                      have okτ30 : sm_ok τ30 := by rw [hτ30]; exact (ok_q_release ((3 * e1) + x3.toInt32.toNatClampNeg) (by omega) ok)
                      refine lv_goto (tgt := 352) hx hb d_M_onChannel_341 (by decide) ?_
                      exact W.vret hx hb hr (fun t ht_ hW => ⟨⟨τ30, rfl, (by subst hτ30; exact ((if_neg c1).trans ((if_neg c7).trans ((if_neg c13).trans ((if_neg c14).trans ((if_pos c25).trans ((if_neg c31).trans ((if_neg c32).trans ((if_neg c33).trans ((if_neg c34).trans ((if_pos c35))))))))))).symm), by rw [sm_B, ht_]; exact hP⟩, hS.F ht_⟩) hS.2.2 d_M_onChannel_352
                  · skip
                    refine lv_iload hx hb d_M_onChannel_265 (lv_at hl 0 rfl) ?_
                    refine lv_if_eq (tgt := 301) hx hb d_M_onChannel_267 (by decide) (fun h_ => absurd h_ (by decide)) (fun _ => ?_)
                    refine lv_lload hx hb d_M_onChannel_270 (lv_at hl 8 rfl) ?_
                    refine lv_lconst (v := 1) hx hb d_M_onChannel_272 (by decide) ?_
                    refine xb_llt (tgt := 301) hx hb d_M_onChannel_273 d_M_onChannel_274 (by decide) (fun c36 => ?_) (fun c36 => ?_)
                    · skip
                      refine lv_iload_n hx hb d_M_onChannel_301 rfl (lv_at hl 6 rfl) ?_
                      refine lv_bipush (v := 97) hx hb d_M_onChannel_302 (by decide) ?_
                      refine lv_icmp_ne (tgt := 344) hx hb d_M_onChannel_304 (by decide) (fun _ => ?_) (fun h_ => absurd h_ (by rw [c34]; decide))
                      refine lv_aload_n hx hb d_M_onChannel_344 rfl (lv_at hl 4 rfl) ?_
                      refine lv_iload_n hx hb d_M_onChannel_345 rfl (lv_at hl 5 rfl) ?_
                      refine lv_ldc2 hx hb hown (ht _ xw1133) d_M_onChannel_346 ?_
                      refine sm_cv (va_runV (As := [.int (nI e1), .long (7 : Int64)]) (rest := []) ⟨hx, hb, hml, hown, hts⟩ (c_M_fail l D α κ hα σ (nI e1) e1 (xb_lit e1 rfl) (by omega) (7 : Int64) ok) (cwV 2 hts (xa_V xw1112 xw1114 xs9 xw11 xw1115) rfl rfl rfl (by decide +kernel) ⟨Nat.le_of_ble_eq_true rfl, Nat.le_of_ble_eq_true rfl⟩) ⟨sm_blind, va_recv (q0 := 0) (ci := 9) hK hP rfl rfl, sm_pre hP hK hN _⟩ rfl rfl hl.1 rfl (lv_room (Nat.le_of_ble_eq_true rfl)) d_M_onChannel_349 ⟨Nat.le_of_ble_eq_true rfl, Nat.le_of_ble_eq_true rfl⟩) hS (fun _ h_ => h_) (fun H locs hP hS => ?_)
                      obtain ⟨τ31, hτ31⟩ : ∃ t_, t_ = (q_fail e1 (7 : Int64) σ) := ⟨_, rfl⟩
                      rw [← hτ31] at hP
                      have okτ31 : sm_ok τ31 := by rw [hτ31]; exact (ok_q_fail e1 (7 : Int64) (by omega) ok)
                      exact W.vret hx hb hr (fun t ht_ hW => ⟨⟨τ31, rfl, (by subst hτ31; exact ((if_neg c1).trans ((if_neg c7).trans ((if_neg c13).trans ((if_neg c14).trans ((if_pos c25).trans ((if_neg c31).trans ((if_neg c32).trans ((if_neg c33).trans ((if_pos c34).trans ((if_pos c36))))))))))).symm), by rw [sm_B, ht_]; exact hP⟩, hS.F ht_⟩) hS.2.2 d_M_onChannel_352
                    · skip
                      refine lv_lload hx hb d_M_onChannel_277 (lv_at hl 8 rfl) ?_
                      refine lv_ldc2 hx hb hown (ht _ xw1194) d_M_onChannel_279 ?_
                      refine xb_lgt (tgt := 301) hx hb d_M_onChannel_282 d_M_onChannel_283 (by decide) (fun c37 => ?_) (fun c37 => ?_)
                      · skip
                        refine lv_iload_n hx hb d_M_onChannel_301 rfl (lv_at hl 6 rfl) ?_
                        refine lv_bipush (v := 97) hx hb d_M_onChannel_302 (by decide) ?_
                        refine lv_icmp_ne (tgt := 344) hx hb d_M_onChannel_304 (by decide) (fun _ => ?_) (fun h_ => absurd h_ (by rw [c34]; decide))
                        refine lv_aload_n hx hb d_M_onChannel_344 rfl (lv_at hl 4 rfl) ?_
                        refine lv_iload_n hx hb d_M_onChannel_345 rfl (lv_at hl 5 rfl) ?_
                        refine lv_ldc2 hx hb hown (ht _ xw1133) d_M_onChannel_346 ?_
                        refine sm_cv (va_runV (As := [.int (nI e1), .long (7 : Int64)]) (rest := []) ⟨hx, hb, hml, hown, hts⟩ (c_M_fail l D α κ hα σ (nI e1) e1 (xb_lit e1 rfl) (by omega) (7 : Int64) ok) (cwV 2 hts (xa_V xw1112 xw1114 xs9 xw11 xw1115) rfl rfl rfl (by decide +kernel) ⟨Nat.le_of_ble_eq_true rfl, Nat.le_of_ble_eq_true rfl⟩) ⟨sm_blind, va_recv (q0 := 0) (ci := 9) hK hP rfl rfl, sm_pre hP hK hN _⟩ rfl rfl hl.1 rfl (lv_room (Nat.le_of_ble_eq_true rfl)) d_M_onChannel_349 ⟨Nat.le_of_ble_eq_true rfl, Nat.le_of_ble_eq_true rfl⟩) hS (fun _ h_ => h_) (fun H locs hP hS => ?_)
                        obtain ⟨τ32, hτ32⟩ : ∃ t_, t_ = (q_fail e1 (7 : Int64) σ) := ⟨_, rfl⟩
                        rw [← hτ32] at hP
                        have okτ32 : sm_ok τ32 := by rw [hτ32]; exact (ok_q_fail e1 (7 : Int64) (by omega) ok)
                        exact W.vret hx hb hr (fun t ht_ hW => ⟨⟨τ32, rfl, (by subst hτ32; exact ((if_neg c1).trans ((if_neg c7).trans ((if_neg c13).trans ((if_neg c14).trans ((if_pos c25).trans ((if_neg c31).trans ((if_neg c32).trans ((if_neg c33).trans ((if_pos c34).trans ((if_neg c36).trans ((if_pos c37)))))))))))).symm), by rw [sm_B, ht_]; exact hP⟩, hS.F ht_⟩) hS.2.2 d_M_onChannel_352
                      · skip
                        refine lv_aload_n hx hb d_M_onChannel_286 rfl (lv_at hl 4 rfl) ?_
                        refine sm_g (v := .ref (α 30)) hx hb ht hown hK hP 32 (by decide) (ht _ xw984) (fun _ h_ => h_) rfl d_M_onChannel_287 ?_
                        refine lv_iload hx hb d_M_onChannel_290 (lv_at hl 3 rfl) ?_
                        refine lv_dup2_11 hx hb d_M_onChannel_292 rfl rfl ?_
                        refine sm_gaJ (L := 6) (n := ((3 * e1) + x3.toInt32.toNatClampNeg)) (v := (σ.2 30 ((3 * e1) + x3.toInt32.toNatClampNeg))) hx hb hK hP 30 29 rfl rfl (xb_in (xb_na (xb_nm (xb_lit (x := (3 : Int32)) 3 rfl) (xb_lit e1 rfl)) hz.1) (by omega) (by decide)) (xb_cl (xb_na (xb_nm (xb_lit (x := (3 : Int32)) 3 rfl) (xb_lit e1 rfl)) hz.1) (by omega)) rfl d_M_onChannel_293 ?_
                        refine lv_lload hx hb d_M_onChannel_294 (lv_at hl 8 rfl) ?_
                        refine lv_ladd hx hb d_M_onChannel_296 ?_
                        refine sm_paJ (L := 6) (n := ((3 * e1) + x3.toInt32.toNatClampNeg)) (x := ((σ.2 30 ((3 * e1) + x3.toInt32.toNatClampNeg)) + x4)) hx hb hK hP 30 29 rfl rfl hD hS (xb_in (xb_na (xb_nm (xb_lit (x := (3 : Int32)) 3 rfl) (xb_lit e1 rfl)) hz.1) (by omega) (by decide)) (xb_cl (xb_na (xb_nm (xb_lit (x := (3 : Int32)) 3 rfl) (xb_lit e1 rfl)) hz.1) (by omega)) sm_s_30 d_M_onChannel_297 (fun H locs hP hS => ?_)
                        refine lv_goto (tgt := 352) hx hb d_M_onChannel_298 (by decide) ?_
                        exact W.vret hx hb hr (fun t ht_ hW => ⟨⟨(xb_sl σ 30 ((3 * e1) + x3.toInt32.toNatClampNeg) ((σ.2 30 ((3 * e1) + x3.toInt32.toNatClampNeg)) + x4)), rfl, ((if_neg c1).trans ((if_neg c7).trans ((if_neg c13).trans ((if_neg c14).trans ((if_pos c25).trans ((if_neg c31).trans ((if_neg c32).trans ((if_neg c33).trans ((if_pos c34).trans ((if_neg c36).trans ((if_neg c37)))))))))))).symm, by rw [sm_B, ht_]; exact hP⟩, hS.F ht_⟩) hS.2.2 d_M_onChannel_352
                · skip
                  refine lv_iload hx hb d_M_onChannel_142 (lv_at hl 0 rfl) ?_
                  refine lv_if_eq (tgt := 259) hx hb d_M_onChannel_144 (by decide) (fun h_ => absurd h_ (by decide)) (fun _ => ?_)
                  refine lv_lload hx hb d_M_onChannel_147 (lv_at hl 8 rfl) ?_
                  refine lv_lconst (v := 1) hx hb d_M_onChannel_149 (by decide) ?_
                  refine xb_llt (tgt := 259) hx hb d_M_onChannel_150 d_M_onChannel_151 (by decide) (fun c38 => ?_) (fun c38 => ?_)
                  · skip
                    refine lv_iload_n hx hb d_M_onChannel_259 rfl (lv_at hl 6 rfl) ?_
                    refine lv_bipush (v := 93) hx hb d_M_onChannel_260 (by decide) ?_
                    refine lv_icmp_ne (tgt := 301) hx hb d_M_onChannel_262 (by decide) (fun _ => ?_) (fun h_ => absurd h_ (by rw [c33]; decide))
                    refine lv_iload_n hx hb d_M_onChannel_301 rfl (lv_at hl 6 rfl) ?_
                    refine lv_bipush (v := 97) hx hb d_M_onChannel_302 (by decide) ?_
                    refine lv_icmp_ne (tgt := 344) hx hb d_M_onChannel_304 (by decide) (fun _ => ?_) (fun h_ => absurd h_ (by rw [c33]; decide))
                    refine lv_aload_n hx hb d_M_onChannel_344 rfl (lv_at hl 4 rfl) ?_
                    refine lv_iload_n hx hb d_M_onChannel_345 rfl (lv_at hl 5 rfl) ?_
                    refine lv_ldc2 hx hb hown (ht _ xw1133) d_M_onChannel_346 ?_
                    refine sm_cv (va_runV (As := [.int (nI e1), .long (7 : Int64)]) (rest := []) ⟨hx, hb, hml, hown, hts⟩ (c_M_fail l D α κ hα σ (nI e1) e1 (xb_lit e1 rfl) (by omega) (7 : Int64) ok) (cwV 2 hts (xa_V xw1112 xw1114 xs9 xw11 xw1115) rfl rfl rfl (by decide +kernel) ⟨Nat.le_of_ble_eq_true rfl, Nat.le_of_ble_eq_true rfl⟩) ⟨sm_blind, va_recv (q0 := 0) (ci := 9) hK hP rfl rfl, sm_pre hP hK hN _⟩ rfl rfl hl.1 rfl (lv_room (Nat.le_of_ble_eq_true rfl)) d_M_onChannel_349 ⟨Nat.le_of_ble_eq_true rfl, Nat.le_of_ble_eq_true rfl⟩) hS (fun _ h_ => h_) (fun H locs hP hS => ?_)
                    obtain ⟨τ33, hτ33⟩ : ∃ t_, t_ = (q_fail e1 (7 : Int64) σ) := ⟨_, rfl⟩
                    rw [← hτ33] at hP
                    have okτ33 : sm_ok τ33 := by rw [hτ33]; exact (ok_q_fail e1 (7 : Int64) (by omega) ok)
                    exact W.vret hx hb hr (fun t ht_ hW => ⟨⟨τ33, rfl, (by subst hτ33; exact ((if_neg c1).trans ((if_neg c7).trans ((if_neg c13).trans ((if_neg c14).trans ((if_pos c25).trans ((if_neg c31).trans ((if_neg c32).trans ((if_pos c33).trans ((if_pos c38)))))))))).symm), by rw [sm_B, ht_]; exact hP⟩, hS.F ht_⟩) hS.2.2 d_M_onChannel_352
                  · skip
                    refine lv_lload hx hb d_M_onChannel_154 (lv_at hl 8 rfl) ?_
                    refine lv_ldc2 hx hb hown (ht _ xw1193) d_M_onChannel_156 ?_
                    refine xb_lgt (tgt := 259) hx hb d_M_onChannel_159 d_M_onChannel_160 (by decide) (fun c39 => ?_) (fun c39 => ?_)
                    · skip
                      refine lv_iload_n hx hb d_M_onChannel_259 rfl (lv_at hl 6 rfl) ?_
                      refine lv_bipush (v := 93) hx hb d_M_onChannel_260 (by decide) ?_
                      refine lv_icmp_ne (tgt := 301) hx hb d_M_onChannel_262 (by decide) (fun _ => ?_) (fun h_ => absurd h_ (by rw [c33]; decide))
                      refine lv_iload_n hx hb d_M_onChannel_301 rfl (lv_at hl 6 rfl) ?_
                      refine lv_bipush (v := 97) hx hb d_M_onChannel_302 (by decide) ?_
                      refine lv_icmp_ne (tgt := 344) hx hb d_M_onChannel_304 (by decide) (fun _ => ?_) (fun h_ => absurd h_ (by rw [c33]; decide))
                      refine lv_aload_n hx hb d_M_onChannel_344 rfl (lv_at hl 4 rfl) ?_
                      refine lv_iload_n hx hb d_M_onChannel_345 rfl (lv_at hl 5 rfl) ?_
                      refine lv_ldc2 hx hb hown (ht _ xw1133) d_M_onChannel_346 ?_
                      refine sm_cv (va_runV (As := [.int (nI e1), .long (7 : Int64)]) (rest := []) ⟨hx, hb, hml, hown, hts⟩ (c_M_fail l D α κ hα σ (nI e1) e1 (xb_lit e1 rfl) (by omega) (7 : Int64) ok) (cwV 2 hts (xa_V xw1112 xw1114 xs9 xw11 xw1115) rfl rfl rfl (by decide +kernel) ⟨Nat.le_of_ble_eq_true rfl, Nat.le_of_ble_eq_true rfl⟩) ⟨sm_blind, va_recv (q0 := 0) (ci := 9) hK hP rfl rfl, sm_pre hP hK hN _⟩ rfl rfl hl.1 rfl (lv_room (Nat.le_of_ble_eq_true rfl)) d_M_onChannel_349 ⟨Nat.le_of_ble_eq_true rfl, Nat.le_of_ble_eq_true rfl⟩) hS (fun _ h_ => h_) (fun H locs hP hS => ?_)
                      obtain ⟨τ34, hτ34⟩ : ∃ t_, t_ = (q_fail e1 (7 : Int64) σ) := ⟨_, rfl⟩
                      rw [← hτ34] at hP
                      have okτ34 : sm_ok τ34 := by rw [hτ34]; exact (ok_q_fail e1 (7 : Int64) (by omega) ok)
                      exact W.vret hx hb hr (fun t ht_ hW => ⟨⟨τ34, rfl, (by subst hτ34; exact ((if_neg c1).trans ((if_neg c7).trans ((if_neg c13).trans ((if_neg c14).trans ((if_pos c25).trans ((if_neg c31).trans ((if_neg c32).trans ((if_pos c33).trans ((if_neg c38).trans ((if_pos c39))))))))))).symm), by rw [sm_B, ht_]; exact hP⟩, hS.F ht_⟩) hS.2.2 d_M_onChannel_352
                    · skip
                      refine lv_lload hx hb d_M_onChannel_163 (lv_at hl 8 rfl) ?_
                      refine lv_aload_n hx hb d_M_onChannel_165 rfl (lv_at hl 4 rfl) ?_
                      refine sm_g (v := .ref (α 31)) hx hb ht hown hK hP 33 (by decide) (ht _ xw985) (fun _ h_ => h_) rfl d_M_onChannel_166 ?_
                      refine lv_iload hx hb d_M_onChannel_169 (lv_at hl 3 rfl) ?_
                      refine sm_gaI (L := 6) (n := ((3 * e1) + x3.toInt32.toNatClampNeg)) (v := (σ.1 31 ((3 * e1) + x3.toInt32.toNatClampNeg))) hx hb hK hP 31 30 rfl rfl (xb_in (xb_na (xb_nm (xb_lit (x := (3 : Int32)) 3 rfl) (xb_lit e1 rfl)) hz.1) (by omega) (by decide)) (xb_cl (xb_na (xb_nm (xb_lit (x := (3 : Int32)) 3 rfl) (xb_lit e1 rfl)) hz.1) (by omega)) rfl d_M_onChannel_171 ?_
                      refine lv_i2l (v := (σ.1 31 ((3 * e1) + x3.toInt32.toNatClampNeg)).toInt64) hx hb d_M_onChannel_172 (by rfl) ?_
                      refine xb_lgt (tgt := 259) hx hb d_M_onChannel_173 d_M_onChannel_174 (by decide) (fun c40 => ?_) (fun c40 => ?_)
                      · skip
                        refine lv_iload_n hx hb d_M_onChannel_259 rfl (lv_at hl 6 rfl) ?_
                        refine lv_bipush (v := 93) hx hb d_M_onChannel_260 (by decide) ?_
                        refine lv_icmp_ne (tgt := 301) hx hb d_M_onChannel_262 (by decide) (fun _ => ?_) (fun h_ => absurd h_ (by rw [c33]; decide))
                        refine lv_iload_n hx hb d_M_onChannel_301 rfl (lv_at hl 6 rfl) ?_
                        refine lv_bipush (v := 97) hx hb d_M_onChannel_302 (by decide) ?_
                        refine lv_icmp_ne (tgt := 344) hx hb d_M_onChannel_304 (by decide) (fun _ => ?_) (fun h_ => absurd h_ (by rw [c33]; decide))
                        refine lv_aload_n hx hb d_M_onChannel_344 rfl (lv_at hl 4 rfl) ?_
                        refine lv_iload_n hx hb d_M_onChannel_345 rfl (lv_at hl 5 rfl) ?_
                        refine lv_ldc2 hx hb hown (ht _ xw1133) d_M_onChannel_346 ?_
                        refine sm_cv (va_runV (As := [.int (nI e1), .long (7 : Int64)]) (rest := []) ⟨hx, hb, hml, hown, hts⟩ (c_M_fail l D α κ hα σ (nI e1) e1 (xb_lit e1 rfl) (by omega) (7 : Int64) ok) (cwV 2 hts (xa_V xw1112 xw1114 xs9 xw11 xw1115) rfl rfl rfl (by decide +kernel) ⟨Nat.le_of_ble_eq_true rfl, Nat.le_of_ble_eq_true rfl⟩) ⟨sm_blind, va_recv (q0 := 0) (ci := 9) hK hP rfl rfl, sm_pre hP hK hN _⟩ rfl rfl hl.1 rfl (lv_room (Nat.le_of_ble_eq_true rfl)) d_M_onChannel_349 ⟨Nat.le_of_ble_eq_true rfl, Nat.le_of_ble_eq_true rfl⟩) hS (fun _ h_ => h_) (fun H locs hP hS => ?_)
                        obtain ⟨τ35, hτ35⟩ : ∃ t_, t_ = (q_fail e1 (7 : Int64) σ) := ⟨_, rfl⟩
                        rw [← hτ35] at hP
                        have okτ35 : sm_ok τ35 := by rw [hτ35]; exact (ok_q_fail e1 (7 : Int64) (by omega) ok)
                        exact W.vret hx hb hr (fun t ht_ hW => ⟨⟨τ35, rfl, (by subst hτ35; exact ((if_neg c1).trans ((if_neg c7).trans ((if_neg c13).trans ((if_neg c14).trans ((if_pos c25).trans ((if_neg c31).trans ((if_neg c32).trans ((if_pos c33).trans ((if_neg c38).trans ((if_neg c39).trans ((if_pos c40)))))))))))).symm), by rw [sm_B, ht_]; exact hP⟩, hS.F ht_⟩) hS.2.2 d_M_onChannel_352
                      · skip
                        obtain ⟨k0, hk1, hk8, hka, ex4⟩ := sm_x8 (x := x4) (by assumption) (by assumption) (by omega) ea (by assumption)
                        refine lv_aload_n hx hb d_M_onChannel_177 rfl (lv_at hl 4 rfl) ?_
                        refine sm_g (v := .ref (α 31)) hx hb ht hown hK hP 33 (by decide) (ht _ xw985) (fun _ h_ => h_) rfl d_M_onChannel_178 ?_
                        refine lv_iload hx hb d_M_onChannel_181 (lv_at hl 3 rfl) ?_
                        refine lv_dup2_11 hx hb d_M_onChannel_183 rfl rfl ?_
                        refine sm_gaI (L := 6) (n := ((3 * e1) + x3.toInt32.toNatClampNeg)) (v := (σ.1 31 ((3 * e1) + x3.toInt32.toNatClampNeg))) hx hb hK hP 31 30 rfl rfl (xb_in (xb_na (xb_nm (xb_lit (x := (3 : Int32)) 3 rfl) (xb_lit e1 rfl)) hz.1) (by omega) (by decide)) (xb_cl (xb_na (xb_nm (xb_lit (x := (3 : Int32)) 3 rfl) (xb_lit e1 rfl)) hz.1) (by omega)) rfl d_M_onChannel_184 ?_
                        refine lv_lload hx hb d_M_onChannel_185 (lv_at hl 8 rfl) ?_
                        refine lv_l2i (v := x4.toInt32) hx hb d_M_onChannel_187 (by rfl) ?_
                        refine lv_isub hx hb d_M_onChannel_188 ?_
                        refine sm_paI (L := 6) (n := ((3 * e1) + x3.toInt32.toNatClampNeg)) (x := ((σ.1 31 ((3 * e1) + x3.toInt32.toNatClampNeg)) - x4.toInt32)) hx hb hK hP 31 30 rfl rfl hD hS (xb_in (xb_na (xb_nm (xb_lit (x := (3 : Int32)) 3 rfl) (xb_lit e1 rfl)) hz.1) (by omega) (by decide)) (xb_cl (xb_na (xb_nm (xb_lit (x := (3 : Int32)) 3 rfl) (xb_lit e1 rfl)) hz.1) (by omega)) sm_s_31 d_M_onChannel_189 (fun H locs hP hS => ?_)
                        refine lv_lload hx hb d_M_onChannel_190 (lv_at hl 8 rfl) ?_
                        refine lv_l2i (v := x4.toInt32) hx hb d_M_onChannel_192 (by rfl) ?_
                        refine lv_iconst (v := 1) hx hb d_M_onChannel_193 (by decide) ?_
                        refine lv_isub hx hb d_M_onChannel_194 ?_
                        refine lv_istore (lv' := [(13, .int (x4.toInt32 - (1 : Int32))), (12, .int (1 : Int32)), (11, .int (0 : Int32)), (10, .int (σ.1 28 ((3 * e1) + x3.toInt32.toNatClampNeg))), (9, .int (((3 : Int32) * (nI e1)) + x3.toInt32)), (0, .ref (α 0)), (1, .int (nI e1)), (2, .int x2), (3, .long x3), (5, .long x4), (7, .long x5)]) hx hb d_M_onChannel_195 hl (by decide) rfl (fun ls hl => ?_)
                        refine lv_iload hx hb d_M_onChannel_197 (lv_at hl 0 rfl) ?_
                        refine lv_if_lt (tgt := 256) hx hb d_M_onChannel_199 (by decide) (fun c41 => ?_) (fun c41 => ?_)
                        · skip
                          refine lv_goto (tgt := 352) hx hb d_M_onChannel_256 (by decide) ?_
                          exact W.vret hx hb hr (fun t ht_ hW => ⟨⟨(xb_si σ 31 ((3 * e1) + x3.toInt32.toNatClampNeg) ((σ.1 31 ((3 * e1) + x3.toInt32.toNatClampNeg)) - x4.toInt32)), rfl, ((if_neg c1).trans ((if_neg c7).trans ((if_neg c13).trans ((if_neg c14).trans ((if_pos c25).trans ((if_neg c31).trans ((if_neg c32).trans ((if_pos c33).trans ((if_neg c38).trans ((if_neg c39).trans ((if_neg c40).trans ((if_pos c41))))))))))))).symm, by rw [sm_B, ht_]; exact hP⟩, hS.F ht_⟩) hS.2.2 d_M_onChannel_352
                        · skip
                          refine lv_iload hx hb d_M_onChannel_202 (lv_at hl 3 rfl) ?_
                          refine lv_iconst (v := 2) hx hb d_M_onChannel_204 (by decide) ?_
                          refine lv_icmp_ne (tgt := 256) hx hb d_M_onChannel_205 (by decide) (fun _ => ?_) (fun h_ => absurd h_ c14)
                          refine lv_goto (tgt := 352) hx hb d_M_onChannel_256 (by decide) ?_
                          exact W.vret hx hb hr (fun t ht_ hW => ⟨⟨(xb_si σ 31 ((3 * e1) + x3.toInt32.toNatClampNeg) ((σ.1 31 ((3 * e1) + x3.toInt32.toNatClampNeg)) - x4.toInt32)), rfl, ((if_neg c1).trans ((if_neg c7).trans ((if_neg c13).trans ((if_neg c14).trans ((if_pos c25).trans ((if_neg c31).trans ((if_neg c32).trans ((if_pos c33).trans ((if_neg c38).trans ((if_neg c39).trans ((if_neg c40).trans ((if_neg c41))))))))))))).symm, by rw [sm_B, ht_]; exact hP⟩, hS.F ht_⟩) hS.2.2 d_M_onChannel_352
              · skip
                refine lv_iload hx hb d_M_onChannel_122 (lv_at hl 1 rfl) ?_
                refine lv_if_eq (tgt := 136) hx hb d_M_onChannel_124 (by decide) (fun _ => ?_) (fun h_ => absurd h_ (by decide))
                refine lv_iload_n hx hb d_M_onChannel_136 rfl (lv_at hl 6 rfl) ?_
                refine lv_bipush (v := 94) hx hb d_M_onChannel_137 (by decide) ?_
                refine lv_icmp_ne (tgt := 259) hx hb d_M_onChannel_139 (by decide) (fun _ => ?_) (fun h_ => absurd h_ (by rw [c32]; decide))
                refine lv_iload_n hx hb d_M_onChannel_259 rfl (lv_at hl 6 rfl) ?_
                refine lv_bipush (v := 93) hx hb d_M_onChannel_260 (by decide) ?_
                refine lv_icmp_ne (tgt := 301) hx hb d_M_onChannel_262 (by decide) (fun _ => ?_) (fun h_ => absurd h_ (by rw [c32]; decide))
                refine lv_iload_n hx hb d_M_onChannel_301 rfl (lv_at hl 6 rfl) ?_
                refine lv_bipush (v := 97) hx hb d_M_onChannel_302 (by decide) ?_
                refine lv_icmp_ne (tgt := 344) hx hb d_M_onChannel_304 (by decide) (fun _ => ?_) (fun h_ => absurd h_ (by rw [c32]; decide))
                refine lv_aload_n hx hb d_M_onChannel_344 rfl (lv_at hl 4 rfl) ?_
                refine lv_iload_n hx hb d_M_onChannel_345 rfl (lv_at hl 5 rfl) ?_
                refine lv_ldc2 hx hb hown (ht _ xw1133) d_M_onChannel_346 ?_
                refine sm_cv (va_runV (As := [.int (nI e1), .long (7 : Int64)]) (rest := []) ⟨hx, hb, hml, hown, hts⟩ (c_M_fail l D α κ hα σ (nI e1) e1 (xb_lit e1 rfl) (by omega) (7 : Int64) ok) (cwV 2 hts (xa_V xw1112 xw1114 xs9 xw11 xw1115) rfl rfl rfl (by decide +kernel) ⟨Nat.le_of_ble_eq_true rfl, Nat.le_of_ble_eq_true rfl⟩) ⟨sm_blind, va_recv (q0 := 0) (ci := 9) hK hP rfl rfl, sm_pre hP hK hN _⟩ rfl rfl hl.1 rfl (lv_room (Nat.le_of_ble_eq_true rfl)) d_M_onChannel_349 ⟨Nat.le_of_ble_eq_true rfl, Nat.le_of_ble_eq_true rfl⟩) hS (fun _ h_ => h_) (fun H locs hP hS => ?_)
                obtain ⟨τ36, hτ36⟩ : ∃ t_, t_ = (q_fail e1 (7 : Int64) σ) := ⟨_, rfl⟩
                rw [← hτ36] at hP
                have okτ36 : sm_ok τ36 := by rw [hτ36]; exact (ok_q_fail e1 (7 : Int64) (by omega) ok)
                exact W.vret hx hb hr (fun t ht_ hW => ⟨⟨τ36, rfl, (by subst hτ36; exact ((if_neg c1).trans ((if_neg c7).trans ((if_neg c13).trans ((if_neg c14).trans ((if_pos c25).trans ((if_neg c31).trans ((if_pos c32)))))))).symm), by rw [sm_B, ht_]; exact hP⟩, hS.F ht_⟩) hS.2.2 d_M_onChannel_352
            · skip
              refine lv_iload hx hb d_M_onChannel_82 (lv_at hl 1 rfl) ?_
              refine lv_if_eq (tgt := 116) hx hb d_M_onChannel_84 (by decide) (fun _ => ?_) (fun h_ => absurd h_ (by decide))
              refine lv_iload_n hx hb d_M_onChannel_116 rfl (lv_at hl 6 rfl) ?_
              refine lv_bipush (v := 92) hx hb d_M_onChannel_117 (by decide) ?_
              refine lv_icmp_ne (tgt := 136) hx hb d_M_onChannel_119 (by decide) (fun _ => ?_) (fun h_ => absurd h_ (by rw [c31]; decide))
              refine lv_iload_n hx hb d_M_onChannel_136 rfl (lv_at hl 6 rfl) ?_
              refine lv_bipush (v := 94) hx hb d_M_onChannel_137 (by decide) ?_
              refine lv_icmp_ne (tgt := 259) hx hb d_M_onChannel_139 (by decide) (fun _ => ?_) (fun h_ => absurd h_ (by rw [c31]; decide))
              refine lv_iload_n hx hb d_M_onChannel_259 rfl (lv_at hl 6 rfl) ?_
              refine lv_bipush (v := 93) hx hb d_M_onChannel_260 (by decide) ?_
              refine lv_icmp_ne (tgt := 301) hx hb d_M_onChannel_262 (by decide) (fun _ => ?_) (fun h_ => absurd h_ (by rw [c31]; decide))
              refine lv_iload_n hx hb d_M_onChannel_301 rfl (lv_at hl 6 rfl) ?_
              refine lv_bipush (v := 97) hx hb d_M_onChannel_302 (by decide) ?_
              refine lv_icmp_ne (tgt := 344) hx hb d_M_onChannel_304 (by decide) (fun _ => ?_) (fun h_ => absurd h_ (by rw [c31]; decide))
              refine lv_aload_n hx hb d_M_onChannel_344 rfl (lv_at hl 4 rfl) ?_
              refine lv_iload_n hx hb d_M_onChannel_345 rfl (lv_at hl 5 rfl) ?_
              refine lv_ldc2 hx hb hown (ht _ xw1133) d_M_onChannel_346 ?_
              refine sm_cv (va_runV (As := [.int (nI e1), .long (7 : Int64)]) (rest := []) ⟨hx, hb, hml, hown, hts⟩ (c_M_fail l D α κ hα σ (nI e1) e1 (xb_lit e1 rfl) (by omega) (7 : Int64) ok) (cwV 2 hts (xa_V xw1112 xw1114 xs9 xw11 xw1115) rfl rfl rfl (by decide +kernel) ⟨Nat.le_of_ble_eq_true rfl, Nat.le_of_ble_eq_true rfl⟩) ⟨sm_blind, va_recv (q0 := 0) (ci := 9) hK hP rfl rfl, sm_pre hP hK hN _⟩ rfl rfl hl.1 rfl (lv_room (Nat.le_of_ble_eq_true rfl)) d_M_onChannel_349 ⟨Nat.le_of_ble_eq_true rfl, Nat.le_of_ble_eq_true rfl⟩) hS (fun _ h_ => h_) (fun H locs hP hS => ?_)
              obtain ⟨τ37, hτ37⟩ : ∃ t_, t_ = (q_fail e1 (7 : Int64) σ) := ⟨_, rfl⟩
              rw [← hτ37] at hP
              have okτ37 : sm_ok τ37 := by rw [hτ37]; exact (ok_q_fail e1 (7 : Int64) (by omega) ok)
              exact W.vret hx hb hr (fun t ht_ hW => ⟨⟨τ37, rfl, (by subst hτ37; exact ((if_neg c1).trans ((if_neg c7).trans ((if_neg c13).trans ((if_neg c14).trans ((if_pos c25).trans ((if_pos c31))))))).symm), by rw [sm_B, ht_]; exact hP⟩, hS.F ht_⟩) hS.2.2 d_M_onChannel_352
      · skip
        refine lv_iconst (v := 1) hx hb d_M_onChannel_50 (by decide) ?_
        refine lv_goto (tgt := 55) hx hb d_M_onChannel_51 (by decide) ?_
        refine lv_istore (lv' := [(11, .int (1 : Int32)), (10, .int (σ.1 28 ((3 * e1) + x3.toInt32.toNatClampNeg))), (9, .int (((3 : Int32) * (nI e1)) + x3.toInt32)), (0, .ref (α 0)), (1, .int (nI e1)), (2, .int x2), (3, .long x3), (5, .long x4), (7, .long x5)]) hx hb d_M_onChannel_55 hl (by decide) rfl (fun ls hl => ?_)
        refine lv_iload hx hb d_M_onChannel_57 (lv_at hl 1 rfl) ?_
        refine lv_iconst (v := 2) hx hb d_M_onChannel_59 (by decide) ?_
        refine lv_icmp_eq (tgt := 69) hx hb d_M_onChannel_60 (by decide) (fun h_ => absurd h_ (by rw [c13]; decide)) (fun _ => ?_)
        refine lv_iload hx hb d_M_onChannel_63 (lv_at hl 1 rfl) ?_
        refine lv_iconst (v := 3) hx hb d_M_onChannel_65 (by decide) ?_
        refine lv_icmp_ne (tgt := 73) hx hb d_M_onChannel_66 (by decide) (fun _ => ?_) (fun h_ => absurd h_ (by rw [c13]; decide))
        refine lv_iconst (v := 0) hx hb d_M_onChannel_73 (by decide) ?_
        refine lv_istore (lv' := [(12, .int (0 : Int32)), (11, .int (1 : Int32)), (10, .int (σ.1 28 ((3 * e1) + x3.toInt32.toNatClampNeg))), (9, .int (((3 : Int32) * (nI e1)) + x3.toInt32)), (0, .ref (α 0)), (1, .int (nI e1)), (2, .int x2), (3, .long x3), (5, .long x4), (7, .long x5)]) hx hb d_M_onChannel_74 hl (by decide) rfl (fun ls hl => ?_)
        refine lv_iload_n hx hb d_M_onChannel_76 rfl (lv_at hl 6 rfl) ?_
        refine lv_bipush (v := 91) hx hb d_M_onChannel_77 (by decide) ?_
        refine lv_icmp_ne (tgt := 116) hx hb d_M_onChannel_79 (by decide) (fun c42 => ?_) (fun c42 => ?_)
        · skip
          refine lv_iload_n hx hb d_M_onChannel_116 rfl (lv_at hl 6 rfl) ?_
          refine lv_bipush (v := 92) hx hb d_M_onChannel_117 (by decide) ?_
          refine lv_icmp_ne (tgt := 136) hx hb d_M_onChannel_119 (by decide) (fun c43 => ?_) (fun c43 => ?_)
          · skip
            refine lv_iload_n hx hb d_M_onChannel_136 rfl (lv_at hl 6 rfl) ?_
            refine lv_bipush (v := 94) hx hb d_M_onChannel_137 (by decide) ?_
            refine lv_icmp_ne (tgt := 259) hx hb d_M_onChannel_139 (by decide) (fun c44 => ?_) (fun c44 => ?_)
            · skip
              refine lv_iload_n hx hb d_M_onChannel_259 rfl (lv_at hl 6 rfl) ?_
              refine lv_bipush (v := 93) hx hb d_M_onChannel_260 (by decide) ?_
              refine lv_icmp_ne (tgt := 301) hx hb d_M_onChannel_262 (by decide) (fun c45 => ?_) (fun c45 => ?_)
              · skip
                refine lv_iload_n hx hb d_M_onChannel_301 rfl (lv_at hl 6 rfl) ?_
                refine lv_bipush (v := 97) hx hb d_M_onChannel_302 (by decide) ?_
                refine lv_icmp_ne (tgt := 344) hx hb d_M_onChannel_304 (by decide) (fun c46 => ?_) (fun c46 => ?_)
                · skip
                  refine lv_aload_n hx hb d_M_onChannel_344 rfl (lv_at hl 4 rfl) ?_
                  refine lv_iload_n hx hb d_M_onChannel_345 rfl (lv_at hl 5 rfl) ?_
                  refine lv_ldc2 hx hb hown (ht _ xw1133) d_M_onChannel_346 ?_
                  refine sm_cv (va_runV (As := [.int (nI e1), .long (7 : Int64)]) (rest := []) ⟨hx, hb, hml, hown, hts⟩ (c_M_fail l D α κ hα σ (nI e1) e1 (xb_lit e1 rfl) (by omega) (7 : Int64) ok) (cwV 2 hts (xa_V xw1112 xw1114 xs9 xw11 xw1115) rfl rfl rfl (by decide +kernel) ⟨Nat.le_of_ble_eq_true rfl, Nat.le_of_ble_eq_true rfl⟩) ⟨sm_blind, va_recv (q0 := 0) (ci := 9) hK hP rfl rfl, sm_pre hP hK hN _⟩ rfl rfl hl.1 rfl (lv_room (Nat.le_of_ble_eq_true rfl)) d_M_onChannel_349 ⟨Nat.le_of_ble_eq_true rfl, Nat.le_of_ble_eq_true rfl⟩) hS (fun _ h_ => h_) (fun H locs hP hS => ?_)
                  obtain ⟨τ38, hτ38⟩ : ∃ t_, t_ = (q_fail e1 (7 : Int64) σ) := ⟨_, rfl⟩
                  rw [← hτ38] at hP
                  have okτ38 : sm_ok τ38 := by rw [hτ38]; exact (ok_q_fail e1 (7 : Int64) (by omega) ok)
                  exact W.vret hx hb hr (fun t ht_ hW => ⟨⟨τ38, rfl, (by subst hτ38; exact ((if_neg c1).trans ((if_neg c7).trans ((if_pos c13).trans ((if_neg c42).trans ((if_neg c43).trans ((if_neg c44).trans ((if_neg c45).trans ((if_neg c46))))))))).symm), by rw [sm_B, ht_]; exact hP⟩, hS.F ht_⟩) hS.2.2 d_M_onChannel_352
                · skip
                  refine lv_iload hx hb d_M_onChannel_307 (lv_at hl 0 rfl) ?_
                  refine lv_if_eq (tgt := 344) hx hb d_M_onChannel_309 (by decide) (fun _ => ?_) (fun h_ => absurd h_ (by decide))
                  refine lv_aload_n hx hb d_M_onChannel_344 rfl (lv_at hl 4 rfl) ?_
                  refine lv_iload_n hx hb d_M_onChannel_345 rfl (lv_at hl 5 rfl) ?_
                  refine lv_ldc2 hx hb hown (ht _ xw1133) d_M_onChannel_346 ?_
                  refine sm_cv (va_runV (As := [.int (nI e1), .long (7 : Int64)]) (rest := []) ⟨hx, hb, hml, hown, hts⟩ (c_M_fail l D α κ hα σ (nI e1) e1 (xb_lit e1 rfl) (by omega) (7 : Int64) ok) (cwV 2 hts (xa_V xw1112 xw1114 xs9 xw11 xw1115) rfl rfl rfl (by decide +kernel) ⟨Nat.le_of_ble_eq_true rfl, Nat.le_of_ble_eq_true rfl⟩) ⟨sm_blind, va_recv (q0 := 0) (ci := 9) hK hP rfl rfl, sm_pre hP hK hN _⟩ rfl rfl hl.1 rfl (lv_room (Nat.le_of_ble_eq_true rfl)) d_M_onChannel_349 ⟨Nat.le_of_ble_eq_true rfl, Nat.le_of_ble_eq_true rfl⟩) hS (fun _ h_ => h_) (fun H locs hP hS => ?_)
                  obtain ⟨τ39, hτ39⟩ : ∃ t_, t_ = (q_fail e1 (7 : Int64) σ) := ⟨_, rfl⟩
                  rw [← hτ39] at hP
                  have okτ39 : sm_ok τ39 := by rw [hτ39]; exact (ok_q_fail e1 (7 : Int64) (by omega) ok)
                  exact W.vret hx hb hr (fun t ht_ hW => ⟨⟨τ39, rfl, (by subst hτ39; exact ((if_neg c1).trans ((if_neg c7).trans ((if_pos c13).trans ((if_neg c42).trans ((if_neg c43).trans ((if_neg c44).trans ((if_neg c45).trans ((if_pos c46))))))))).symm), by rw [sm_B, ht_]; exact hP⟩, hS.F ht_⟩) hS.2.2 d_M_onChannel_352
              · skip
                refine lv_iload hx hb d_M_onChannel_265 (lv_at hl 0 rfl) ?_
                refine lv_if_eq (tgt := 301) hx hb d_M_onChannel_267 (by decide) (fun _ => ?_) (fun h_ => absurd h_ (by decide))
                refine lv_iload_n hx hb d_M_onChannel_301 rfl (lv_at hl 6 rfl) ?_
                refine lv_bipush (v := 97) hx hb d_M_onChannel_302 (by decide) ?_
                refine lv_icmp_ne (tgt := 344) hx hb d_M_onChannel_304 (by decide) (fun _ => ?_) (fun h_ => absurd h_ (by rw [c45]; decide))
                refine lv_aload_n hx hb d_M_onChannel_344 rfl (lv_at hl 4 rfl) ?_
                refine lv_iload_n hx hb d_M_onChannel_345 rfl (lv_at hl 5 rfl) ?_
                refine lv_ldc2 hx hb hown (ht _ xw1133) d_M_onChannel_346 ?_
                refine sm_cv (va_runV (As := [.int (nI e1), .long (7 : Int64)]) (rest := []) ⟨hx, hb, hml, hown, hts⟩ (c_M_fail l D α κ hα σ (nI e1) e1 (xb_lit e1 rfl) (by omega) (7 : Int64) ok) (cwV 2 hts (xa_V xw1112 xw1114 xs9 xw11 xw1115) rfl rfl rfl (by decide +kernel) ⟨Nat.le_of_ble_eq_true rfl, Nat.le_of_ble_eq_true rfl⟩) ⟨sm_blind, va_recv (q0 := 0) (ci := 9) hK hP rfl rfl, sm_pre hP hK hN _⟩ rfl rfl hl.1 rfl (lv_room (Nat.le_of_ble_eq_true rfl)) d_M_onChannel_349 ⟨Nat.le_of_ble_eq_true rfl, Nat.le_of_ble_eq_true rfl⟩) hS (fun _ h_ => h_) (fun H locs hP hS => ?_)
                obtain ⟨τ40, hτ40⟩ : ∃ t_, t_ = (q_fail e1 (7 : Int64) σ) := ⟨_, rfl⟩
                rw [← hτ40] at hP
                have okτ40 : sm_ok τ40 := by rw [hτ40]; exact (ok_q_fail e1 (7 : Int64) (by omega) ok)
                exact W.vret hx hb hr (fun t ht_ hW => ⟨⟨τ40, rfl, (by subst hτ40; exact ((if_neg c1).trans ((if_neg c7).trans ((if_pos c13).trans ((if_neg c42).trans ((if_neg c43).trans ((if_neg c44).trans ((if_pos c45)))))))).symm), by rw [sm_B, ht_]; exact hP⟩, hS.F ht_⟩) hS.2.2 d_M_onChannel_352
            · skip
              refine lv_iload hx hb d_M_onChannel_142 (lv_at hl 0 rfl) ?_
              refine lv_if_eq (tgt := 259) hx hb d_M_onChannel_144 (by decide) (fun _ => ?_) (fun h_ => absurd h_ (by decide))
              refine lv_iload_n hx hb d_M_onChannel_259 rfl (lv_at hl 6 rfl) ?_
              refine lv_bipush (v := 93) hx hb d_M_onChannel_260 (by decide) ?_
              refine lv_icmp_ne (tgt := 301) hx hb d_M_onChannel_262 (by decide) (fun _ => ?_) (fun h_ => absurd h_ (by rw [c44]; decide))
              refine lv_iload_n hx hb d_M_onChannel_301 rfl (lv_at hl 6 rfl) ?_
              refine lv_bipush (v := 97) hx hb d_M_onChannel_302 (by decide) ?_
              refine lv_icmp_ne (tgt := 344) hx hb d_M_onChannel_304 (by decide) (fun _ => ?_) (fun h_ => absurd h_ (by rw [c44]; decide))
              refine lv_aload_n hx hb d_M_onChannel_344 rfl (lv_at hl 4 rfl) ?_
              refine lv_iload_n hx hb d_M_onChannel_345 rfl (lv_at hl 5 rfl) ?_
              refine lv_ldc2 hx hb hown (ht _ xw1133) d_M_onChannel_346 ?_
              refine sm_cv (va_runV (As := [.int (nI e1), .long (7 : Int64)]) (rest := []) ⟨hx, hb, hml, hown, hts⟩ (c_M_fail l D α κ hα σ (nI e1) e1 (xb_lit e1 rfl) (by omega) (7 : Int64) ok) (cwV 2 hts (xa_V xw1112 xw1114 xs9 xw11 xw1115) rfl rfl rfl (by decide +kernel) ⟨Nat.le_of_ble_eq_true rfl, Nat.le_of_ble_eq_true rfl⟩) ⟨sm_blind, va_recv (q0 := 0) (ci := 9) hK hP rfl rfl, sm_pre hP hK hN _⟩ rfl rfl hl.1 rfl (lv_room (Nat.le_of_ble_eq_true rfl)) d_M_onChannel_349 ⟨Nat.le_of_ble_eq_true rfl, Nat.le_of_ble_eq_true rfl⟩) hS (fun _ h_ => h_) (fun H locs hP hS => ?_)
              obtain ⟨τ41, hτ41⟩ : ∃ t_, t_ = (q_fail e1 (7 : Int64) σ) := ⟨_, rfl⟩
              rw [← hτ41] at hP
              have okτ41 : sm_ok τ41 := by rw [hτ41]; exact (ok_q_fail e1 (7 : Int64) (by omega) ok)
              exact W.vret hx hb hr (fun t ht_ hW => ⟨⟨τ41, rfl, (by subst hτ41; exact ((if_neg c1).trans ((if_neg c7).trans ((if_pos c13).trans ((if_neg c42).trans ((if_neg c43).trans ((if_pos c44))))))).symm), by rw [sm_B, ht_]; exact hP⟩, hS.F ht_⟩) hS.2.2 d_M_onChannel_352
          · skip
            refine lv_iload hx hb d_M_onChannel_122 (lv_at hl 1 rfl) ?_
            refine lv_if_eq (tgt := 136) hx hb d_M_onChannel_124 (by decide) (fun h_ => absurd h_ (by decide)) (fun _ => ?_)
            refine lv_aload_n hx hb d_M_onChannel_127 rfl (lv_at hl 4 rfl) ?_
            refine lv_iload hx hb d_M_onChannel_128 (lv_at hl 3 rfl) ?_
            refine sm_cv (va_runV (As := [.int (((3 : Int32) * (nI e1)) + x3.toInt32)]) (rest := []) ⟨hx, hb, hml, hown, hts⟩ (c_M_release l D α κ hα σ (((3 : Int32) * (nI e1)) + x3.toInt32) ((3 * e1) + x3.toInt32.toNatClampNeg) (xb_na (xb_nm (xb_lit (x := (3 : Int32)) 3 rfl) (xb_lit e1 rfl)) hz.1) (by omega)) (cwV 1 hts (xa_V xw1184 xw1186 xs20 xw11 xw1187) rfl rfl rfl (by decide +kernel) ⟨Nat.le_of_ble_eq_true rfl, Nat.le_of_ble_eq_true rfl⟩) ⟨sm_blind, va_recv (q0 := 0) (ci := 9) hK hP rfl rfl, sm_pre hP hK hN _⟩ rfl rfl hl.1 rfl (lv_room (Nat.le_of_ble_eq_true rfl)) d_M_onChannel_130 ⟨Nat.le_of_ble_eq_true rfl, Nat.le_of_ble_eq_true rfl⟩) hS (fun _ h_ => h_) (fun H locs hP hS => ?_)
            obtain ⟨τ42, hτ42⟩ : ∃ t_, t_ = (q_release ((3 * e1) + x3.toInt32.toNatClampNeg) σ) := ⟨_, rfl⟩
            rw [← hτ42] at hP
            have okτ42 : sm_ok τ42 := by rw [hτ42]; exact (ok_q_release ((3 * e1) + x3.toInt32.toNatClampNeg) (by omega) ok)
            refine lv_goto (tgt := 352) hx hb d_M_onChannel_133 (by decide) ?_
            exact W.vret hx hb hr (fun t ht_ hW => ⟨⟨τ42, rfl, (by subst hτ42; exact ((if_neg c1).trans ((if_neg c7).trans ((if_pos c13).trans ((if_neg c42).trans ((if_pos c43)))))).symm), by rw [sm_B, ht_]; exact hP⟩, hS.F ht_⟩) hS.2.2 d_M_onChannel_352
        · skip
          refine lv_iload hx hb d_M_onChannel_82 (lv_at hl 1 rfl) ?_
          refine lv_if_eq (tgt := 116) hx hb d_M_onChannel_84 (by decide) (fun h_ => absurd h_ (by decide)) (fun _ => ?_)
          refine lv_aload_n hx hb d_M_onChannel_87 rfl (lv_at hl 4 rfl) ?_
          refine sm_g (v := .ref (α 28)) hx hb ht hown hK hP 30 (by decide) (ht _ xw982) (fun _ h_ => h_) rfl d_M_onChannel_88 ?_
          refine lv_iload hx hb d_M_onChannel_91 (lv_at hl 3 rfl) ?_
          refine lv_iconst (v := 2) hx hb d_M_onChannel_93 (by decide) ?_
          refine sm_paI (L := 6) (n := ((3 * e1) + x3.toInt32.toNatClampNeg)) (x := (2 : Int32)) hx hb hK hP 28 27 rfl rfl hD hS (xb_in (xb_na (xb_nm (xb_lit (x := (3 : Int32)) 3 rfl) (xb_lit e1 rfl)) hz.1) (by omega) (by decide)) (xb_cl (xb_na (xb_nm (xb_lit (x := (3 : Int32)) 3 rfl) (xb_lit e1 rfl)) hz.1) (by omega)) sm_s_28 d_M_onChannel_94 (fun H locs hP hS => ?_)
          refine lv_aload_n hx hb d_M_onChannel_95 rfl (lv_at hl 4 rfl) ?_
          refine sm_g (v := .ref (α 29)) hx hb ht hown hK hP 31 (by decide) (ht _ xw983) (fun _ h_ => h_) rfl d_M_onChannel_96 ?_
          refine lv_iload hx hb d_M_onChannel_99 (lv_at hl 3 rfl) ?_
          refine lv_lload hx hb d_M_onChannel_101 (lv_at hl 8 rfl) ?_
          refine sm_paJ (L := 6) (n := ((3 * e1) + x3.toInt32.toNatClampNeg)) (x := x4) hx hb hK hP 29 28 rfl rfl hD hS (xb_in (xb_na (xb_nm (xb_lit (x := (3 : Int32)) 3 rfl) (xb_lit e1 rfl)) hz.1) (by omega) (by decide)) (xb_cl (xb_na (xb_nm (xb_lit (x := (3 : Int32)) 3 rfl) (xb_lit e1 rfl)) hz.1) (by omega)) sm_s_29 d_M_onChannel_103 (fun H locs hP hS => ?_)
          refine lv_aload_n hx hb d_M_onChannel_104 rfl (lv_at hl 4 rfl) ?_
          refine sm_g (v := .ref (α 30)) hx hb ht hown hK hP 32 (by decide) (ht _ xw984) (fun _ h_ => h_) rfl d_M_onChannel_105 ?_
          refine lv_iload hx hb d_M_onChannel_108 (lv_at hl 3 rfl) ?_
          refine lv_lload hx hb d_M_onChannel_110 (lv_at hl 9 rfl) ?_
          refine sm_paJ (L := 6) (n := ((3 * e1) + x3.toInt32.toNatClampNeg)) (x := x5) hx hb hK hP 30 29 rfl rfl hD hS (xb_in (xb_na (xb_nm (xb_lit (x := (3 : Int32)) 3 rfl) (xb_lit e1 rfl)) hz.1) (by omega) (by decide)) (xb_cl (xb_na (xb_nm (xb_lit (x := (3 : Int32)) 3 rfl) (xb_lit e1 rfl)) hz.1) (by omega)) sm_s_30 d_M_onChannel_112 (fun H locs hP hS => ?_)
          refine lv_goto (tgt := 352) hx hb d_M_onChannel_113 (by decide) ?_
          exact W.vret hx hb hr (fun t ht_ hW => ⟨⟨(xb_sl (xb_sl (xb_si σ 28 ((3 * e1) + x3.toInt32.toNatClampNeg) (2 : Int32)) 29 ((3 * e1) + x3.toInt32.toNatClampNeg) x4) 30 ((3 * e1) + x3.toInt32.toNatClampNeg) x5), rfl, ((if_neg c1).trans ((if_neg c7).trans ((if_pos c13).trans ((if_pos c42))))).symm, by rw [sm_B, ht_]; exact hP⟩, hS.F ht_⟩) hS.2.2 d_M_onChannel_352
theorem ok_q_on {σ : xb_St} (e1 : Nat) (x2 : Int32) (x3 : Int64) (x4 : Int64) (x5 : Int64) (b_e1 : e1 < 2) (ok : sm_ok σ) : sm_ok (q_on e1 x2 x3 x4 x5 σ) := by
  unfold q_on
  by_cases c1 : x3 < (0 : Int64)
  · rw [if_pos c1]
    by_cases c2 : x2 = (91 : Int32)
    · rw [if_pos c2]
      exact (ok_q_fail e1 (7 : Int64) (by omega) ok)
    · rw [if_neg c2]
      by_cases c3 : x2 = (92 : Int32)
      · rw [if_pos c3]
        exact (ok_q_fail e1 (7 : Int64) (by omega) ok)
      · rw [if_neg c3]
        by_cases c4 : x2 = (94 : Int32)
        · rw [if_pos c4]
          exact (ok_q_fail e1 (7 : Int64) (by omega) ok)
        · rw [if_neg c4]
          by_cases c5 : x2 = (93 : Int32)
          · rw [if_pos c5]
            exact (ok_q_fail e1 (7 : Int64) (by omega) ok)
          · rw [if_neg c5]
            by_cases c6 : x2 = (97 : Int32)
            · rw [if_pos c6]
              exact (ok_q_fail e1 (7 : Int64) (by omega) ok)
            · rw [if_neg c6]
              exact (ok_q_fail e1 (7 : Int64) (by omega) ok)
  · rw [if_neg c1]
    by_cases c7 : (2 : Int64) < x3
    · rw [if_pos c7]
      by_cases c8 : x2 = (91 : Int32)
      · rw [if_pos c8]
        exact (ok_q_fail e1 (7 : Int64) (by omega) ok)
      · rw [if_neg c8]
        by_cases c9 : x2 = (92 : Int32)
        · rw [if_pos c9]
          exact (ok_q_fail e1 (7 : Int64) (by omega) ok)
        · rw [if_neg c9]
          by_cases c10 : x2 = (94 : Int32)
          · rw [if_pos c10]
            exact (ok_q_fail e1 (7 : Int64) (by omega) ok)
          · rw [if_neg c10]
            by_cases c11 : x2 = (93 : Int32)
            · rw [if_pos c11]
              exact (ok_q_fail e1 (7 : Int64) (by omega) ok)
            · rw [if_neg c11]
              by_cases c12 : x2 = (97 : Int32)
              · rw [if_pos c12]
                exact (ok_q_fail e1 (7 : Int64) (by omega) ok)
              · rw [if_neg c12]
                exact (ok_q_fail e1 (7 : Int64) (by omega) ok)
    · rw [if_neg c7]
      have hz := sm_c2 (x := x3) (by assumption) (by assumption)
      obtain ⟨a0, b0, d0, hs0, ea, eb, ed⟩ := ok.2 ((3 * e1) + x3.toInt32.toNatClampNeg) (by omega)
      by_cases c13 : (σ.1 28 ((3 * e1) + x3.toInt32.toNatClampNeg)) = (1 : Int32)
      · rw [if_pos c13]
        by_cases c42 : x2 = (91 : Int32)
        · rw [if_pos c42]
          exact (mk_sl (mk_sl (mk_si ok (by decide))))
        · rw [if_neg c42]
          by_cases c43 : x2 = (92 : Int32)
          · rw [if_pos c43]
            exact (ok_q_release ((3 * e1) + x3.toInt32.toNatClampNeg) (by omega) ok)
          · rw [if_neg c43]
            by_cases c44 : x2 = (94 : Int32)
            · rw [if_pos c44]
              exact (ok_q_fail e1 (7 : Int64) (by omega) ok)
            · rw [if_neg c44]
              by_cases c45 : x2 = (93 : Int32)
              · rw [if_pos c45]
                exact (ok_q_fail e1 (7 : Int64) (by omega) ok)
              · rw [if_neg c45]
                by_cases c46 : x2 = (97 : Int32)
                · rw [if_pos c46]
                  exact (ok_q_fail e1 (7 : Int64) (by omega) ok)
                · rw [if_neg c46]
                  exact (ok_q_fail e1 (7 : Int64) (by omega) ok)
      · rw [if_neg c13]
        by_cases c14 : (σ.1 28 ((3 * e1) + x3.toInt32.toNatClampNeg)) = (2 : Int32)
        · rw [if_pos c14]
          by_cases c15 : x2 = (91 : Int32)
          · rw [if_pos c15]
            exact (ok_q_fail e1 (7 : Int64) (by omega) ok)
          · rw [if_neg c15]
            by_cases c16 : x2 = (92 : Int32)
            · rw [if_pos c16]
              exact (ok_q_fail e1 (7 : Int64) (by omega) ok)
            · rw [if_neg c16]
              by_cases c17 : x2 = (94 : Int32)
              · rw [if_pos c17]
                by_cases c22 : x4 < (1 : Int64)
                · rw [if_pos c22]
                  exact (ok_q_fail e1 (7 : Int64) (by omega) ok)
                · rw [if_neg c22]
                  by_cases c23 : (8 : Int64) < x4
                  · rw [if_pos c23]
                    exact (ok_q_fail e1 (7 : Int64) (by omega) ok)
                  · rw [if_neg c23]
                    by_cases c24 : (σ.1 31 ((3 * e1) + x3.toInt32.toNatClampNeg)).toInt64 < x4
                    · rw [if_pos c24]
                      exact (ok_q_fail e1 (7 : Int64) (by omega) ok)
                    · rw [if_neg c24]
                      obtain ⟨k0, hk1, hk8, hka, ex4⟩ := sm_x8 (x := x4) (by assumption) (by assumption) (by omega) ea (by assumption)
                      have hj8 := sm_j8 ex4 hk1 hk8
                      exact ok_f_on (by omega) 8 _ _ (a0 - k0) b0 d0 (mk_sub ok (by omega) ex4 hka (by omega) ea) (by rw [xb_i_hit, ea, ex4, lN_i]; exact xb_ns (xb_lit a0 rfl) (xb_lit k0 rfl) hka) (by rw [xb_i_nk (by decide)]; exact eb) (by rw [xb_i_nk (by decide)]; exact ed) (by rw [hj8]; omega)
              · rw [if_neg c17]
                by_cases c18 : x2 = (93 : Int32)
                · rw [if_pos c18]
                  by_cases c20 : x4 < (1 : Int64)
                  · rw [if_pos c20]
                    exact (ok_q_fail e1 (7 : Int64) (by omega) ok)
                  · rw [if_neg c20]
                    by_cases c21 : (1000 : Int64) < x4
                    · rw [if_pos c21]
                      exact (ok_q_fail e1 (7 : Int64) (by omega) ok)
                    · rw [if_neg c21]
                      exact (mk_sl ok)
                · rw [if_neg c18]
                  by_cases c19 : x2 = (97 : Int32)
                  · rw [if_pos c19]
                    exact (ok_q_release ((3 * e1) + x3.toInt32.toNatClampNeg) (by omega) (ok_q_send e1 (97 : Int32) (σ.2 29 ((3 * e1) + x3.toInt32.toNatClampNeg)) (0 : Int64) (0 : Int64) (0 : Int64) (by omega) ok))
                  · rw [if_neg c19]
                    exact (ok_q_fail e1 (7 : Int64) (by omega) ok)
        · rw [if_neg c14]
          by_cases c25 : (σ.1 28 ((3 * e1) + x3.toInt32.toNatClampNeg)) = (3 : Int32)
          · rw [if_pos c25]
            by_cases c31 : x2 = (91 : Int32)
            · rw [if_pos c31]
              exact (ok_q_fail e1 (7 : Int64) (by omega) ok)
            · rw [if_neg c31]
              by_cases c32 : x2 = (92 : Int32)
              · rw [if_pos c32]
                exact (ok_q_fail e1 (7 : Int64) (by omega) ok)
              · rw [if_neg c32]
                by_cases c33 : x2 = (94 : Int32)
                · rw [if_pos c33]
                  by_cases c38 : x4 < (1 : Int64)
                  · rw [if_pos c38]
                    exact (ok_q_fail e1 (7 : Int64) (by omega) ok)
                  · rw [if_neg c38]
                    by_cases c39 : (8 : Int64) < x4
                    · rw [if_pos c39]
                      exact (ok_q_fail e1 (7 : Int64) (by omega) ok)
                    · rw [if_neg c39]
                      by_cases c40 : (σ.1 31 ((3 * e1) + x3.toInt32.toNatClampNeg)).toInt64 < x4
                      · rw [if_pos c40]
                        exact (ok_q_fail e1 (7 : Int64) (by omega) ok)
                      · rw [if_neg c40]
                        obtain ⟨k0, hk1, hk8, hka, ex4⟩ := sm_x8 (x := x4) (by assumption) (by assumption) (by omega) ea (by assumption)
                        by_cases c41 : (x4.toInt32 - (1 : Int32)) < 0
                        · rw [if_pos c41]
                          exact (mk_sub ok (by omega) ex4 hka (by omega) ea)
                        · rw [if_neg c41]
                          exact (mk_sub ok (by omega) ex4 hka (by omega) ea)
                · rw [if_neg c33]
                  by_cases c34 : x2 = (93 : Int32)
                  · rw [if_pos c34]
                    by_cases c36 : x4 < (1 : Int64)
                    · rw [if_pos c36]
                      exact (ok_q_fail e1 (7 : Int64) (by omega) ok)
                    · rw [if_neg c36]
                      by_cases c37 : (1000 : Int64) < x4
                      · rw [if_pos c37]
                        exact (ok_q_fail e1 (7 : Int64) (by omega) ok)
                      · rw [if_neg c37]
                        exact (mk_sl ok)
                  · rw [if_neg c34]
                    by_cases c35 : x2 = (97 : Int32)
                    · rw [if_pos c35]
                      exact (ok_q_release ((3 * e1) + x3.toInt32.toNatClampNeg) (by omega) ok)
                    · rw [if_neg c35]
                      exact (ok_q_fail e1 (7 : Int64) (by omega) ok)
          · rw [if_neg c25]
            by_cases c26 : x2 = (91 : Int32)
            · rw [if_pos c26]
              exact (ok_q_fail e1 (7 : Int64) (by omega) ok)
            · rw [if_neg c26]
              by_cases c27 : x2 = (92 : Int32)
              · rw [if_pos c27]
                exact (ok_q_fail e1 (7 : Int64) (by omega) ok)
              · rw [if_neg c27]
                by_cases c28 : x2 = (94 : Int32)
                · rw [if_pos c28]
                  exact (ok_q_fail e1 (7 : Int64) (by omega) ok)
                · rw [if_neg c28]
                  by_cases c29 : x2 = (93 : Int32)
                  · rw [if_pos c29]
                    exact (ok_q_fail e1 (7 : Int64) (by omega) ok)
                  · rw [if_neg c29]
                    by_cases c30 : x2 = (97 : Int32)
                    · rw [if_pos c30]
                      exact (ok_q_fail e1 (7 : Int64) (by omega) ok)
                    · rw [if_neg c30]
                      exact (ok_q_fail e1 (7 : Int64) (by omega) ok)
