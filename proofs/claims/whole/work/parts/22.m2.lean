theorem mk_line {σ : xb_St} {e : Nat} {v : Int32} (h : sm_ok σ) (hv : ∃ n : Nat, n ≤ 16 ∧ v = nI n) : sm_ok (xb_si σ 24 e v) := by
  refine ⟨fun k hk => ?_, fun q hq => ?_⟩
  · by_cases e1 : k = e
    · subst e1; rw [xb_i_hit]; exact hv
    · rw [xb_i_nj e1]; exact h.1 k hk
  · rw [xb_i_nk (by decide), xb_i_nk (by decide), xb_i_nk (by decide)]; exact h.2 q hq
theorem q_copy_24 {fr to : Nat} {σ : xb_St} {j : Nat} : (q_copy fr to σ).1 24 j = σ.1 24 j := rfl
theorem mk_inc {S : xb_St} {e : Nat} (h : sm_ok S) (he : e < 2) (hlt : ¬ (16 : Int32) ≤ S.1 24 e) : sm_ok (xb_si S 24 e (S.1 24 e + (1 : Int32))) := by
  obtain ⟨n0, hn0, en0⟩ := h.1 e he
  have h1 := mt (xb_leN (xb_lit (x := (16 : Int32)) 16 rfl) en0 (by decide) (by omega)).mpr hlt
  exact mk_line h ⟨n0 + 1, by omega, by rw [en0]; exact nI_1 n0⟩
theorem mk_dec {S : xb_St} {e : Nat} (h : sm_ok S) (he : e < 2) (hlt : ¬ S.1 24 e = 0) : sm_ok (xb_si S 24 e (S.1 24 e - (1 : Int32))) := by
  obtain ⟨n0, hn0, en0⟩ := h.1 e he
  have h1 := mt (xb_eqN en0 (xb_lit (x := (0 : Int32)) 0 rfl) (by omega) (by decide)).mpr hlt
  exact mk_line h ⟨n0 - 1, by omega, xb_ns en0 (xb_lit (x := (1 : Int32)) 1 rfl) (by omega)⟩
abbrev b_M_send : ByteArray := prog_12_method_15_code
def y_M_send : MethodName := ⟨"SecurePairModel", "send", "(IIJJJJ)V"⟩
abbrev w_M_send : List Cond := .code y_M_send b_M_send 14 none :: xa
theorem d_M_send_0 : decode b_M_send 0 = .ok (.iconst 2, 1) := by decide +kernel
theorem d_M_send_1 : decode b_M_send 1 = .ok (.iload_n 1, 1) := by decide +kernel
theorem d_M_send_2 : decode b_M_send 2 = .ok (.imul, 1) := by decide +kernel
theorem d_M_send_3 : decode b_M_send 3 = .ok (.istore 11, 2) := by decide +kernel
theorem d_M_send_5 : decode b_M_send 5 = .ok (.bipush 32, 2) := by decide +kernel
theorem d_M_send_7 : decode b_M_send 7 = .ok (.istore 12, 2) := by decide +kernel
theorem d_M_send_9 : decode b_M_send 9 = .ok (.aload_n 0, 1) := by decide +kernel
theorem d_M_send_10 : decode b_M_send 10 = .ok (.getfield 90, 3) := by decide +kernel
theorem d_M_send_13 : decode b_M_send 13 = .ok (.iload 12, 2) := by decide +kernel
theorem d_M_send_15 : decode b_M_send 15 = .ok (.iload_n 2, 1) := by decide +kernel
theorem d_M_send_16 : decode b_M_send 16 = .ok (.iastore, 1) := by decide +kernel
theorem d_M_send_17 : decode b_M_send 17 = .ok (.aload_n 0, 1) := by decide +kernel
theorem d_M_send_18 : decode b_M_send 18 = .ok (.getfield 96, 3) := by decide +kernel
theorem d_M_send_21 : decode b_M_send 21 = .ok (.iload 12, 2) := by decide +kernel
theorem d_M_send_23 : decode b_M_send 23 = .ok (.aload_n 0, 1) := by decide +kernel
theorem d_M_send_24 : decode b_M_send 24 = .ok (.getfield 66, 3) := by decide +kernel
theorem d_M_send_27 : decode b_M_send 27 = .ok (.iload 11, 2) := by decide +kernel
theorem d_M_send_29 : decode b_M_send 29 = .ok (.baload, 1) := by decide +kernel
theorem d_M_send_30 : decode b_M_send 30 = .ok (.ifCond .eq 37, 3) := by decide +kernel
theorem d_M_send_33 : decode b_M_send 33 = .ok (.aload_n 0, 1) := by decide +kernel
theorem d_M_send_34 : decode b_M_send 34 = .ok (.getfield 72, 3) := by decide +kernel
theorem d_M_send_37 : decode b_M_send 37 = .ok (.iload 11, 2) := by decide +kernel
theorem d_M_send_39 : decode b_M_send 39 = .ok (.laload, 1) := by decide +kernel
theorem d_M_send_40 : decode b_M_send 40 = .ok (.aload_n 0, 1) := by decide +kernel
theorem d_M_send_41 : decode b_M_send 41 = .ok (.getfield 78, 3) := by decide +kernel
theorem d_M_send_44 : decode b_M_send 44 = .ok (.iload 11, 2) := by decide +kernel
theorem d_M_send_46 : decode b_M_send 46 = .ok (.iaload, 1) := by decide +kernel
theorem d_M_send_47 : decode b_M_send 47 = .ok (.aload_n 0, 1) := by decide +kernel
theorem d_M_send_48 : decode b_M_send 48 = .ok (.getfield 35, 3) := by decide +kernel
theorem d_M_send_51 : decode b_M_send 51 = .ok (.iload_n 1, 1) := by decide +kernel
theorem d_M_send_52 : decode b_M_send 52 = .ok (.iaload, 1) := by decide +kernel
theorem d_M_send_53 : decode b_M_send 53 = .ok (.iload_n 2, 1) := by decide +kernel
theorem d_M_send_54 : decode b_M_send 54 = .ok (.lload_n 3, 1) := by decide +kernel
theorem d_M_send_55 : decode b_M_send 55 = .ok (.lload 5, 2) := by decide +kernel
theorem d_M_send_57 : decode b_M_send 57 = .ok (.lload 7, 2) := by decide +kernel
theorem d_M_send_59 : decode b_M_send 59 = .ok (.lload 9, 2) := by decide +kernel
theorem d_M_send_61 : decode b_M_send 61 = .ok (.invokestatic 153, 3) := by decide +kernel
theorem d_M_send_64 : decode b_M_send 64 = .ok (.goto 4, 3) := by decide +kernel
theorem d_M_send_67 : decode b_M_send 67 = .ok (.lconst 0, 1) := by decide +kernel
theorem d_M_send_68 : decode b_M_send 68 = .ok (.lastore, 1) := by decide +kernel
theorem d_M_send_69 : decode b_M_send 69 = .ok (.aload_n 0, 1) := by decide +kernel
theorem d_M_send_70 : decode b_M_send 70 = .ok (.getfield 93, 3) := by decide +kernel
theorem d_M_send_73 : decode b_M_send 73 = .ok (.iconst 4, 1) := by decide +kernel
theorem d_M_send_74 : decode b_M_send 74 = .ok (.iload 12, 2) := by decide +kernel
theorem d_M_send_76 : decode b_M_send 76 = .ok (.imul, 1) := by decide +kernel
theorem d_M_send_77 : decode b_M_send 77 = .ok (.lload_n 3, 1) := by decide +kernel
theorem d_M_send_78 : decode b_M_send 78 = .ok (.lastore, 1) := by decide +kernel
theorem d_M_send_79 : decode b_M_send 79 = .ok (.aload_n 0, 1) := by decide +kernel
theorem d_M_send_80 : decode b_M_send 80 = .ok (.getfield 93, 3) := by decide +kernel
theorem d_M_send_83 : decode b_M_send 83 = .ok (.iconst 4, 1) := by decide +kernel
theorem d_M_send_84 : decode b_M_send 84 = .ok (.iload 12, 2) := by decide +kernel
theorem d_M_send_86 : decode b_M_send 86 = .ok (.imul, 1) := by decide +kernel
theorem d_M_send_87 : decode b_M_send 87 = .ok (.iconst 1, 1) := by decide +kernel
theorem d_M_send_88 : decode b_M_send 88 = .ok (.iadd, 1) := by decide +kernel
theorem d_M_send_89 : decode b_M_send 89 = .ok (.lload 5, 2) := by decide +kernel
theorem d_M_send_91 : decode b_M_send 91 = .ok (.lastore, 1) := by decide +kernel
theorem d_M_send_92 : decode b_M_send 92 = .ok (.aload_n 0, 1) := by decide +kernel
theorem d_M_send_93 : decode b_M_send 93 = .ok (.getfield 93, 3) := by decide +kernel
theorem d_M_send_96 : decode b_M_send 96 = .ok (.iconst 4, 1) := by decide +kernel
theorem d_M_send_97 : decode b_M_send 97 = .ok (.iload 12, 2) := by decide +kernel
theorem d_M_send_99 : decode b_M_send 99 = .ok (.imul, 1) := by decide +kernel
theorem d_M_send_100 : decode b_M_send 100 = .ok (.iconst 2, 1) := by decide +kernel
theorem d_M_send_101 : decode b_M_send 101 = .ok (.iadd, 1) := by decide +kernel
theorem d_M_send_102 : decode b_M_send 102 = .ok (.lload 7, 2) := by decide +kernel
theorem d_M_send_104 : decode b_M_send 104 = .ok (.lastore, 1) := by decide +kernel
theorem d_M_send_105 : decode b_M_send 105 = .ok (.aload_n 0, 1) := by decide +kernel
theorem d_M_send_106 : decode b_M_send 106 = .ok (.getfield 93, 3) := by decide +kernel
theorem d_M_send_109 : decode b_M_send 109 = .ok (.iconst 4, 1) := by decide +kernel
theorem d_M_send_110 : decode b_M_send 110 = .ok (.iload 12, 2) := by decide +kernel
theorem d_M_send_112 : decode b_M_send 112 = .ok (.imul, 1) := by decide +kernel
theorem d_M_send_113 : decode b_M_send 113 = .ok (.iconst 3, 1) := by decide +kernel
theorem d_M_send_114 : decode b_M_send 114 = .ok (.iadd, 1) := by decide +kernel
theorem d_M_send_115 : decode b_M_send 115 = .ok (.lload 9, 2) := by decide +kernel
theorem d_M_send_117 : decode b_M_send 117 = .ok (.lastore, 1) := by decide +kernel
theorem d_M_send_118 : decode b_M_send 118 = .ok (.iconst 0, 1) := by decide +kernel
theorem d_M_send_119 : decode b_M_send 119 = .ok (.istore 13, 2) := by decide +kernel
theorem d_M_send_121 : decode b_M_send 121 = .ok (.iload 13, 2) := by decide +kernel
theorem d_M_send_123 : decode b_M_send 123 = .ok (.iconst 4, 1) := by decide +kernel
theorem d_M_send_124 : decode b_M_send 124 = .ok (.if_icmp .ge 61, 3) := by decide +kernel
theorem d_M_send_127 : decode b_M_send 127 = .ok (.aload_n 0, 1) := by decide +kernel
theorem d_M_send_128 : decode b_M_send 128 = .ok (.getfield 66, 3) := by decide +kernel
theorem d_M_send_131 : decode b_M_send 131 = .ok (.iload 11, 2) := by decide +kernel
theorem d_M_send_133 : decode b_M_send 133 = .ok (.baload, 1) := by decide +kernel
theorem d_M_send_134 : decode b_M_send 134 = .ok (.ifCond .eq 51, 3) := by decide +kernel
theorem d_M_send_137 : decode b_M_send 137 = .ok (.aload_n 0, 1) := by decide +kernel
theorem d_M_send_138 : decode b_M_send 138 = .ok (.getfield 93, 3) := by decide +kernel
theorem d_M_send_141 : decode b_M_send 141 = .ok (.iconst 4, 1) := by decide +kernel
theorem d_M_send_142 : decode b_M_send 142 = .ok (.iload 12, 2) := by decide +kernel
theorem d_M_send_144 : decode b_M_send 144 = .ok (.imul, 1) := by decide +kernel
theorem d_M_send_145 : decode b_M_send 145 = .ok (.iload 13, 2) := by decide +kernel
theorem d_M_send_147 : decode b_M_send 147 = .ok (.iadd, 1) := by decide +kernel
theorem d_M_send_148 : decode b_M_send 148 = .ok (.dup2, 1) := by decide +kernel
theorem d_M_send_149 : decode b_M_send 149 = .ok (.laload, 1) := by decide +kernel
theorem d_M_send_150 : decode b_M_send 150 = .ok (.aload_n 0, 1) := by decide +kernel
theorem d_M_send_151 : decode b_M_send 151 = .ok (.getfield 69, 3) := by decide +kernel
theorem d_M_send_154 : decode b_M_send 154 = .ok (.iload 11, 2) := by decide +kernel
theorem d_M_send_156 : decode b_M_send 156 = .ok (.laload, 1) := by decide +kernel
theorem d_M_send_157 : decode b_M_send 157 = .ok (.aload_n 0, 1) := by decide +kernel
theorem d_M_send_158 : decode b_M_send 158 = .ok (.getfield 75, 3) := by decide +kernel
theorem d_M_send_161 : decode b_M_send 161 = .ok (.iload 11, 2) := by decide +kernel
theorem d_M_send_163 : decode b_M_send 163 = .ok (.iaload, 1) := by decide +kernel
theorem d_M_send_164 : decode b_M_send 164 = .ok (.aload_n 0, 1) := by decide +kernel
theorem d_M_send_165 : decode b_M_send 165 = .ok (.getfield 35, 3) := by decide +kernel
theorem d_M_send_168 : decode b_M_send 168 = .ok (.iload_n 1, 1) := by decide +kernel
theorem d_M_send_169 : decode b_M_send 169 = .ok (.iaload, 1) := by decide +kernel
theorem d_M_send_170 : decode b_M_send 170 = .ok (.iload 13, 2) := by decide +kernel
theorem d_M_send_172 : decode b_M_send 172 = .ok (.iconst 1, 1) := by decide +kernel
theorem d_M_send_173 : decode b_M_send 173 = .ok (.iadd, 1) := by decide +kernel
theorem d_M_send_174 : decode b_M_send 174 = .ok (.invokestatic 157, 3) := by decide +kernel
theorem d_M_send_177 : decode b_M_send 177 = .ok (.lxor, 1) := by decide +kernel
theorem d_M_send_178 : decode b_M_send 178 = .ok (.lastore, 1) := by decide +kernel
theorem d_M_send_179 : decode b_M_send 179 = .ok (.iinc 13 1, 3) := by decide +kernel
theorem d_M_send_182 : decode b_M_send 182 = .ok (.goto (-61), 3) := by decide +kernel
theorem d_M_send_185 : decode b_M_send 185 = .ok (.aload_n 0, 1) := by decide +kernel
theorem d_M_send_186 : decode b_M_send 186 = .ok (.getfield 35, 3) := by decide +kernel
theorem d_M_send_189 : decode b_M_send 189 = .ok (.iload_n 1, 1) := by decide +kernel
theorem d_M_send_190 : decode b_M_send 190 = .ok (.dup2, 1) := by decide +kernel
theorem d_M_send_191 : decode b_M_send 191 = .ok (.iaload, 1) := by decide +kernel
theorem d_M_send_192 : decode b_M_send 192 = .ok (.iconst 1, 1) := by decide +kernel
theorem d_M_send_193 : decode b_M_send 193 = .ok (.iadd, 1) := by decide +kernel
theorem d_M_send_194 : decode b_M_send 194 = .ok (.iastore, 1) := by decide +kernel
theorem d_M_send_195 : decode b_M_send 195 = .ok (.iconst 1, 1) := by decide +kernel
theorem d_M_send_196 : decode b_M_send 196 = .ok (.iload_n 1, 1) := by decide +kernel
theorem d_M_send_197 : decode b_M_send 197 = .ok (.isub, 1) := by decide +kernel
theorem d_M_send_198 : decode b_M_send 198 = .ok (.istore 13, 2) := by decide +kernel
theorem d_M_send_200 : decode b_M_send 200 = .ok (.aload_n 0, 1) := by decide +kernel
theorem d_M_send_201 : decode b_M_send 201 = .ok (.getfield 87, 3) := by decide +kernel
theorem d_M_send_204 : decode b_M_send 204 = .ok (.iload 13, 2) := by decide +kernel
theorem d_M_send_206 : decode b_M_send 206 = .ok (.iaload, 1) := by decide +kernel
theorem d_M_send_207 : decode b_M_send 207 = .ok (.bipush 16, 2) := by decide +kernel
theorem d_M_send_209 : decode b_M_send 209 = .ok (.if_icmp .ge 33, 3) := by decide +kernel
theorem d_M_send_212 : decode b_M_send 212 = .ok (.aload_n 0, 1) := by decide +kernel
theorem d_M_send_213 : decode b_M_send 213 = .ok (.iload 12, 2) := by decide +kernel
theorem d_M_send_215 : decode b_M_send 215 = .ok (.bipush 16, 2) := by decide +kernel
theorem d_M_send_217 : decode b_M_send 217 = .ok (.iload 13, 2) := by decide +kernel
theorem d_M_send_219 : decode b_M_send 219 = .ok (.imul, 1) := by decide +kernel
theorem d_M_send_220 : decode b_M_send 220 = .ok (.aload_n 0, 1) := by decide +kernel
theorem d_M_send_221 : decode b_M_send 221 = .ok (.getfield 87, 3) := by decide +kernel
theorem d_M_send_224 : decode b_M_send 224 = .ok (.iload 13, 2) := by decide +kernel
theorem d_M_send_226 : decode b_M_send 226 = .ok (.iaload, 1) := by decide +kernel
theorem d_M_send_227 : decode b_M_send 227 = .ok (.iadd, 1) := by decide +kernel
theorem d_M_send_228 : decode b_M_send 228 = .ok (.invokevirtual 161, 3) := by decide +kernel
theorem d_M_send_231 : decode b_M_send 231 = .ok (.aload_n 0, 1) := by decide +kernel
theorem d_M_send_232 : decode b_M_send 232 = .ok (.getfield 87, 3) := by decide +kernel
theorem d_M_send_235 : decode b_M_send 235 = .ok (.iload 13, 2) := by decide +kernel
theorem d_M_send_237 : decode b_M_send 237 = .ok (.dup2, 1) := by decide +kernel
theorem d_M_send_238 : decode b_M_send 238 = .ok (.iaload, 1) := by decide +kernel
theorem d_M_send_239 : decode b_M_send 239 = .ok (.iconst 1, 1) := by decide +kernel
theorem d_M_send_240 : decode b_M_send 240 = .ok (.iadd, 1) := by decide +kernel
theorem d_M_send_241 : decode b_M_send 241 = .ok (.iastore, 1) := by decide +kernel
theorem d_M_send_242 : decode b_M_send 242 = .ok (.return_, 1) := by decide +kernel
theorem xw961 : (Cond.fieldLink "SecurePairModel" (35 : Nat) "SecurePairModel" "sent" "[I") ∈ xa := xa_t 961 (by decide +kernel) (by decide +kernel)
theorem xw978 : (Cond.fieldLink "SecurePairModel" (87 : Nat) "SecurePairModel" "lines" "[I") ∈ xa := xa_t 978 (by decide +kernel) (by decide +kernel)
theorem xw1088 : (Cond.methodLink "SecurePairModel" (153 : Nat) ({ cls := "SecurePairModel", name := "tagOf", desc := "(JIIIJJJJ)J" } : MethodName)) ∈ xa := xa_t 1088 (by decide +kernel) (by decide +kernel)
theorem xw1089 : (Cond.static ({ cls := "SecurePairModel", name := "tagOf", desc := "(JIIIJJJJ)J" } : MethodName)) ∈ xa := xa_t 1089 (by decide +kernel) (by decide +kernel)
theorem xw1090 : (Cond.code ({ cls := "SecurePairModel", name := "tagOf", desc := "(JIIIJJJJ)J" } : MethodName) prog_12_method_12_code (15 : Nat) (Option.some ClassFile.FieldType.long)) ∈ xa := xa_t 1090 (by decide +kernel) (by decide +kernel)
theorem xw1097 : (Cond.methodLink "SecurePairModel" (157 : Nat) ({ cls := "SecurePairModel", name := "mask", desc := "(JIII)J" } : MethodName)) ∈ xa := xa_t 1097 (by decide +kernel) (by decide +kernel)
theorem xw1098 : (Cond.static ({ cls := "SecurePairModel", name := "mask", desc := "(JIII)J" } : MethodName)) ∈ xa := xa_t 1098 (by decide +kernel) (by decide +kernel)
theorem xw1099 : (Cond.code ({ cls := "SecurePairModel", name := "mask", desc := "(JIII)J" } : MethodName) prog_12_method_13_code (5 : Nat) (Option.some ClassFile.FieldType.long)) ∈ xa := xa_t 1099 (by decide +kernel) (by decide +kernel)
theorem xw1100 : (Cond.methodLink "SecurePairModel" (161 : Nat) ({ cls := "SecurePairModel", name := "copy", desc := "(II)V" } : MethodName)) ∈ xa := xa_t 1100 (by decide +kernel) (by decide +kernel)
theorem xw1102 : (Cond.instanceMethod ({ cls := "SecurePairModel", name := "copy", desc := "(II)V" } : MethodName)) ∈ xa := xa_t 1102 (by decide +kernel) (by decide +kernel)
theorem xw1103 : (Cond.code ({ cls := "SecurePairModel", name := "copy", desc := "(II)V" } : MethodName) prog_12_method_14_code (4 : Nat) (Option.none : Option ClassFile.FieldType)) ∈ xa := xa_t 1103 (by decide +kernel) (by decide +kernel)
theorem xs7 : (Cond.selects "SecurePairModel" ⟨"SecurePairModel", "copy", "(II)V"⟩ ⟨"SecurePairModel", "copy", "(II)V"⟩) ∈ xa := xa_s 7 (by decide +kernel) (by decide +kernel)
def q_send (e1 : Nat) (x2 : Int32) (x3 : Int64) (x4 : Int64) (x5 : Int64) (x6 : Int64) (σ : xb_St) : xb_St := (if (σ.1 17 (2 * e1)) = 0 then (if (16 : Int32) ≤ (σ.1 24 (1 - e1)) then (xb_si (xb_sl (xb_sl (xb_sl (xb_sl (xb_sl (xb_si σ 25 32 x2) 27 32 (0 : Int64)) 26 128 x3) 26 129 x4) 26 130 x5) 26 131 x6) 7 e1 ((σ.1 7 e1) + (1 : Int32))) else (xb_si (q_copy 32 ((16 * (1 - e1)) + (σ.1 24 (1 - e1)).toNatClampNeg) (xb_si (xb_sl (xb_sl (xb_sl (xb_sl (xb_sl (xb_si σ 25 32 x2) 27 32 (0 : Int64)) 26 128 x3) 26 129 x4) 26 130 x5) 26 131 x6) 7 e1 ((σ.1 7 e1) + (1 : Int32)))) 24 (1 - e1) (((q_copy 32 ((16 * (1 - e1)) + (σ.1 24 (1 - e1)).toNatClampNeg) (xb_si (xb_sl (xb_sl (xb_sl (xb_sl (xb_sl (xb_si σ 25 32 x2) 27 32 (0 : Int64)) 26 128 x3) 26 129 x4) 26 130 x5) 26 131 x6) 7 e1 ((σ.1 7 e1) + (1 : Int32)))).1 24 (1 - e1)) + (1 : Int32)))) else (if (16 : Int32) ≤ (σ.1 24 (1 - e1)) then (xb_si (xb_sl (xb_sl (xb_sl (xb_sl (xb_sl (xb_sl (xb_sl (xb_sl (xb_sl (xb_si σ 25 32 x2) 27 32 (g_tagOf (σ.2 19 (2 * e1)) (σ.1 21 (2 * e1)) (σ.1 7 e1) x2 x3 x4 x5 x6)) 26 128 x3) 26 129 x4) 26 130 x5) 26 131 x6) 26 128 (x3 ^^^ (g_mask (σ.2 18 (2 * e1)) (σ.1 20 (2 * e1)) (σ.1 7 e1) (1 : Int32)))) 26 129 (x4 ^^^ (g_mask (σ.2 18 (2 * e1)) (σ.1 20 (2 * e1)) (σ.1 7 e1) (2 : Int32)))) 26 130 (x5 ^^^ (g_mask (σ.2 18 (2 * e1)) (σ.1 20 (2 * e1)) (σ.1 7 e1) (3 : Int32)))) 26 131 (x6 ^^^ (g_mask (σ.2 18 (2 * e1)) (σ.1 20 (2 * e1)) (σ.1 7 e1) (4 : Int32)))) 7 e1 ((σ.1 7 e1) + (1 : Int32))) else (xb_si (q_copy 32 ((16 * (1 - e1)) + (σ.1 24 (1 - e1)).toNatClampNeg) (xb_si (xb_sl (xb_sl (xb_sl (xb_sl (xb_sl (xb_sl (xb_sl (xb_sl (xb_sl (xb_si σ 25 32 x2) 27 32 (g_tagOf (σ.2 19 (2 * e1)) (σ.1 21 (2 * e1)) (σ.1 7 e1) x2 x3 x4 x5 x6)) 26 128 x3) 26 129 x4) 26 130 x5) 26 131 x6) 26 128 (x3 ^^^ (g_mask (σ.2 18 (2 * e1)) (σ.1 20 (2 * e1)) (σ.1 7 e1) (1 : Int32)))) 26 129 (x4 ^^^ (g_mask (σ.2 18 (2 * e1)) (σ.1 20 (2 * e1)) (σ.1 7 e1) (2 : Int32)))) 26 130 (x5 ^^^ (g_mask (σ.2 18 (2 * e1)) (σ.1 20 (2 * e1)) (σ.1 7 e1) (3 : Int32)))) 26 131 (x6 ^^^ (g_mask (σ.2 18 (2 * e1)) (σ.1 20 (2 * e1)) (σ.1 7 e1) (4 : Int32)))) 7 e1 ((σ.1 7 e1) + (1 : Int32)))) 24 (1 - e1) (((q_copy 32 ((16 * (1 - e1)) + (σ.1 24 (1 - e1)).toNatClampNeg) (xb_si (xb_sl (xb_sl (xb_sl (xb_sl (xb_sl (xb_sl (xb_sl (xb_sl (xb_sl (xb_si σ 25 32 x2) 27 32 (g_tagOf (σ.2 19 (2 * e1)) (σ.1 21 (2 * e1)) (σ.1 7 e1) x2 x3 x4 x5 x6)) 26 128 x3) 26 129 x4) 26 130 x5) 26 131 x6) 26 128 (x3 ^^^ (g_mask (σ.2 18 (2 * e1)) (σ.1 20 (2 * e1)) (σ.1 7 e1) (1 : Int32)))) 26 129 (x4 ^^^ (g_mask (σ.2 18 (2 * e1)) (σ.1 20 (2 * e1)) (σ.1 7 e1) (2 : Int32)))) 26 130 (x5 ^^^ (g_mask (σ.2 18 (2 * e1)) (σ.1 20 (2 * e1)) (σ.1 7 e1) (3 : Int32)))) 26 131 (x6 ^^^ (g_mask (σ.2 18 (2 * e1)) (σ.1 20 (2 * e1)) (σ.1 7 e1) (4 : Int32)))) 7 e1 ((σ.1 7 e1) + (1 : Int32)))).1 24 (1 - e1)) + (1 : Int32)))))
set_option maxHeartbeats 4000000 in
set_option maxRecDepth 100000 in
theorem c_M_send (l : Launch) (D : va_G) (α : Nat → Nat) (κ : Nat → ClassId) (hα : xb_inj α 35) (σ : xb_St) (x_e1 : Int32) (e1 : Nat) (e_e1 : x_e1 = nI e1) (b_e1 : e1 < 2) (x2 : Int32) (x3 : Int64) (x4 : Int64) (x5 : Int64) (x6 : Int64) (ok : sm_ok σ) : Met l y_M_send w_M_send ({ frames := 2, cells := 0, slots := 0, locals := 59 }) (va_Pc ([.ref (α 0), .int x_e1, .int x2, .long x3, .long x4, .long x5, .long x6]) (sm_Pre D α κ σ)) (va_Qv (fun u : xb_St => u = q_send e1 x2 x3 x4 x5 x6 σ) (sm_B D α κ) (xb_A α 35)) 0 0 (xb_A α 35) := by
  subst e_e1
  refine Met.ofW (cc := b_M_send) (maxL := 14) (ret := none) (by decide) rfl ?_
  intro p e s m args below meth c s₁ B_ hml hv
  obtain ⟨rfl, hP, hK, hN⟩ := hv
  have hx := B_.exec
  have hb := B_.bytes
  have hr := B_.returns
  have hts := atoms_spec (ws := w_M_send) B_.pre
  have ht : ∀ w ∈ xa, w.before _ s = true := fun w h => hts w (List.mem_cons_of_mem _ h)
  have hown : s.vm.findClass "SecurePairModel" = some m.cls := findClass_of_methodNamed B_.named
  have hlocks := B_.notSynchronized
  have hD := sm_D hα κ
  have hS : va_S (xb_A α 35) s.heap s.heap [] := va_S.rf
  have hl := lv_entry ([.ref (α 0), .int (nI e1), .int x2, .long x3, .long x4, .long x5, .long x6]) (n := 14) (Nat.le_of_ble_eq_true rfl)
  rw [lg_entry_eq]
  generalize (lg_sl ([.ref (α 0), .int (nI e1), .int x2, .long x3, .long x4, .long x5, .long x6]) ++ List.replicate (14 - (lg_sl ([.ref (α 0), .int (nI e1), .int x2, .long x3, .long x4, .long x5, .long x6])).length) Slot.unset).toArray = ls at hl ⊢
  have hl : lv_has ls 14 [(0, .ref (α 0)), (1, .int (nI e1)), (2, .int x2), (3, .long x3), (5, .long x4), (7, .long x5), (9, .long x6)] := hl
  obtain ⟨n0, hn0, en0⟩ := ok.1 (1 - e1) (by omega)
  have hz := xb_nb en0 (by omega)
  have hz0 : (σ.1 24 (1 - e1)).toNatClampNeg ≤ 16 := by rw [hz.2]; exact hn0
  refine lv_iconst (v := 2) hx hb d_M_send_0 (by decide) ?_
  refine lv_iload_n hx hb d_M_send_1 rfl (lv_at hl 1 rfl) ?_
  refine lv_imul hx hb d_M_send_2 ?_
  refine lv_istore (lv' := [(11, .int ((2 : Int32) * (nI e1))), (0, .ref (α 0)), (1, .int (nI e1)), (2, .int x2), (3, .long x3), (5, .long x4), (7, .long x5), (9, .long x6)]) hx hb d_M_send_3 hl (by decide) rfl (fun ls hl => ?_)
  refine lv_bipush (v := 32) hx hb d_M_send_5 (by decide) ?_
  refine lv_istore (lv' := [(12, .int (32 : Int32)), (11, .int ((2 : Int32) * (nI e1))), (0, .ref (α 0)), (1, .int (nI e1)), (2, .int x2), (3, .long x3), (5, .long x4), (7, .long x5), (9, .long x6)]) hx hb d_M_send_7 hl (by decide) rfl (fun ls hl => ?_)
  refine lv_aload_n hx hb d_M_send_9 rfl (lv_at hl 2 rfl) ?_
  refine sm_g (v := .ref (α 25)) hx hb ht hown hK hP 27 (by decide) (ht _ xw979) (fun _ h_ => h_) rfl d_M_send_10 ?_
  refine lv_iload hx hb d_M_send_13 (lv_at hl 0 rfl) ?_
  refine lv_iload_n hx hb d_M_send_15 rfl (lv_at hl 4 rfl) ?_
  refine sm_paI (L := 34) (n := 32) (x := x2) hx hb hK hP 25 24 rfl rfl hD hS (xb_in (xb_lit (x := (32 : Int32)) 32 rfl) (by omega) (by decide)) (xb_cl (xb_lit (x := (32 : Int32)) 32 rfl) (by omega)) sm_s_25 d_M_send_16 (fun H locs hP hS => ?_)
  refine lv_aload_n hx hb d_M_send_17 rfl (lv_at hl 2 rfl) ?_
  refine sm_g (v := .ref (α 27)) hx hb ht hown hK hP 29 (by decide) (ht _ xw981) (fun _ h_ => h_) rfl d_M_send_18 ?_
  refine lv_iload hx hb d_M_send_21 (lv_at hl 0 rfl) ?_
  refine lv_aload_n hx hb d_M_send_23 rfl (lv_at hl 2 rfl) ?_
  refine sm_g (v := .ref (α 17)) hx hb ht hown hK hP 19 (by decide) (ht _ xw971) (fun _ h_ => h_) rfl d_M_send_24 ?_
  refine lv_iload hx hb d_M_send_27 (lv_at hl 1 rfl) ?_
  refine sm_gaZ (L := 4) (n := (2 * e1)) (v := (σ.1 17 (2 * e1))) hx hb hK hP 17 16 rfl rfl (xb_in (xb_nm (xb_lit (x := (2 : Int32)) 2 rfl) (xb_lit e1 rfl)) (by omega) (by decide)) (xb_cl (xb_nm (xb_lit (x := (2 : Int32)) 2 rfl) (xb_lit e1 rfl)) (by omega)) (xb_i_nk (by decide)) d_M_send_29 ?_
  refine lv_if_eq (tgt := 67) hx hb d_M_send_30 (by decide) (fun c1 => ?_) (fun c1 => ?_)
  · skip
    refine lv_lconst (v := 0) hx hb d_M_send_67 (by decide) ?_
    refine sm_paJ (L := 34) (n := 32) (x := (0 : Int64)) hx hb hK hP 27 26 rfl rfl hD hS (xb_in (xb_lit (x := (32 : Int32)) 32 rfl) (by omega) (by decide)) (xb_cl (xb_lit (x := (32 : Int32)) 32 rfl) (by omega)) sm_s_27 d_M_send_68 (fun H locs hP hS => ?_)
    refine lv_aload_n hx hb d_M_send_69 rfl (lv_at hl 2 rfl) ?_
    refine sm_g (v := .ref (α 26)) hx hb ht hown hK hP 28 (by decide) (ht _ xw980) (fun _ h_ => h_) rfl d_M_send_70 ?_
    refine lv_iconst (v := 4) hx hb d_M_send_73 (by decide) ?_
    refine lv_iload hx hb d_M_send_74 (lv_at hl 0 rfl) ?_
    refine lv_imul hx hb d_M_send_76 ?_
    refine xb_ti (y := (128 : Int32)) (by decide) ?_
    refine lv_lload_n hx hb d_M_send_77 rfl (lv_at hl 5 rfl) ?_
    refine sm_paJ (L := 136) (n := 128) (x := x3) hx hb hK hP 26 25 rfl rfl hD hS (xb_in (xb_lit (x := (128 : Int32)) 128 rfl) (by omega) (by decide)) (xb_cl (xb_lit (x := (128 : Int32)) 128 rfl) (by omega)) sm_s_26 d_M_send_78 (fun H locs hP hS => ?_)
    refine lv_aload_n hx hb d_M_send_79 rfl (lv_at hl 2 rfl) ?_
    refine sm_g (v := .ref (α 26)) hx hb ht hown hK hP 28 (by decide) (ht _ xw980) (fun _ h_ => h_) rfl d_M_send_80 ?_
    refine lv_iconst (v := 4) hx hb d_M_send_83 (by decide) ?_
    refine lv_iload hx hb d_M_send_84 (lv_at hl 0 rfl) ?_
    refine lv_imul hx hb d_M_send_86 ?_
    refine xb_ti (y := (128 : Int32)) (by decide) ?_
    refine lv_iconst (v := 1) hx hb d_M_send_87 (by decide) ?_
    refine lv_iadd hx hb d_M_send_88 ?_
    refine xb_ti (y := (129 : Int32)) (by decide) ?_
    refine lv_lload hx hb d_M_send_89 (lv_at hl 6 rfl) ?_
    refine sm_paJ (L := 136) (n := 129) (x := x4) hx hb hK hP 26 25 rfl rfl hD hS (xb_in (xb_lit (x := (129 : Int32)) 129 rfl) (by omega) (by decide)) (xb_cl (xb_lit (x := (129 : Int32)) 129 rfl) (by omega)) sm_s_26 d_M_send_91 (fun H locs hP hS => ?_)
    refine lv_aload_n hx hb d_M_send_92 rfl (lv_at hl 2 rfl) ?_
    refine sm_g (v := .ref (α 26)) hx hb ht hown hK hP 28 (by decide) (ht _ xw980) (fun _ h_ => h_) rfl d_M_send_93 ?_
    refine lv_iconst (v := 4) hx hb d_M_send_96 (by decide) ?_
    refine lv_iload hx hb d_M_send_97 (lv_at hl 0 rfl) ?_
    refine lv_imul hx hb d_M_send_99 ?_
    refine xb_ti (y := (128 : Int32)) (by decide) ?_
    refine lv_iconst (v := 2) hx hb d_M_send_100 (by decide) ?_
    refine lv_iadd hx hb d_M_send_101 ?_
    refine xb_ti (y := (130 : Int32)) (by decide) ?_
    refine lv_lload hx hb d_M_send_102 (lv_at hl 7 rfl) ?_
    refine sm_paJ (L := 136) (n := 130) (x := x5) hx hb hK hP 26 25 rfl rfl hD hS (xb_in (xb_lit (x := (130 : Int32)) 130 rfl) (by omega) (by decide)) (xb_cl (xb_lit (x := (130 : Int32)) 130 rfl) (by omega)) sm_s_26 d_M_send_104 (fun H locs hP hS => ?_)
    refine lv_aload_n hx hb d_M_send_105 rfl (lv_at hl 2 rfl) ?_
    refine sm_g (v := .ref (α 26)) hx hb ht hown hK hP 28 (by decide) (ht _ xw980) (fun _ h_ => h_) rfl d_M_send_106 ?_
    refine lv_iconst (v := 4) hx hb d_M_send_109 (by decide) ?_
    refine lv_iload hx hb d_M_send_110 (lv_at hl 0 rfl) ?_
    refine lv_imul hx hb d_M_send_112 ?_
    refine xb_ti (y := (128 : Int32)) (by decide) ?_
    refine lv_iconst (v := 3) hx hb d_M_send_113 (by decide) ?_
    refine lv_iadd hx hb d_M_send_114 ?_
    refine xb_ti (y := (131 : Int32)) (by decide) ?_
    refine lv_lload hx hb d_M_send_115 (lv_at hl 8 rfl) ?_
    refine sm_paJ (L := 136) (n := 131) (x := x6) hx hb hK hP 26 25 rfl rfl hD hS (xb_in (xb_lit (x := (131 : Int32)) 131 rfl) (by omega) (by decide)) (xb_cl (xb_lit (x := (131 : Int32)) 131 rfl) (by omega)) sm_s_26 d_M_send_117 (fun H locs hP hS => ?_)
    refine lv_iconst (v := 0) hx hb d_M_send_118 (by decide) ?_
    refine lv_istore (lv' := [(13, .int (0 : Int32)), (12, .int (32 : Int32)), (11, .int ((2 : Int32) * (nI e1))), (0, .ref (α 0)), (1, .int (nI e1)), (2, .int x2), (3, .long x3), (5, .long x4), (7, .long x5), (9, .long x6)]) hx hb d_M_send_119 hl (by decide) rfl (fun ls hl => ?_)
    refine lv_iload hx hb d_M_send_121 (lv_at hl 0 rfl) ?_
    refine lv_iconst (v := 4) hx hb d_M_send_123 (by decide) ?_
    refine lv_icmp_ge (tgt := 185) hx hb d_M_send_124 (by decide) (fun h_ => absurd h_ (by decide)) (fun _ => ?_)
    refine lv_aload_n hx hb d_M_send_127 rfl (lv_at hl 3 rfl) ?_
    refine sm_g (v := .ref (α 17)) hx hb ht hown hK hP 19 (by decide) (ht _ xw971) (fun _ h_ => h_) rfl d_M_send_128 ?_
    refine lv_iload hx hb d_M_send_131 (lv_at hl 2 rfl) ?_
    refine sm_gaZ (L := 4) (n := (2 * e1)) (v := (σ.1 17 (2 * e1))) hx hb hK hP 17 16 rfl rfl (xb_in (xb_nm (xb_lit (x := (2 : Int32)) 2 rfl) (xb_lit e1 rfl)) (by omega) (by decide)) (xb_cl (xb_nm (xb_lit (x := (2 : Int32)) 2 rfl) (xb_lit e1 rfl)) (by omega)) ((xb_i_l).trans ((xb_i_l).trans ((xb_i_l).trans ((xb_i_l).trans ((xb_i_l).trans ((xb_i_nk (by decide)))))))) d_M_send_133 ?_
    refine lv_if_eq (tgt := 185) hx hb d_M_send_134 (by decide) (fun _ => ?_) (fun h_ => absurd c1 h_)
    refine lv_aload_n hx hb d_M_send_185 rfl (lv_at hl 3 rfl) ?_
    refine sm_g (v := .ref (α 7)) hx hb ht hown hK hP 9 (by decide) (ht _ xw961) (fun _ h_ => h_) rfl d_M_send_186 ?_
    refine lv_iload_n hx hb d_M_send_189 rfl (lv_at hl 4 rfl) ?_
    refine lv_dup2_11 hx hb d_M_send_190 rfl rfl ?_
    refine sm_gaI (L := 2) (n := e1) (v := (σ.1 7 e1)) hx hb hK hP 7 6 rfl rfl (xb_in (xb_lit e1 rfl) (by omega) (by decide)) (xb_cl (xb_lit e1 rfl) (by omega)) ((xb_i_l).trans ((xb_i_l).trans ((xb_i_l).trans ((xb_i_l).trans ((xb_i_l).trans ((xb_i_nk (by decide)))))))) d_M_send_191 ?_
    refine lv_iconst (v := 1) hx hb d_M_send_192 (by decide) ?_
    refine lv_iadd hx hb d_M_send_193 ?_
    refine sm_paI (L := 2) (n := e1) (x := ((σ.1 7 e1) + (1 : Int32))) hx hb hK hP 7 6 rfl rfl hD hS (xb_in (xb_lit e1 rfl) (by omega) (by decide)) (xb_cl (xb_lit e1 rfl) (by omega)) sm_s_7 d_M_send_194 (fun H locs hP hS => ?_)
    refine lv_iconst (v := 1) hx hb d_M_send_195 (by decide) ?_
    refine lv_iload_n hx hb d_M_send_196 rfl (lv_at hl 4 rfl) ?_
    refine lv_isub hx hb d_M_send_197 ?_
    refine lv_istore (lv' := [(13, .int ((1 : Int32) - (nI e1))), (12, .int (32 : Int32)), (11, .int ((2 : Int32) * (nI e1))), (0, .ref (α 0)), (1, .int (nI e1)), (2, .int x2), (3, .long x3), (5, .long x4), (7, .long x5), (9, .long x6)]) hx hb d_M_send_198 hl (by decide) rfl (fun ls hl => ?_)
    refine lv_aload_n hx hb d_M_send_200 rfl (lv_at hl 3 rfl) ?_
    refine sm_g (v := .ref (α 24)) hx hb ht hown hK hP 26 (by decide) (ht _ xw978) (fun _ h_ => h_) rfl d_M_send_201 ?_
    refine lv_iload hx hb d_M_send_204 (lv_at hl 0 rfl) ?_
    refine sm_gaI (L := 2) (n := (1 - e1)) (v := (σ.1 24 (1 - e1))) hx hb hK hP 24 23 rfl rfl (xb_in (xb_ns (xb_lit (x := (1 : Int32)) 1 rfl) (xb_lit e1 rfl) (by omega)) (by omega) (by decide)) (xb_cl (xb_ns (xb_lit (x := (1 : Int32)) 1 rfl) (xb_lit e1 rfl) (by omega)) (by omega)) (((xb_i_nk (by decide))).trans ((xb_i_l).trans ((xb_i_l).trans ((xb_i_l).trans ((xb_i_l).trans ((xb_i_l).trans ((xb_i_nk (by decide))))))))) d_M_send_206 ?_
    refine lv_bipush (v := 16) hx hb d_M_send_207 (by decide) ?_
    refine lv_icmp_ge (tgt := 242) hx hb d_M_send_209 (by decide) (fun c2 => ?_) (fun c2 => ?_)
    · skip
      have nc2 := (xb_leN (xb_lit (x := (16 : Int32)) 16 rfl) hz.1 (by omega) (by omega)).mp c2
      exact W.vret hx hb hr (fun t ht_ hW => ⟨⟨(xb_si (xb_sl (xb_sl (xb_sl (xb_sl (xb_sl (xb_si σ 25 32 x2) 27 32 (0 : Int64)) 26 128 x3) 26 129 x4) 26 130 x5) 26 131 x6) 7 e1 ((σ.1 7 e1) + (1 : Int32))), rfl, ((if_pos c1).trans ((if_pos c2))).symm, by rw [sm_B, ht_]; exact hP⟩, hS.F ht_⟩) hS.2.2 d_M_send_242
    · skip
      have nc2 := mt (xb_leN (xb_lit (x := (16 : Int32)) 16 rfl) hz.1 (by omega) (by omega)).mpr c2
      refine lv_aload_n hx hb d_M_send_212 rfl (lv_at hl 3 rfl) ?_
      refine lv_iload hx hb d_M_send_213 (lv_at hl 1 rfl) ?_
      refine lv_bipush (v := 16) hx hb d_M_send_215 (by decide) ?_
      refine lv_iload hx hb d_M_send_217 (lv_at hl 0 rfl) ?_
      refine lv_imul hx hb d_M_send_219 ?_
      refine lv_aload_n hx hb d_M_send_220 rfl (lv_at hl 3 rfl) ?_
      refine sm_g (v := .ref (α 24)) hx hb ht hown hK hP 26 (by decide) (ht _ xw978) (fun _ h_ => h_) rfl d_M_send_221 ?_
      refine lv_iload hx hb d_M_send_224 (lv_at hl 0 rfl) ?_
      refine sm_gaI (L := 2) (n := (1 - e1)) (v := (σ.1 24 (1 - e1))) hx hb hK hP 24 23 rfl rfl (xb_in (xb_ns (xb_lit (x := (1 : Int32)) 1 rfl) (xb_lit e1 rfl) (by omega)) (by omega) (by decide)) (xb_cl (xb_ns (xb_lit (x := (1 : Int32)) 1 rfl) (xb_lit e1 rfl) (by omega)) (by omega)) (((xb_i_nk (by decide))).trans ((xb_i_l).trans ((xb_i_l).trans ((xb_i_l).trans ((xb_i_l).trans ((xb_i_l).trans ((xb_i_nk (by decide))))))))) d_M_send_226 ?_
      refine lv_iadd hx hb d_M_send_227 ?_
      refine sm_cv (va_runV (As := [.int (32 : Int32), .int (((16 : Int32) * ((1 : Int32) - (nI e1))) + (σ.1 24 (1 - e1)))]) (rest := []) ⟨hx, hb, hml, hown, hts⟩ (c_M_copy l D α κ hα (xb_si (xb_sl (xb_sl (xb_sl (xb_sl (xb_sl (xb_si σ 25 32 x2) 27 32 (0 : Int64)) 26 128 x3) 26 129 x4) 26 130 x5) 26 131 x6) 7 e1 ((σ.1 7 e1) + (1 : Int32))) (32 : Int32) 32 (xb_lit (x := (32 : Int32)) 32 rfl) (by omega) (((16 : Int32) * ((1 : Int32) - (nI e1))) + (σ.1 24 (1 - e1))) ((16 * (1 - e1)) + (σ.1 24 (1 - e1)).toNatClampNeg) (xb_na (xb_nm (xb_lit (x := (16 : Int32)) 16 rfl) (xb_ns (xb_lit (x := (1 : Int32)) 1 rfl) (xb_lit e1 rfl) (by omega))) hz.1) (by omega)) (cwV 2 hts (xa_V xw1100 xw1102 xs7 xw11 xw1103) rfl rfl rfl (by decide +kernel) ⟨Nat.le_of_ble_eq_true rfl, Nat.le_of_ble_eq_true rfl⟩) ⟨sm_blind, va_recv (q0 := 0) (ci := 9) hK hP rfl rfl, sm_pre hP hK hN _⟩ rfl rfl hl.1 rfl (lv_room (Nat.le_of_ble_eq_true rfl)) d_M_send_228 ⟨Nat.le_of_ble_eq_true rfl, Nat.le_of_ble_eq_true rfl⟩) hS (fun _ h_ => h_) (fun H locs hP hS => ?_)
      obtain ⟨τ1, hτ1⟩ : ∃ t_, t_ = (q_copy 32 ((16 * (1 - e1)) + (σ.1 24 (1 - e1)).toNatClampNeg) (xb_si (xb_sl (xb_sl (xb_sl (xb_sl (xb_sl (xb_si σ 25 32 x2) 27 32 (0 : Int64)) 26 128 x3) 26 129 x4) 26 130 x5) 26 131 x6) 7 e1 ((σ.1 7 e1) + (1 : Int32)))) := ⟨_, rfl⟩
      rw [← hτ1] at hP
      have okτ1 : sm_ok τ1 := by rw [hτ1]; exact (ok_q_copy 32 ((16 * (1 - e1)) + (σ.1 24 (1 - e1)).toNatClampNeg) (by omega) (by omega) (mk_si (mk_sl (mk_sl (mk_sl (mk_sl (mk_sl (mk_si ok (by decide))))))) (by decide)))
      refine lv_aload_n hx hb d_M_send_231 rfl (lv_at hl 3 rfl) ?_
      refine sm_g (v := .ref (α 24)) hx hb ht hown hK hP 26 (by decide) (ht _ xw978) (fun _ h_ => h_) rfl d_M_send_232 ?_
      refine lv_iload hx hb d_M_send_235 (lv_at hl 0 rfl) ?_
      refine lv_dup2_11 hx hb d_M_send_237 rfl rfl ?_
      refine sm_gaI (L := 2) (n := (1 - e1)) (v := (τ1.1 24 (1 - e1))) hx hb hK hP 24 23 rfl rfl (xb_in (xb_ns (xb_lit (x := (1 : Int32)) 1 rfl) (xb_lit e1 rfl) (by omega)) (by omega) (by decide)) (xb_cl (xb_ns (xb_lit (x := (1 : Int32)) 1 rfl) (xb_lit e1 rfl) (by omega)) (by omega)) rfl d_M_send_238 ?_
      refine lv_iconst (v := 1) hx hb d_M_send_239 (by decide) ?_
      refine lv_iadd hx hb d_M_send_240 ?_
      refine sm_paI (L := 2) (n := (1 - e1)) (x := ((τ1.1 24 (1 - e1)) + (1 : Int32))) hx hb hK hP 24 23 rfl rfl hD hS (xb_in (xb_ns (xb_lit (x := (1 : Int32)) 1 rfl) (xb_lit e1 rfl) (by omega)) (by omega) (by decide)) (xb_cl (xb_ns (xb_lit (x := (1 : Int32)) 1 rfl) (xb_lit e1 rfl) (by omega)) (by omega)) sm_s_24 d_M_send_241 (fun H locs hP hS => ?_)
      exact W.vret hx hb hr (fun t ht_ hW => ⟨⟨(xb_si τ1 24 (1 - e1) ((τ1.1 24 (1 - e1)) + (1 : Int32))), rfl, (by subst hτ1; exact ((if_pos c1).trans ((if_neg c2))).symm), by rw [sm_B, ht_]; exact hP⟩, hS.F ht_⟩) hS.2.2 d_M_send_242
  · skip
    refine lv_aload_n hx hb d_M_send_33 rfl (lv_at hl 2 rfl) ?_
    refine sm_g (v := .ref (α 19)) hx hb ht hown hK hP 21 (by decide) (ht _ xw973) (fun _ h_ => h_) rfl d_M_send_34 ?_
    refine lv_iload hx hb d_M_send_37 (lv_at hl 1 rfl) ?_
    refine sm_gaJ (L := 4) (n := (2 * e1)) (v := (σ.2 19 (2 * e1))) hx hb hK hP 19 18 rfl rfl (xb_in (xb_nm (xb_lit (x := (2 : Int32)) 2 rfl) (xb_lit e1 rfl)) (by omega) (by decide)) (xb_cl (xb_nm (xb_lit (x := (2 : Int32)) 2 rfl) (xb_lit e1 rfl)) (by omega)) xb_l_i d_M_send_39 ?_
    refine lv_aload_n hx hb d_M_send_40 rfl (lv_at hl 2 rfl) ?_
    refine sm_g (v := .ref (α 21)) hx hb ht hown hK hP 23 (by decide) (ht _ xw975) (fun _ h_ => h_) rfl d_M_send_41 ?_
    refine lv_iload hx hb d_M_send_44 (lv_at hl 1 rfl) ?_
    refine sm_gaI (L := 4) (n := (2 * e1)) (v := (σ.1 21 (2 * e1))) hx hb hK hP 21 20 rfl rfl (xb_in (xb_nm (xb_lit (x := (2 : Int32)) 2 rfl) (xb_lit e1 rfl)) (by omega) (by decide)) (xb_cl (xb_nm (xb_lit (x := (2 : Int32)) 2 rfl) (xb_lit e1 rfl)) (by omega)) (xb_i_nk (by decide)) d_M_send_46 ?_
    refine lv_aload_n hx hb d_M_send_47 rfl (lv_at hl 2 rfl) ?_
    refine sm_g (v := .ref (α 7)) hx hb ht hown hK hP 9 (by decide) (ht _ xw961) (fun _ h_ => h_) rfl d_M_send_48 ?_
    refine lv_iload_n hx hb d_M_send_51 rfl (lv_at hl 3 rfl) ?_
    refine sm_gaI (L := 2) (n := e1) (v := (σ.1 7 e1)) hx hb hK hP 7 6 rfl rfl (xb_in (xb_lit e1 rfl) (by omega) (by decide)) (xb_cl (xb_lit e1 rfl) (by omega)) (xb_i_nk (by decide)) d_M_send_52 ?_
    refine lv_iload_n hx hb d_M_send_53 rfl (lv_at hl 4 rfl) ?_
    refine lv_lload_n hx hb d_M_send_54 rfl (lv_at hl 5 rfl) ?_
    refine lv_lload hx hb d_M_send_55 (lv_at hl 6 rfl) ?_
    refine lv_lload hx hb d_M_send_57 (lv_at hl 7 rfl) ?_
    refine lv_lload hx hb d_M_send_59 (lv_at hl 8 rfl) ?_
    refine vp_callSl (W.runS (As := [.long (σ.2 19 (2 * e1)), .int (σ.1 21 (2 * e1)), .int (σ.1 7 e1), .int x2, .long x3, .long x4, .long x5, .long x6]) (rest := [.int (32 : Int32), .ref (α 27)]) ⟨hx, hb, hml, hown, hts⟩ (c_M_tagOf l (σ.2 19 (2 * e1)) (σ.1 21 (2 * e1)) (σ.1 7 e1) x2 x3 x4 x5 x6) (cwS 8 hts (xa_S xw1088 xw1089 xw11 xw1090) rfl rfl rfl (by decide +kernel) ⟨Nat.le_of_ble_eq_true rfl, Nat.le_of_ble_eq_true rfl⟩) preEq rfl rfl hl.1 rfl (lv_room (Nat.le_of_ble_eq_true rfl)) d_M_send_61 ⟨Nat.le_of_ble_eq_true rfl, Nat.le_of_ble_eq_true rfl⟩) (fun r_ e_ => ?_)
    subst e_
    refine lv_goto (tgt := 68) hx hb d_M_send_64 (by decide) ?_
    refine sm_paJ (L := 34) (n := 32) (x := (g_tagOf (σ.2 19 (2 * e1)) (σ.1 21 (2 * e1)) (σ.1 7 e1) x2 x3 x4 x5 x6)) hx hb hK hP 27 26 rfl rfl hD hS (xb_in (xb_lit (x := (32 : Int32)) 32 rfl) (by omega) (by decide)) (xb_cl (xb_lit (x := (32 : Int32)) 32 rfl) (by omega)) sm_s_27 d_M_send_68 (fun H locs hP hS => ?_)
    refine lv_aload_n hx hb d_M_send_69 rfl (lv_at hl 2 rfl) ?_
    refine sm_g (v := .ref (α 26)) hx hb ht hown hK hP 28 (by decide) (ht _ xw980) (fun _ h_ => h_) rfl d_M_send_70 ?_
    refine lv_iconst (v := 4) hx hb d_M_send_73 (by decide) ?_
    refine lv_iload hx hb d_M_send_74 (lv_at hl 0 rfl) ?_
    refine lv_imul hx hb d_M_send_76 ?_
    refine xb_ti (y := (128 : Int32)) (by decide) ?_
    refine lv_lload_n hx hb d_M_send_77 rfl (lv_at hl 5 rfl) ?_
    refine sm_paJ (L := 136) (n := 128) (x := x3) hx hb hK hP 26 25 rfl rfl hD hS (xb_in (xb_lit (x := (128 : Int32)) 128 rfl) (by omega) (by decide)) (xb_cl (xb_lit (x := (128 : Int32)) 128 rfl) (by omega)) sm_s_26 d_M_send_78 (fun H locs hP hS => ?_)
    refine lv_aload_n hx hb d_M_send_79 rfl (lv_at hl 2 rfl) ?_
    refine sm_g (v := .ref (α 26)) hx hb ht hown hK hP 28 (by decide) (ht _ xw980) (fun _ h_ => h_) rfl d_M_send_80 ?_
    refine lv_iconst (v := 4) hx hb d_M_send_83 (by decide) ?_
    refine lv_iload hx hb d_M_send_84 (lv_at hl 0 rfl) ?_
    refine lv_imul hx hb d_M_send_86 ?_
    refine xb_ti (y := (128 : Int32)) (by decide) ?_
    refine lv_iconst (v := 1) hx hb d_M_send_87 (by decide) ?_
    refine lv_iadd hx hb d_M_send_88 ?_
    refine xb_ti (y := (129 : Int32)) (by decide) ?_
    refine lv_lload hx hb d_M_send_89 (lv_at hl 6 rfl) ?_
    refine sm_paJ (L := 136) (n := 129) (x := x4) hx hb hK hP 26 25 rfl rfl hD hS (xb_in (xb_lit (x := (129 : Int32)) 129 rfl) (by omega) (by decide)) (xb_cl (xb_lit (x := (129 : Int32)) 129 rfl) (by omega)) sm_s_26 d_M_send_91 (fun H locs hP hS => ?_)
    refine lv_aload_n hx hb d_M_send_92 rfl (lv_at hl 2 rfl) ?_
    refine sm_g (v := .ref (α 26)) hx hb ht hown hK hP 28 (by decide) (ht _ xw980) (fun _ h_ => h_) rfl d_M_send_93 ?_
    refine lv_iconst (v := 4) hx hb d_M_send_96 (by decide) ?_
    refine lv_iload hx hb d_M_send_97 (lv_at hl 0 rfl) ?_
    refine lv_imul hx hb d_M_send_99 ?_
    refine xb_ti (y := (128 : Int32)) (by decide) ?_
    refine lv_iconst (v := 2) hx hb d_M_send_100 (by decide) ?_
    refine lv_iadd hx hb d_M_send_101 ?_
    refine xb_ti (y := (130 : Int32)) (by decide) ?_
    refine lv_lload hx hb d_M_send_102 (lv_at hl 7 rfl) ?_
    refine sm_paJ (L := 136) (n := 130) (x := x5) hx hb hK hP 26 25 rfl rfl hD hS (xb_in (xb_lit (x := (130 : Int32)) 130 rfl) (by omega) (by decide)) (xb_cl (xb_lit (x := (130 : Int32)) 130 rfl) (by omega)) sm_s_26 d_M_send_104 (fun H locs hP hS => ?_)
    refine lv_aload_n hx hb d_M_send_105 rfl (lv_at hl 2 rfl) ?_
    refine sm_g (v := .ref (α 26)) hx hb ht hown hK hP 28 (by decide) (ht _ xw980) (fun _ h_ => h_) rfl d_M_send_106 ?_
    refine lv_iconst (v := 4) hx hb d_M_send_109 (by decide) ?_
    refine lv_iload hx hb d_M_send_110 (lv_at hl 0 rfl) ?_
    refine lv_imul hx hb d_M_send_112 ?_
    refine xb_ti (y := (128 : Int32)) (by decide) ?_
    refine lv_iconst (v := 3) hx hb d_M_send_113 (by decide) ?_
    refine lv_iadd hx hb d_M_send_114 ?_
    refine xb_ti (y := (131 : Int32)) (by decide) ?_
    refine lv_lload hx hb d_M_send_115 (lv_at hl 8 rfl) ?_
    refine sm_paJ (L := 136) (n := 131) (x := x6) hx hb hK hP 26 25 rfl rfl hD hS (xb_in (xb_lit (x := (131 : Int32)) 131 rfl) (by omega) (by decide)) (xb_cl (xb_lit (x := (131 : Int32)) 131 rfl) (by omega)) sm_s_26 d_M_send_117 (fun H locs hP hS => ?_)
    refine lv_iconst (v := 0) hx hb d_M_send_118 (by decide) ?_
    refine lv_istore (lv' := [(13, .int (0 : Int32)), (12, .int (32 : Int32)), (11, .int ((2 : Int32) * (nI e1))), (0, .ref (α 0)), (1, .int (nI e1)), (2, .int x2), (3, .long x3), (5, .long x4), (7, .long x5), (9, .long x6)]) hx hb d_M_send_119 hl (by decide) rfl (fun ls hl => ?_)
    refine lv_iload hx hb d_M_send_121 (lv_at hl 0 rfl) ?_
    refine lv_iconst (v := 4) hx hb d_M_send_123 (by decide) ?_
    refine lv_icmp_ge (tgt := 185) hx hb d_M_send_124 (by decide) (fun h_ => absurd h_ (by decide)) (fun _ => ?_)
    refine lv_aload_n hx hb d_M_send_127 rfl (lv_at hl 3 rfl) ?_
    refine sm_g (v := .ref (α 17)) hx hb ht hown hK hP 19 (by decide) (ht _ xw971) (fun _ h_ => h_) rfl d_M_send_128 ?_
    refine lv_iload hx hb d_M_send_131 (lv_at hl 2 rfl) ?_
    refine sm_gaZ (L := 4) (n := (2 * e1)) (v := (σ.1 17 (2 * e1))) hx hb hK hP 17 16 rfl rfl (xb_in (xb_nm (xb_lit (x := (2 : Int32)) 2 rfl) (xb_lit e1 rfl)) (by omega) (by decide)) (xb_cl (xb_nm (xb_lit (x := (2 : Int32)) 2 rfl) (xb_lit e1 rfl)) (by omega)) ((xb_i_l).trans ((xb_i_l).trans ((xb_i_l).trans ((xb_i_l).trans ((xb_i_l).trans ((xb_i_nk (by decide)))))))) d_M_send_133 ?_
    refine lv_if_eq (tgt := 185) hx hb d_M_send_134 (by decide) (fun h_ => absurd h_ c1) (fun _ => ?_)
    refine lv_aload_n hx hb d_M_send_137 rfl (lv_at hl 3 rfl) ?_
    refine sm_g (v := .ref (α 26)) hx hb ht hown hK hP 28 (by decide) (ht _ xw980) (fun _ h_ => h_) rfl d_M_send_138 ?_
    refine lv_iconst (v := 4) hx hb d_M_send_141 (by decide) ?_
    refine lv_iload hx hb d_M_send_142 (lv_at hl 1 rfl) ?_
    refine lv_imul hx hb d_M_send_144 ?_
    refine xb_ti (y := (128 : Int32)) (by decide) ?_
    refine lv_iload hx hb d_M_send_145 (lv_at hl 0 rfl) ?_
    refine lv_iadd hx hb d_M_send_147 ?_
    refine xb_ti (y := (128 : Int32)) (by decide) ?_
    refine lv_dup2_11 hx hb d_M_send_148 rfl rfl ?_
    refine sm_gaJ (L := 136) (n := 128) (v := x3) hx hb hK hP 26 25 rfl rfl (xb_in (xb_lit (x := (128 : Int32)) 128 rfl) (by omega) (by decide)) (xb_cl (xb_lit (x := (128 : Int32)) 128 rfl) (by omega)) (((xb_l_nj (by decide))).trans (((xb_l_nj (by decide))).trans (((xb_l_nj (by decide))).trans (xb_l_hit)))) d_M_send_149 ?_
    refine lv_aload_n hx hb d_M_send_150 rfl (lv_at hl 3 rfl) ?_
    refine sm_g (v := .ref (α 18)) hx hb ht hown hK hP 20 (by decide) (ht _ xw972) (fun _ h_ => h_) rfl d_M_send_151 ?_
    refine lv_iload hx hb d_M_send_154 (lv_at hl 2 rfl) ?_
    refine sm_gaJ (L := 4) (n := (2 * e1)) (v := (σ.2 18 (2 * e1))) hx hb hK hP 18 17 rfl rfl (xb_in (xb_nm (xb_lit (x := (2 : Int32)) 2 rfl) (xb_lit e1 rfl)) (by omega) (by decide)) (xb_cl (xb_nm (xb_lit (x := (2 : Int32)) 2 rfl) (xb_lit e1 rfl)) (by omega)) (((xb_l_nk (by decide))).trans (((xb_l_nk (by decide))).trans (((xb_l_nk (by decide))).trans (((xb_l_nk (by decide))).trans (((xb_l_nk (by decide))).trans (xb_l_i)))))) d_M_send_156 ?_
    refine lv_aload_n hx hb d_M_send_157 rfl (lv_at hl 3 rfl) ?_
    refine sm_g (v := .ref (α 20)) hx hb ht hown hK hP 22 (by decide) (ht _ xw974) (fun _ h_ => h_) rfl d_M_send_158 ?_
    refine lv_iload hx hb d_M_send_161 (lv_at hl 2 rfl) ?_
    refine sm_gaI (L := 4) (n := (2 * e1)) (v := (σ.1 20 (2 * e1))) hx hb hK hP 20 19 rfl rfl (xb_in (xb_nm (xb_lit (x := (2 : Int32)) 2 rfl) (xb_lit e1 rfl)) (by omega) (by decide)) (xb_cl (xb_nm (xb_lit (x := (2 : Int32)) 2 rfl) (xb_lit e1 rfl)) (by omega)) ((xb_i_l).trans ((xb_i_l).trans ((xb_i_l).trans ((xb_i_l).trans ((xb_i_l).trans ((xb_i_nk (by decide)))))))) d_M_send_163 ?_
    refine lv_aload_n hx hb d_M_send_164 rfl (lv_at hl 3 rfl) ?_
    refine sm_g (v := .ref (α 7)) hx hb ht hown hK hP 9 (by decide) (ht _ xw961) (fun _ h_ => h_) rfl d_M_send_165 ?_
    refine lv_iload_n hx hb d_M_send_168 rfl (lv_at hl 4 rfl) ?_
    refine sm_gaI (L := 2) (n := e1) (v := (σ.1 7 e1)) hx hb hK hP 7 6 rfl rfl (xb_in (xb_lit e1 rfl) (by omega) (by decide)) (xb_cl (xb_lit e1 rfl) (by omega)) ((xb_i_l).trans ((xb_i_l).trans ((xb_i_l).trans ((xb_i_l).trans ((xb_i_l).trans ((xb_i_nk (by decide)))))))) d_M_send_169 ?_
    refine lv_iload hx hb d_M_send_170 (lv_at hl 0 rfl) ?_
    refine lv_iconst (v := 1) hx hb d_M_send_172 (by decide) ?_
    refine lv_iadd hx hb d_M_send_173 ?_
    refine xb_ti (y := (1 : Int32)) (by decide) ?_
    refine vp_callSl (W.runS (As := [.long (σ.2 18 (2 * e1)), .int (σ.1 20 (2 * e1)), .int (σ.1 7 e1), .int (1 : Int32)]) (rest := [.long x3, .int (128 : Int32), .ref (α 26)]) ⟨hx, hb, hml, hown, hts⟩ (c_M_mask l (σ.2 18 (2 * e1)) (σ.1 20 (2 * e1)) (σ.1 7 e1) (1 : Int32)) (cwS 4 hts (xa_S xw1097 xw1098 xw11 xw1099) rfl rfl rfl (by decide +kernel) ⟨Nat.le_of_ble_eq_true rfl, Nat.le_of_ble_eq_true rfl⟩) preEq rfl rfl hl.1 rfl (lv_room (Nat.le_of_ble_eq_true rfl)) d_M_send_174 ⟨Nat.le_of_ble_eq_true rfl, Nat.le_of_ble_eq_true rfl⟩) (fun r_ e_ => ?_)
    subst e_
    refine lv_lxor hx hb d_M_send_177 ?_
    refine sm_paJ (L := 136) (n := 128) (x := (x3 ^^^ (g_mask (σ.2 18 (2 * e1)) (σ.1 20 (2 * e1)) (σ.1 7 e1) (1 : Int32)))) hx hb hK hP 26 25 rfl rfl hD hS (xb_in (xb_lit (x := (128 : Int32)) 128 rfl) (by omega) (by decide)) (xb_cl (xb_lit (x := (128 : Int32)) 128 rfl) (by omega)) sm_s_26 d_M_send_178 (fun H locs hP hS => ?_)
    refine lv_iinc (v := (1 : Int32)) (k := 0) (lv' := [(13, .int (1 : Int32)), (12, .int (32 : Int32)), (11, .int ((2 : Int32) * (nI e1))), (0, .ref (α 0)), (1, .int (nI e1)), (2, .int x2), (3, .long x3), (5, .long x4), (7, .long x5), (9, .long x6)]) hx hb d_M_send_179 hl rfl (by decide) (by decide) rfl (fun ls hl => ?_)
    refine lv_goto (tgt := 121) hx hb d_M_send_182 (by decide) ?_
    refine lv_iload hx hb d_M_send_121 (lv_at hl 0 rfl) ?_
    refine lv_iconst (v := 4) hx hb d_M_send_123 (by decide) ?_
    refine lv_icmp_ge (tgt := 185) hx hb d_M_send_124 (by decide) (fun h_ => absurd h_ (by decide)) (fun _ => ?_)
    refine lv_aload_n hx hb d_M_send_127 rfl (lv_at hl 3 rfl) ?_
    refine sm_g (v := .ref (α 17)) hx hb ht hown hK hP 19 (by decide) (ht _ xw971) (fun _ h_ => h_) rfl d_M_send_128 ?_
    refine lv_iload hx hb d_M_send_131 (lv_at hl 2 rfl) ?_
    refine sm_gaZ (L := 4) (n := (2 * e1)) (v := (σ.1 17 (2 * e1))) hx hb hK hP 17 16 rfl rfl (xb_in (xb_nm (xb_lit (x := (2 : Int32)) 2 rfl) (xb_lit e1 rfl)) (by omega) (by decide)) (xb_cl (xb_nm (xb_lit (x := (2 : Int32)) 2 rfl) (xb_lit e1 rfl)) (by omega)) ((xb_i_l).trans ((xb_i_l).trans ((xb_i_l).trans ((xb_i_l).trans ((xb_i_l).trans ((xb_i_l).trans ((xb_i_nk (by decide))))))))) d_M_send_133 ?_
    refine lv_if_eq (tgt := 185) hx hb d_M_send_134 (by decide) (fun h_ => absurd h_ c1) (fun _ => ?_)
    refine lv_aload_n hx hb d_M_send_137 rfl (lv_at hl 3 rfl) ?_
    refine sm_g (v := .ref (α 26)) hx hb ht hown hK hP 28 (by decide) (ht _ xw980) (fun _ h_ => h_) rfl d_M_send_138 ?_
    refine lv_iconst (v := 4) hx hb d_M_send_141 (by decide) ?_
    refine lv_iload hx hb d_M_send_142 (lv_at hl 1 rfl) ?_
    refine lv_imul hx hb d_M_send_144 ?_
    refine xb_ti (y := (128 : Int32)) (by decide) ?_
    refine lv_iload hx hb d_M_send_145 (lv_at hl 0 rfl) ?_
    refine lv_iadd hx hb d_M_send_147 ?_
    refine xb_ti (y := (129 : Int32)) (by decide) ?_
    refine lv_dup2_11 hx hb d_M_send_148 rfl rfl ?_
    refine sm_gaJ (L := 136) (n := 129) (v := x4) hx hb hK hP 26 25 rfl rfl (xb_in (xb_lit (x := (129 : Int32)) 129 rfl) (by omega) (by decide)) (xb_cl (xb_lit (x := (129 : Int32)) 129 rfl) (by omega)) (((xb_l_nj (by decide))).trans (((xb_l_nj (by decide))).trans (((xb_l_nj (by decide))).trans (xb_l_hit)))) d_M_send_149 ?_
    refine lv_aload_n hx hb d_M_send_150 rfl (lv_at hl 3 rfl) ?_
    refine sm_g (v := .ref (α 18)) hx hb ht hown hK hP 20 (by decide) (ht _ xw972) (fun _ h_ => h_) rfl d_M_send_151 ?_
    refine lv_iload hx hb d_M_send_154 (lv_at hl 2 rfl) ?_
    refine sm_gaJ (L := 4) (n := (2 * e1)) (v := (σ.2 18 (2 * e1))) hx hb hK hP 18 17 rfl rfl (xb_in (xb_nm (xb_lit (x := (2 : Int32)) 2 rfl) (xb_lit e1 rfl)) (by omega) (by decide)) (xb_cl (xb_nm (xb_lit (x := (2 : Int32)) 2 rfl) (xb_lit e1 rfl)) (by omega)) (((xb_l_nk (by decide))).trans (((xb_l_nk (by decide))).trans (((xb_l_nk (by decide))).trans (((xb_l_nk (by decide))).trans (((xb_l_nk (by decide))).trans (((xb_l_nk (by decide))).trans (xb_l_i))))))) d_M_send_156 ?_
    refine lv_aload_n hx hb d_M_send_157 rfl (lv_at hl 3 rfl) ?_
    refine sm_g (v := .ref (α 20)) hx hb ht hown hK hP 22 (by decide) (ht _ xw974) (fun _ h_ => h_) rfl d_M_send_158 ?_
    refine lv_iload hx hb d_M_send_161 (lv_at hl 2 rfl) ?_
    refine sm_gaI (L := 4) (n := (2 * e1)) (v := (σ.1 20 (2 * e1))) hx hb hK hP 20 19 rfl rfl (xb_in (xb_nm (xb_lit (x := (2 : Int32)) 2 rfl) (xb_lit e1 rfl)) (by omega) (by decide)) (xb_cl (xb_nm (xb_lit (x := (2 : Int32)) 2 rfl) (xb_lit e1 rfl)) (by omega)) ((xb_i_l).trans ((xb_i_l).trans ((xb_i_l).trans ((xb_i_l).trans ((xb_i_l).trans ((xb_i_l).trans ((xb_i_nk (by decide))))))))) d_M_send_163 ?_
    refine lv_aload_n hx hb d_M_send_164 rfl (lv_at hl 3 rfl) ?_
    refine sm_g (v := .ref (α 7)) hx hb ht hown hK hP 9 (by decide) (ht _ xw961) (fun _ h_ => h_) rfl d_M_send_165 ?_
    refine lv_iload_n hx hb d_M_send_168 rfl (lv_at hl 4 rfl) ?_
    refine sm_gaI (L := 2) (n := e1) (v := (σ.1 7 e1)) hx hb hK hP 7 6 rfl rfl (xb_in (xb_lit e1 rfl) (by omega) (by decide)) (xb_cl (xb_lit e1 rfl) (by omega)) ((xb_i_l).trans ((xb_i_l).trans ((xb_i_l).trans ((xb_i_l).trans ((xb_i_l).trans ((xb_i_l).trans ((xb_i_nk (by decide))))))))) d_M_send_169 ?_
    refine lv_iload hx hb d_M_send_170 (lv_at hl 0 rfl) ?_
    refine lv_iconst (v := 1) hx hb d_M_send_172 (by decide) ?_
    refine lv_iadd hx hb d_M_send_173 ?_
    refine xb_ti (y := (2 : Int32)) (by decide) ?_
    refine vp_callSl (W.runS (As := [.long (σ.2 18 (2 * e1)), .int (σ.1 20 (2 * e1)), .int (σ.1 7 e1), .int (2 : Int32)]) (rest := [.long x4, .int (129 : Int32), .ref (α 26)]) ⟨hx, hb, hml, hown, hts⟩ (c_M_mask l (σ.2 18 (2 * e1)) (σ.1 20 (2 * e1)) (σ.1 7 e1) (2 : Int32)) (cwS 4 hts (xa_S xw1097 xw1098 xw11 xw1099) rfl rfl rfl (by decide +kernel) ⟨Nat.le_of_ble_eq_true rfl, Nat.le_of_ble_eq_true rfl⟩) preEq rfl rfl hl.1 rfl (lv_room (Nat.le_of_ble_eq_true rfl)) d_M_send_174 ⟨Nat.le_of_ble_eq_true rfl, Nat.le_of_ble_eq_true rfl⟩) (fun r_ e_ => ?_)
    subst e_
    refine lv_lxor hx hb d_M_send_177 ?_
    refine sm_paJ (L := 136) (n := 129) (x := (x4 ^^^ (g_mask (σ.2 18 (2 * e1)) (σ.1 20 (2 * e1)) (σ.1 7 e1) (2 : Int32)))) hx hb hK hP 26 25 rfl rfl hD hS (xb_in (xb_lit (x := (129 : Int32)) 129 rfl) (by omega) (by decide)) (xb_cl (xb_lit (x := (129 : Int32)) 129 rfl) (by omega)) sm_s_26 d_M_send_178 (fun H locs hP hS => ?_)
    refine lv_iinc (v := (2 : Int32)) (k := 0) (lv' := [(13, .int (2 : Int32)), (12, .int (32 : Int32)), (11, .int ((2 : Int32) * (nI e1))), (0, .ref (α 0)), (1, .int (nI e1)), (2, .int x2), (3, .long x3), (5, .long x4), (7, .long x5), (9, .long x6)]) hx hb d_M_send_179 hl rfl (by decide) (by decide) rfl (fun ls hl => ?_)
    refine lv_goto (tgt := 121) hx hb d_M_send_182 (by decide) ?_
    refine lv_iload hx hb d_M_send_121 (lv_at hl 0 rfl) ?_
    refine lv_iconst (v := 4) hx hb d_M_send_123 (by decide) ?_
    refine lv_icmp_ge (tgt := 185) hx hb d_M_send_124 (by decide) (fun h_ => absurd h_ (by decide)) (fun _ => ?_)
    refine lv_aload_n hx hb d_M_send_127 rfl (lv_at hl 3 rfl) ?_
    refine sm_g (v := .ref (α 17)) hx hb ht hown hK hP 19 (by decide) (ht _ xw971) (fun _ h_ => h_) rfl d_M_send_128 ?_
    refine lv_iload hx hb d_M_send_131 (lv_at hl 2 rfl) ?_
    refine sm_gaZ (L := 4) (n := (2 * e1)) (v := (σ.1 17 (2 * e1))) hx hb hK hP 17 16 rfl rfl (xb_in (xb_nm (xb_lit (x := (2 : Int32)) 2 rfl) (xb_lit e1 rfl)) (by omega) (by decide)) (xb_cl (xb_nm (xb_lit (x := (2 : Int32)) 2 rfl) (xb_lit e1 rfl)) (by omega)) ((xb_i_l).trans ((xb_i_l).trans ((xb_i_l).trans ((xb_i_l).trans ((xb_i_l).trans ((xb_i_l).trans ((xb_i_l).trans ((xb_i_nk (by decide)))))))))) d_M_send_133 ?_
    refine lv_if_eq (tgt := 185) hx hb d_M_send_134 (by decide) (fun h_ => absurd h_ c1) (fun _ => ?_)
    refine lv_aload_n hx hb d_M_send_137 rfl (lv_at hl 3 rfl) ?_
    refine sm_g (v := .ref (α 26)) hx hb ht hown hK hP 28 (by decide) (ht _ xw980) (fun _ h_ => h_) rfl d_M_send_138 ?_
    refine lv_iconst (v := 4) hx hb d_M_send_141 (by decide) ?_
    refine lv_iload hx hb d_M_send_142 (lv_at hl 1 rfl) ?_
    refine lv_imul hx hb d_M_send_144 ?_
    refine xb_ti (y := (128 : Int32)) (by decide) ?_
    refine lv_iload hx hb d_M_send_145 (lv_at hl 0 rfl) ?_
    refine lv_iadd hx hb d_M_send_147 ?_
    refine xb_ti (y := (130 : Int32)) (by decide) ?_
    refine lv_dup2_11 hx hb d_M_send_148 rfl rfl ?_
    refine sm_gaJ (L := 136) (n := 130) (v := x5) hx hb hK hP 26 25 rfl rfl (xb_in (xb_lit (x := (130 : Int32)) 130 rfl) (by omega) (by decide)) (xb_cl (xb_lit (x := (130 : Int32)) 130 rfl) (by omega)) (((xb_l_nj (by decide))).trans (((xb_l_nj (by decide))).trans (((xb_l_nj (by decide))).trans (xb_l_hit)))) d_M_send_149 ?_
    refine lv_aload_n hx hb d_M_send_150 rfl (lv_at hl 3 rfl) ?_
    refine sm_g (v := .ref (α 18)) hx hb ht hown hK hP 20 (by decide) (ht _ xw972) (fun _ h_ => h_) rfl d_M_send_151 ?_
    refine lv_iload hx hb d_M_send_154 (lv_at hl 2 rfl) ?_
    refine sm_gaJ (L := 4) (n := (2 * e1)) (v := (σ.2 18 (2 * e1))) hx hb hK hP 18 17 rfl rfl (xb_in (xb_nm (xb_lit (x := (2 : Int32)) 2 rfl) (xb_lit e1 rfl)) (by omega) (by decide)) (xb_cl (xb_nm (xb_lit (x := (2 : Int32)) 2 rfl) (xb_lit e1 rfl)) (by omega)) (((xb_l_nk (by decide))).trans (((xb_l_nk (by decide))).trans (((xb_l_nk (by decide))).trans (((xb_l_nk (by decide))).trans (((xb_l_nk (by decide))).trans (((xb_l_nk (by decide))).trans (((xb_l_nk (by decide))).trans (xb_l_i)))))))) d_M_send_156 ?_
    refine lv_aload_n hx hb d_M_send_157 rfl (lv_at hl 3 rfl) ?_
    refine sm_g (v := .ref (α 20)) hx hb ht hown hK hP 22 (by decide) (ht _ xw974) (fun _ h_ => h_) rfl d_M_send_158 ?_
    refine lv_iload hx hb d_M_send_161 (lv_at hl 2 rfl) ?_
    refine sm_gaI (L := 4) (n := (2 * e1)) (v := (σ.1 20 (2 * e1))) hx hb hK hP 20 19 rfl rfl (xb_in (xb_nm (xb_lit (x := (2 : Int32)) 2 rfl) (xb_lit e1 rfl)) (by omega) (by decide)) (xb_cl (xb_nm (xb_lit (x := (2 : Int32)) 2 rfl) (xb_lit e1 rfl)) (by omega)) ((xb_i_l).trans ((xb_i_l).trans ((xb_i_l).trans ((xb_i_l).trans ((xb_i_l).trans ((xb_i_l).trans ((xb_i_l).trans ((xb_i_nk (by decide)))))))))) d_M_send_163 ?_
    refine lv_aload_n hx hb d_M_send_164 rfl (lv_at hl 3 rfl) ?_
    refine sm_g (v := .ref (α 7)) hx hb ht hown hK hP 9 (by decide) (ht _ xw961) (fun _ h_ => h_) rfl d_M_send_165 ?_
    refine lv_iload_n hx hb d_M_send_168 rfl (lv_at hl 4 rfl) ?_
    refine sm_gaI (L := 2) (n := e1) (v := (σ.1 7 e1)) hx hb hK hP 7 6 rfl rfl (xb_in (xb_lit e1 rfl) (by omega) (by decide)) (xb_cl (xb_lit e1 rfl) (by omega)) ((xb_i_l).trans ((xb_i_l).trans ((xb_i_l).trans ((xb_i_l).trans ((xb_i_l).trans ((xb_i_l).trans ((xb_i_l).trans ((xb_i_nk (by decide)))))))))) d_M_send_169 ?_
    refine lv_iload hx hb d_M_send_170 (lv_at hl 0 rfl) ?_
    refine lv_iconst (v := 1) hx hb d_M_send_172 (by decide) ?_
    refine lv_iadd hx hb d_M_send_173 ?_
    refine xb_ti (y := (3 : Int32)) (by decide) ?_
    refine vp_callSl (W.runS (As := [.long (σ.2 18 (2 * e1)), .int (σ.1 20 (2 * e1)), .int (σ.1 7 e1), .int (3 : Int32)]) (rest := [.long x5, .int (130 : Int32), .ref (α 26)]) ⟨hx, hb, hml, hown, hts⟩ (c_M_mask l (σ.2 18 (2 * e1)) (σ.1 20 (2 * e1)) (σ.1 7 e1) (3 : Int32)) (cwS 4 hts (xa_S xw1097 xw1098 xw11 xw1099) rfl rfl rfl (by decide +kernel) ⟨Nat.le_of_ble_eq_true rfl, Nat.le_of_ble_eq_true rfl⟩) preEq rfl rfl hl.1 rfl (lv_room (Nat.le_of_ble_eq_true rfl)) d_M_send_174 ⟨Nat.le_of_ble_eq_true rfl, Nat.le_of_ble_eq_true rfl⟩) (fun r_ e_ => ?_)
    subst e_
    refine lv_lxor hx hb d_M_send_177 ?_
    refine sm_paJ (L := 136) (n := 130) (x := (x5 ^^^ (g_mask (σ.2 18 (2 * e1)) (σ.1 20 (2 * e1)) (σ.1 7 e1) (3 : Int32)))) hx hb hK hP 26 25 rfl rfl hD hS (xb_in (xb_lit (x := (130 : Int32)) 130 rfl) (by omega) (by decide)) (xb_cl (xb_lit (x := (130 : Int32)) 130 rfl) (by omega)) sm_s_26 d_M_send_178 (fun H locs hP hS => ?_)
    refine lv_iinc (v := (3 : Int32)) (k := 0) (lv' := [(13, .int (3 : Int32)), (12, .int (32 : Int32)), (11, .int ((2 : Int32) * (nI e1))), (0, .ref (α 0)), (1, .int (nI e1)), (2, .int x2), (3, .long x3), (5, .long x4), (7, .long x5), (9, .long x6)]) hx hb d_M_send_179 hl rfl (by decide) (by decide) rfl (fun ls hl => ?_)
    refine lv_goto (tgt := 121) hx hb d_M_send_182 (by decide) ?_
    refine lv_iload hx hb d_M_send_121 (lv_at hl 0 rfl) ?_
    refine lv_iconst (v := 4) hx hb d_M_send_123 (by decide) ?_
    refine lv_icmp_ge (tgt := 185) hx hb d_M_send_124 (by decide) (fun h_ => absurd h_ (by decide)) (fun _ => ?_)
    refine lv_aload_n hx hb d_M_send_127 rfl (lv_at hl 3 rfl) ?_
    refine sm_g (v := .ref (α 17)) hx hb ht hown hK hP 19 (by decide) (ht _ xw971) (fun _ h_ => h_) rfl d_M_send_128 ?_
    refine lv_iload hx hb d_M_send_131 (lv_at hl 2 rfl) ?_
    refine sm_gaZ (L := 4) (n := (2 * e1)) (v := (σ.1 17 (2 * e1))) hx hb hK hP 17 16 rfl rfl (xb_in (xb_nm (xb_lit (x := (2 : Int32)) 2 rfl) (xb_lit e1 rfl)) (by omega) (by decide)) (xb_cl (xb_nm (xb_lit (x := (2 : Int32)) 2 rfl) (xb_lit e1 rfl)) (by omega)) ((xb_i_l).trans ((xb_i_l).trans ((xb_i_l).trans ((xb_i_l).trans ((xb_i_l).trans ((xb_i_l).trans ((xb_i_l).trans ((xb_i_l).trans ((xb_i_nk (by decide))))))))))) d_M_send_133 ?_
    refine lv_if_eq (tgt := 185) hx hb d_M_send_134 (by decide) (fun h_ => absurd h_ c1) (fun _ => ?_)
    refine lv_aload_n hx hb d_M_send_137 rfl (lv_at hl 3 rfl) ?_
    refine sm_g (v := .ref (α 26)) hx hb ht hown hK hP 28 (by decide) (ht _ xw980) (fun _ h_ => h_) rfl d_M_send_138 ?_
    refine lv_iconst (v := 4) hx hb d_M_send_141 (by decide) ?_
    refine lv_iload hx hb d_M_send_142 (lv_at hl 1 rfl) ?_
    refine lv_imul hx hb d_M_send_144 ?_
    refine xb_ti (y := (128 : Int32)) (by decide) ?_
    refine lv_iload hx hb d_M_send_145 (lv_at hl 0 rfl) ?_
    refine lv_iadd hx hb d_M_send_147 ?_
    refine xb_ti (y := (131 : Int32)) (by decide) ?_
    refine lv_dup2_11 hx hb d_M_send_148 rfl rfl ?_
    refine sm_gaJ (L := 136) (n := 131) (v := x6) hx hb hK hP 26 25 rfl rfl (xb_in (xb_lit (x := (131 : Int32)) 131 rfl) (by omega) (by decide)) (xb_cl (xb_lit (x := (131 : Int32)) 131 rfl) (by omega)) (((xb_l_nj (by decide))).trans (((xb_l_nj (by decide))).trans (((xb_l_nj (by decide))).trans (xb_l_hit)))) d_M_send_149 ?_
    refine lv_aload_n hx hb d_M_send_150 rfl (lv_at hl 3 rfl) ?_
    refine sm_g (v := .ref (α 18)) hx hb ht hown hK hP 20 (by decide) (ht _ xw972) (fun _ h_ => h_) rfl d_M_send_151 ?_
    refine lv_iload hx hb d_M_send_154 (lv_at hl 2 rfl) ?_
    refine sm_gaJ (L := 4) (n := (2 * e1)) (v := (σ.2 18 (2 * e1))) hx hb hK hP 18 17 rfl rfl (xb_in (xb_nm (xb_lit (x := (2 : Int32)) 2 rfl) (xb_lit e1 rfl)) (by omega) (by decide)) (xb_cl (xb_nm (xb_lit (x := (2 : Int32)) 2 rfl) (xb_lit e1 rfl)) (by omega)) (((xb_l_nk (by decide))).trans (((xb_l_nk (by decide))).trans (((xb_l_nk (by decide))).trans (((xb_l_nk (by decide))).trans (((xb_l_nk (by decide))).trans (((xb_l_nk (by decide))).trans (((xb_l_nk (by decide))).trans (((xb_l_nk (by decide))).trans (xb_l_i))))))))) d_M_send_156 ?_
    refine lv_aload_n hx hb d_M_send_157 rfl (lv_at hl 3 rfl) ?_
    refine sm_g (v := .ref (α 20)) hx hb ht hown hK hP 22 (by decide) (ht _ xw974) (fun _ h_ => h_) rfl d_M_send_158 ?_
    refine lv_iload hx hb d_M_send_161 (lv_at hl 2 rfl) ?_
    refine sm_gaI (L := 4) (n := (2 * e1)) (v := (σ.1 20 (2 * e1))) hx hb hK hP 20 19 rfl rfl (xb_in (xb_nm (xb_lit (x := (2 : Int32)) 2 rfl) (xb_lit e1 rfl)) (by omega) (by decide)) (xb_cl (xb_nm (xb_lit (x := (2 : Int32)) 2 rfl) (xb_lit e1 rfl)) (by omega)) ((xb_i_l).trans ((xb_i_l).trans ((xb_i_l).trans ((xb_i_l).trans ((xb_i_l).trans ((xb_i_l).trans ((xb_i_l).trans ((xb_i_l).trans ((xb_i_nk (by decide))))))))))) d_M_send_163 ?_
    refine lv_aload_n hx hb d_M_send_164 rfl (lv_at hl 3 rfl) ?_
    refine sm_g (v := .ref (α 7)) hx hb ht hown hK hP 9 (by decide) (ht _ xw961) (fun _ h_ => h_) rfl d_M_send_165 ?_
    refine lv_iload_n hx hb d_M_send_168 rfl (lv_at hl 4 rfl) ?_
    refine sm_gaI (L := 2) (n := e1) (v := (σ.1 7 e1)) hx hb hK hP 7 6 rfl rfl (xb_in (xb_lit e1 rfl) (by omega) (by decide)) (xb_cl (xb_lit e1 rfl) (by omega)) ((xb_i_l).trans ((xb_i_l).trans ((xb_i_l).trans ((xb_i_l).trans ((xb_i_l).trans ((xb_i_l).trans ((xb_i_l).trans ((xb_i_l).trans ((xb_i_nk (by decide))))))))))) d_M_send_169 ?_
    refine lv_iload hx hb d_M_send_170 (lv_at hl 0 rfl) ?_
    refine lv_iconst (v := 1) hx hb d_M_send_172 (by decide) ?_
    refine lv_iadd hx hb d_M_send_173 ?_
    refine xb_ti (y := (4 : Int32)) (by decide) ?_
    refine vp_callSl (W.runS (As := [.long (σ.2 18 (2 * e1)), .int (σ.1 20 (2 * e1)), .int (σ.1 7 e1), .int (4 : Int32)]) (rest := [.long x6, .int (131 : Int32), .ref (α 26)]) ⟨hx, hb, hml, hown, hts⟩ (c_M_mask l (σ.2 18 (2 * e1)) (σ.1 20 (2 * e1)) (σ.1 7 e1) (4 : Int32)) (cwS 4 hts (xa_S xw1097 xw1098 xw11 xw1099) rfl rfl rfl (by decide +kernel) ⟨Nat.le_of_ble_eq_true rfl, Nat.le_of_ble_eq_true rfl⟩) preEq rfl rfl hl.1 rfl (lv_room (Nat.le_of_ble_eq_true rfl)) d_M_send_174 ⟨Nat.le_of_ble_eq_true rfl, Nat.le_of_ble_eq_true rfl⟩) (fun r_ e_ => ?_)
    subst e_
    refine lv_lxor hx hb d_M_send_177 ?_
    refine sm_paJ (L := 136) (n := 131) (x := (x6 ^^^ (g_mask (σ.2 18 (2 * e1)) (σ.1 20 (2 * e1)) (σ.1 7 e1) (4 : Int32)))) hx hb hK hP 26 25 rfl rfl hD hS (xb_in (xb_lit (x := (131 : Int32)) 131 rfl) (by omega) (by decide)) (xb_cl (xb_lit (x := (131 : Int32)) 131 rfl) (by omega)) sm_s_26 d_M_send_178 (fun H locs hP hS => ?_)
    refine lv_iinc (v := (4 : Int32)) (k := 0) (lv' := [(13, .int (4 : Int32)), (12, .int (32 : Int32)), (11, .int ((2 : Int32) * (nI e1))), (0, .ref (α 0)), (1, .int (nI e1)), (2, .int x2), (3, .long x3), (5, .long x4), (7, .long x5), (9, .long x6)]) hx hb d_M_send_179 hl rfl (by decide) (by decide) rfl (fun ls hl => ?_)
    refine lv_goto (tgt := 121) hx hb d_M_send_182 (by decide) ?_
    refine lv_iload hx hb d_M_send_121 (lv_at hl 0 rfl) ?_
    refine lv_iconst (v := 4) hx hb d_M_send_123 (by decide) ?_
    refine lv_icmp_ge (tgt := 185) hx hb d_M_send_124 (by decide) (fun _ => ?_) (fun h_ => absurd h_ (by decide))
    refine lv_aload_n hx hb d_M_send_185 rfl (lv_at hl 3 rfl) ?_
    refine sm_g (v := .ref (α 7)) hx hb ht hown hK hP 9 (by decide) (ht _ xw961) (fun _ h_ => h_) rfl d_M_send_186 ?_
    refine lv_iload_n hx hb d_M_send_189 rfl (lv_at hl 4 rfl) ?_
    refine lv_dup2_11 hx hb d_M_send_190 rfl rfl ?_
    refine sm_gaI (L := 2) (n := e1) (v := (σ.1 7 e1)) hx hb hK hP 7 6 rfl rfl (xb_in (xb_lit e1 rfl) (by omega) (by decide)) (xb_cl (xb_lit e1 rfl) (by omega)) ((xb_i_l).trans ((xb_i_l).trans ((xb_i_l).trans ((xb_i_l).trans ((xb_i_l).trans ((xb_i_l).trans ((xb_i_l).trans ((xb_i_l).trans ((xb_i_l).trans ((xb_i_nk (by decide)))))))))))) d_M_send_191 ?_
    refine lv_iconst (v := 1) hx hb d_M_send_192 (by decide) ?_
    refine lv_iadd hx hb d_M_send_193 ?_
    refine sm_paI (L := 2) (n := e1) (x := ((σ.1 7 e1) + (1 : Int32))) hx hb hK hP 7 6 rfl rfl hD hS (xb_in (xb_lit e1 rfl) (by omega) (by decide)) (xb_cl (xb_lit e1 rfl) (by omega)) sm_s_7 d_M_send_194 (fun H locs hP hS => ?_)
    refine lv_iconst (v := 1) hx hb d_M_send_195 (by decide) ?_
    refine lv_iload_n hx hb d_M_send_196 rfl (lv_at hl 4 rfl) ?_
    refine lv_isub hx hb d_M_send_197 ?_
    refine lv_istore (lv' := [(13, .int ((1 : Int32) - (nI e1))), (12, .int (32 : Int32)), (11, .int ((2 : Int32) * (nI e1))), (0, .ref (α 0)), (1, .int (nI e1)), (2, .int x2), (3, .long x3), (5, .long x4), (7, .long x5), (9, .long x6)]) hx hb d_M_send_198 hl (by decide) rfl (fun ls hl => ?_)
    refine lv_aload_n hx hb d_M_send_200 rfl (lv_at hl 3 rfl) ?_
    refine sm_g (v := .ref (α 24)) hx hb ht hown hK hP 26 (by decide) (ht _ xw978) (fun _ h_ => h_) rfl d_M_send_201 ?_
    refine lv_iload hx hb d_M_send_204 (lv_at hl 0 rfl) ?_
    refine sm_gaI (L := 2) (n := (1 - e1)) (v := (σ.1 24 (1 - e1))) hx hb hK hP 24 23 rfl rfl (xb_in (xb_ns (xb_lit (x := (1 : Int32)) 1 rfl) (xb_lit e1 rfl) (by omega)) (by omega) (by decide)) (xb_cl (xb_ns (xb_lit (x := (1 : Int32)) 1 rfl) (xb_lit e1 rfl) (by omega)) (by omega)) (((xb_i_nk (by decide))).trans ((xb_i_l).trans ((xb_i_l).trans ((xb_i_l).trans ((xb_i_l).trans ((xb_i_l).trans ((xb_i_l).trans ((xb_i_l).trans ((xb_i_l).trans ((xb_i_l).trans ((xb_i_nk (by decide))))))))))))) d_M_send_206 ?_
    refine lv_bipush (v := 16) hx hb d_M_send_207 (by decide) ?_
    refine lv_icmp_ge (tgt := 242) hx hb d_M_send_209 (by decide) (fun c3 => ?_) (fun c3 => ?_)
    · skip
      have nc3 := (xb_leN (xb_lit (x := (16 : Int32)) 16 rfl) hz.1 (by omega) (by omega)).mp c3
      exact W.vret hx hb hr (fun t ht_ hW => ⟨⟨(xb_si (xb_sl (xb_sl (xb_sl (xb_sl (xb_sl (xb_sl (xb_sl (xb_sl (xb_sl (xb_si σ 25 32 x2) 27 32 (g_tagOf (σ.2 19 (2 * e1)) (σ.1 21 (2 * e1)) (σ.1 7 e1) x2 x3 x4 x5 x6)) 26 128 x3) 26 129 x4) 26 130 x5) 26 131 x6) 26 128 (x3 ^^^ (g_mask (σ.2 18 (2 * e1)) (σ.1 20 (2 * e1)) (σ.1 7 e1) (1 : Int32)))) 26 129 (x4 ^^^ (g_mask (σ.2 18 (2 * e1)) (σ.1 20 (2 * e1)) (σ.1 7 e1) (2 : Int32)))) 26 130 (x5 ^^^ (g_mask (σ.2 18 (2 * e1)) (σ.1 20 (2 * e1)) (σ.1 7 e1) (3 : Int32)))) 26 131 (x6 ^^^ (g_mask (σ.2 18 (2 * e1)) (σ.1 20 (2 * e1)) (σ.1 7 e1) (4 : Int32)))) 7 e1 ((σ.1 7 e1) + (1 : Int32))), rfl, ((if_neg c1).trans ((if_pos c3))).symm, by rw [sm_B, ht_]; exact hP⟩, hS.F ht_⟩) hS.2.2 d_M_send_242
    · skip
      have nc3 := mt (xb_leN (xb_lit (x := (16 : Int32)) 16 rfl) hz.1 (by omega) (by omega)).mpr c3
      refine lv_aload_n hx hb d_M_send_212 rfl (lv_at hl 3 rfl) ?_
      refine lv_iload hx hb d_M_send_213 (lv_at hl 1 rfl) ?_
      refine lv_bipush (v := 16) hx hb d_M_send_215 (by decide) ?_
      refine lv_iload hx hb d_M_send_217 (lv_at hl 0 rfl) ?_
      refine lv_imul hx hb d_M_send_219 ?_
      refine lv_aload_n hx hb d_M_send_220 rfl (lv_at hl 3 rfl) ?_
      refine sm_g (v := .ref (α 24)) hx hb ht hown hK hP 26 (by decide) (ht _ xw978) (fun _ h_ => h_) rfl d_M_send_221 ?_
      refine lv_iload hx hb d_M_send_224 (lv_at hl 0 rfl) ?_
      refine sm_gaI (L := 2) (n := (1 - e1)) (v := (σ.1 24 (1 - e1))) hx hb hK hP 24 23 rfl rfl (xb_in (xb_ns (xb_lit (x := (1 : Int32)) 1 rfl) (xb_lit e1 rfl) (by omega)) (by omega) (by decide)) (xb_cl (xb_ns (xb_lit (x := (1 : Int32)) 1 rfl) (xb_lit e1 rfl) (by omega)) (by omega)) (((xb_i_nk (by decide))).trans ((xb_i_l).trans ((xb_i_l).trans ((xb_i_l).trans ((xb_i_l).trans ((xb_i_l).trans ((xb_i_l).trans ((xb_i_l).trans ((xb_i_l).trans ((xb_i_l).trans ((xb_i_nk (by decide))))))))))))) d_M_send_226 ?_
      refine lv_iadd hx hb d_M_send_227 ?_
      refine sm_cv (va_runV (As := [.int (32 : Int32), .int (((16 : Int32) * ((1 : Int32) - (nI e1))) + (σ.1 24 (1 - e1)))]) (rest := []) ⟨hx, hb, hml, hown, hts⟩ (c_M_copy l D α κ hα (xb_si (xb_sl (xb_sl (xb_sl (xb_sl (xb_sl (xb_sl (xb_sl (xb_sl (xb_sl (xb_si σ 25 32 x2) 27 32 (g_tagOf (σ.2 19 (2 * e1)) (σ.1 21 (2 * e1)) (σ.1 7 e1) x2 x3 x4 x5 x6)) 26 128 x3) 26 129 x4) 26 130 x5) 26 131 x6) 26 128 (x3 ^^^ (g_mask (σ.2 18 (2 * e1)) (σ.1 20 (2 * e1)) (σ.1 7 e1) (1 : Int32)))) 26 129 (x4 ^^^ (g_mask (σ.2 18 (2 * e1)) (σ.1 20 (2 * e1)) (σ.1 7 e1) (2 : Int32)))) 26 130 (x5 ^^^ (g_mask (σ.2 18 (2 * e1)) (σ.1 20 (2 * e1)) (σ.1 7 e1) (3 : Int32)))) 26 131 (x6 ^^^ (g_mask (σ.2 18 (2 * e1)) (σ.1 20 (2 * e1)) (σ.1 7 e1) (4 : Int32)))) 7 e1 ((σ.1 7 e1) + (1 : Int32))) (32 : Int32) 32 (xb_lit (x := (32 : Int32)) 32 rfl) (by omega) (((16 : Int32) * ((1 : Int32) - (nI e1))) + (σ.1 24 (1 - e1))) ((16 * (1 - e1)) + (σ.1 24 (1 - e1)).toNatClampNeg) (xb_na (xb_nm (xb_lit (x := (16 : Int32)) 16 rfl) (xb_ns (xb_lit (x := (1 : Int32)) 1 rfl) (xb_lit e1 rfl) (by omega))) hz.1) (by omega)) (cwV 2 hts (xa_V xw1100 xw1102 xs7 xw11 xw1103) rfl rfl rfl (by decide +kernel) ⟨Nat.le_of_ble_eq_true rfl, Nat.le_of_ble_eq_true rfl⟩) ⟨sm_blind, va_recv (q0 := 0) (ci := 9) hK hP rfl rfl, sm_pre hP hK hN _⟩ rfl rfl hl.1 rfl (lv_room (Nat.le_of_ble_eq_true rfl)) d_M_send_228 ⟨Nat.le_of_ble_eq_true rfl, Nat.le_of_ble_eq_true rfl⟩) hS (fun _ h_ => h_) (fun H locs hP hS => ?_)
      obtain ⟨τ2, hτ2⟩ : ∃ t_, t_ = (q_copy 32 ((16 * (1 - e1)) + (σ.1 24 (1 - e1)).toNatClampNeg) (xb_si (xb_sl (xb_sl (xb_sl (xb_sl (xb_sl (xb_sl (xb_sl (xb_sl (xb_sl (xb_si σ 25 32 x2) 27 32 (g_tagOf (σ.2 19 (2 * e1)) (σ.1 21 (2 * e1)) (σ.1 7 e1) x2 x3 x4 x5 x6)) 26 128 x3) 26 129 x4) 26 130 x5) 26 131 x6) 26 128 (x3 ^^^ (g_mask (σ.2 18 (2 * e1)) (σ.1 20 (2 * e1)) (σ.1 7 e1) (1 : Int32)))) 26 129 (x4 ^^^ (g_mask (σ.2 18 (2 * e1)) (σ.1 20 (2 * e1)) (σ.1 7 e1) (2 : Int32)))) 26 130 (x5 ^^^ (g_mask (σ.2 18 (2 * e1)) (σ.1 20 (2 * e1)) (σ.1 7 e1) (3 : Int32)))) 26 131 (x6 ^^^ (g_mask (σ.2 18 (2 * e1)) (σ.1 20 (2 * e1)) (σ.1 7 e1) (4 : Int32)))) 7 e1 ((σ.1 7 e1) + (1 : Int32)))) := ⟨_, rfl⟩
      rw [← hτ2] at hP
      have okτ2 : sm_ok τ2 := by rw [hτ2]; exact (ok_q_copy 32 ((16 * (1 - e1)) + (σ.1 24 (1 - e1)).toNatClampNeg) (by omega) (by omega) (mk_si (mk_sl (mk_sl (mk_sl (mk_sl (mk_sl (mk_sl (mk_sl (mk_sl (mk_sl (mk_si ok (by decide))))))))))) (by decide)))
      refine lv_aload_n hx hb d_M_send_231 rfl (lv_at hl 3 rfl) ?_
      refine sm_g (v := .ref (α 24)) hx hb ht hown hK hP 26 (by decide) (ht _ xw978) (fun _ h_ => h_) rfl d_M_send_232 ?_
      refine lv_iload hx hb d_M_send_235 (lv_at hl 0 rfl) ?_
      refine lv_dup2_11 hx hb d_M_send_237 rfl rfl ?_
      refine sm_gaI (L := 2) (n := (1 - e1)) (v := (τ2.1 24 (1 - e1))) hx hb hK hP 24 23 rfl rfl (xb_in (xb_ns (xb_lit (x := (1 : Int32)) 1 rfl) (xb_lit e1 rfl) (by omega)) (by omega) (by decide)) (xb_cl (xb_ns (xb_lit (x := (1 : Int32)) 1 rfl) (xb_lit e1 rfl) (by omega)) (by omega)) rfl d_M_send_238 ?_
      refine lv_iconst (v := 1) hx hb d_M_send_239 (by decide) ?_
      refine lv_iadd hx hb d_M_send_240 ?_
      refine sm_paI (L := 2) (n := (1 - e1)) (x := ((τ2.1 24 (1 - e1)) + (1 : Int32))) hx hb hK hP 24 23 rfl rfl hD hS (xb_in (xb_ns (xb_lit (x := (1 : Int32)) 1 rfl) (xb_lit e1 rfl) (by omega)) (by omega) (by decide)) (xb_cl (xb_ns (xb_lit (x := (1 : Int32)) 1 rfl) (xb_lit e1 rfl) (by omega)) (by omega)) sm_s_24 d_M_send_241 (fun H locs hP hS => ?_)
      exact W.vret hx hb hr (fun t ht_ hW => ⟨⟨(xb_si τ2 24 (1 - e1) ((τ2.1 24 (1 - e1)) + (1 : Int32))), rfl, (by subst hτ2; exact ((if_neg c1).trans ((if_neg c3))).symm), by rw [sm_B, ht_]; exact hP⟩, hS.F ht_⟩) hS.2.2 d_M_send_242
theorem ok_q_send {σ : xb_St} (e1 : Nat) (x2 : Int32) (x3 : Int64) (x4 : Int64) (x5 : Int64) (x6 : Int64) (b_e1 : e1 < 2) (ok : sm_ok σ) : sm_ok (q_send e1 x2 x3 x4 x5 x6 σ) := by
  obtain ⟨n0, hn0, en0⟩ := ok.1 (1 - e1) (by omega)
  have hz := xb_nb en0 (by omega)
  have hz0 : (σ.1 24 (1 - e1)).toNatClampNeg ≤ 16 := by rw [hz.2]; exact hn0
  unfold q_send
  by_cases c1 : (σ.1 17 (2 * e1)) = 0
  · rw [if_pos c1]
    by_cases c2 : (16 : Int32) ≤ (σ.1 24 (1 - e1))
    · rw [if_pos c2]
      exact (mk_si (mk_sl (mk_sl (mk_sl (mk_sl (mk_sl (mk_si ok (by decide))))))) (by decide))
    · rw [if_neg c2]
      exact (mk_inc (ok_q_copy 32 ((16 * (1 - e1)) + (σ.1 24 (1 - e1)).toNatClampNeg) (by omega) (by omega) (mk_si (mk_sl (mk_sl (mk_sl (mk_sl (mk_sl (mk_si ok (by decide))))))) (by decide))) (by omega) (by first | exact c2 | exact c3 | exact c4))
  · rw [if_neg c1]
    by_cases c3 : (16 : Int32) ≤ (σ.1 24 (1 - e1))
    · rw [if_pos c3]
      exact (mk_si (mk_sl (mk_sl (mk_sl (mk_sl (mk_sl (mk_sl (mk_sl (mk_sl (mk_sl (mk_si ok (by decide))))))))))) (by decide))
    · rw [if_neg c3]
      exact (mk_inc (ok_q_copy 32 ((16 * (1 - e1)) + (σ.1 24 (1 - e1)).toNatClampNeg) (by omega) (by omega) (mk_si (mk_sl (mk_sl (mk_sl (mk_sl (mk_sl (mk_sl (mk_sl (mk_sl (mk_sl (mk_si ok (by decide))))))))))) (by decide))) (by omega) (by first | exact c2 | exact c3 | exact c4))
abbrev b_M_fail : ByteArray := prog_12_method_16_code
def y_M_fail : MethodName := ⟨"SecurePairModel", "fail", "(IJ)V"⟩
abbrev w_M_fail : List Cond := .code y_M_fail b_M_fail 4 none :: xa
theorem d_M_fail_0 : decode b_M_fail 0 = .ok (.aload_n 0, 1) := by decide +kernel
theorem d_M_fail_1 : decode b_M_fail 1 = .ok (.iload_n 1, 1) := by decide +kernel
theorem d_M_fail_2 : decode b_M_fail 2 = .ok (.iconst 1, 1) := by decide +kernel
theorem d_M_fail_3 : decode b_M_fail 3 = .ok (.lload_n 2, 1) := by decide +kernel
theorem d_M_fail_4 : decode b_M_fail 4 = .ok (.lconst 0, 1) := by decide +kernel
theorem d_M_fail_5 : decode b_M_fail 5 = .ok (.lconst 0, 1) := by decide +kernel
theorem d_M_fail_6 : decode b_M_fail 6 = .ok (.lconst 0, 1) := by decide +kernel
theorem d_M_fail_7 : decode b_M_fail 7 = .ok (.invokevirtual 165, 3) := by decide +kernel
theorem d_M_fail_10 : decode b_M_fail 10 = .ok (.aload_n 0, 1) := by decide +kernel
theorem d_M_fail_11 : decode b_M_fail 11 = .ok (.getfield 25, 3) := by decide +kernel
theorem d_M_fail_14 : decode b_M_fail 14 = .ok (.iload_n 1, 1) := by decide +kernel
theorem d_M_fail_15 : decode b_M_fail 15 = .ok (.iconst 5, 1) := by decide +kernel
theorem d_M_fail_16 : decode b_M_fail 16 = .ok (.iastore, 1) := by decide +kernel
theorem d_M_fail_17 : decode b_M_fail 17 = .ok (.aload_n 0, 1) := by decide +kernel
theorem d_M_fail_18 : decode b_M_fail 18 = .ok (.getfield 28, 3) := by decide +kernel
theorem d_M_fail_21 : decode b_M_fail 21 = .ok (.iload_n 1, 1) := by decide +kernel
theorem d_M_fail_22 : decode b_M_fail 22 = .ok (.lload_n 2, 1) := by decide +kernel
theorem d_M_fail_23 : decode b_M_fail 23 = .ok (.lastore, 1) := by decide +kernel
theorem d_M_fail_24 : decode b_M_fail 24 = .ok (.return_, 1) := by decide +kernel
theorem xw958 : (Cond.fieldLink "SecurePairModel" (25 : Nat) "SecurePairModel" "phase" "[I") ∈ xa := xa_t 958 (by decide +kernel) (by decide +kernel)
theorem xw959 : (Cond.fieldLink "SecurePairModel" (28 : Nat) "SecurePairModel" "reason" "[J") ∈ xa := xa_t 959 (by decide +kernel) (by decide +kernel)
theorem xw1084 : (Cond.methodLink "SecurePairModel" (165 : Nat) ({ cls := "SecurePairModel", name := "send", desc := "(IIJJJJ)V" } : MethodName)) ∈ xa := xa_t 1084 (by decide +kernel) (by decide +kernel)
theorem xw1086 : (Cond.instanceMethod ({ cls := "SecurePairModel", name := "send", desc := "(IIJJJJ)V" } : MethodName)) ∈ xa := xa_t 1086 (by decide +kernel) (by decide +kernel)
theorem xw1087 : (Cond.code ({ cls := "SecurePairModel", name := "send", desc := "(IIJJJJ)V" } : MethodName) prog_12_method_15_code (14 : Nat) (Option.none : Option ClassFile.FieldType)) ∈ xa := xa_t 1087 (by decide +kernel) (by decide +kernel)
theorem xs6 : (Cond.selects "SecurePairModel" ⟨"SecurePairModel", "send", "(IIJJJJ)V"⟩ ⟨"SecurePairModel", "send", "(IIJJJJ)V"⟩) ∈ xa := xa_s 6 (by decide +kernel) (by decide +kernel)
def q_fail (e1 : Nat) (x2 : Int64) (σ : xb_St) : xb_St := (xb_sl (xb_si (q_send e1 (1 : Int32) x2 (0 : Int64) (0 : Int64) (0 : Int64) σ) 4 e1 (5 : Int32)) 5 e1 x2)
set_option maxHeartbeats 4000000 in
set_option maxRecDepth 100000 in
theorem c_M_fail (l : Launch) (D : va_G) (α : Nat → Nat) (κ : Nat → ClassId) (hα : xb_inj α 35) (σ : xb_St) (x_e1 : Int32) (e1 : Nat) (e_e1 : x_e1 = nI e1) (b_e1 : e1 < 2) (x2 : Int64) (ok : sm_ok σ) : Met l y_M_fail w_M_fail ({ frames := 3, cells := 0, slots := 0, locals := 92 }) (va_Pc ([.ref (α 0), .int x_e1, .long x2]) (sm_Pre D α κ σ)) (va_Qv (fun u : xb_St => u = q_fail e1 x2 σ) (sm_B D α κ) (xb_A α 35)) 0 0 (xb_A α 35) := by
  subst e_e1
  refine Met.ofW (cc := b_M_fail) (maxL := 4) (ret := none) (by decide) rfl ?_
  intro p e s m args below meth c s₁ B_ hml hv
  obtain ⟨rfl, hP, hK, hN⟩ := hv
  have hx := B_.exec
  have hb := B_.bytes
  have hr := B_.returns
  have hts := atoms_spec (ws := w_M_fail) B_.pre
  have ht : ∀ w ∈ xa, w.before _ s = true := fun w h => hts w (List.mem_cons_of_mem _ h)
  have hown : s.vm.findClass "SecurePairModel" = some m.cls := findClass_of_methodNamed B_.named
  have hlocks := B_.notSynchronized
  have hD := sm_D hα κ
  have hS : va_S (xb_A α 35) s.heap s.heap [] := va_S.rf
  have hl := lv_entry ([.ref (α 0), .int (nI e1), .long x2]) (n := 4) (Nat.le_of_ble_eq_true rfl)
  rw [lg_entry_eq]
  generalize (lg_sl ([.ref (α 0), .int (nI e1), .long x2]) ++ List.replicate (4 - (lg_sl ([.ref (α 0), .int (nI e1), .long x2])).length) Slot.unset).toArray = ls at hl ⊢
  have hl : lv_has ls 4 [(0, .ref (α 0)), (1, .int (nI e1)), (2, .long x2)] := hl
  refine lv_aload_n hx hb d_M_fail_0 rfl (lv_at hl 0 rfl) ?_
  refine lv_iload_n hx hb d_M_fail_1 rfl (lv_at hl 1 rfl) ?_
  refine lv_iconst (v := 1) hx hb d_M_fail_2 (by decide) ?_
  refine lv_lload_n hx hb d_M_fail_3 rfl (lv_at hl 2 rfl) ?_
  refine lv_lconst (v := 0) hx hb d_M_fail_4 (by decide) ?_
  refine lv_lconst (v := 0) hx hb d_M_fail_5 (by decide) ?_
  refine lv_lconst (v := 0) hx hb d_M_fail_6 (by decide) ?_
  refine sm_cv (va_runV (As := [.int (nI e1), .int (1 : Int32), .long x2, .long (0 : Int64), .long (0 : Int64), .long (0 : Int64)]) (rest := []) ⟨hx, hb, hml, hown, hts⟩ (c_M_send l D α κ hα σ (nI e1) e1 (xb_lit e1 rfl) (by omega) (1 : Int32) x2 (0 : Int64) (0 : Int64) (0 : Int64) ok) (cwV 6 hts (xa_V xw1084 xw1086 xs6 xw11 xw1087) rfl rfl rfl (by decide +kernel) ⟨Nat.le_of_ble_eq_true rfl, Nat.le_of_ble_eq_true rfl⟩) ⟨sm_blind, va_recv (q0 := 0) (ci := 9) hK hP rfl rfl, sm_pre hP hK hN _⟩ rfl rfl hl.1 rfl (lv_room (Nat.le_of_ble_eq_true rfl)) d_M_fail_7 ⟨Nat.le_of_ble_eq_true rfl, Nat.le_of_ble_eq_true rfl⟩) hS (fun _ h_ => h_) (fun H locs hP hS => ?_)
  obtain ⟨τ1, hτ1⟩ : ∃ t_, t_ = (q_send e1 (1 : Int32) x2 (0 : Int64) (0 : Int64) (0 : Int64) σ) := ⟨_, rfl⟩
  rw [← hτ1] at hP
  have okτ1 : sm_ok τ1 := by rw [hτ1]; exact (ok_q_send e1 (1 : Int32) x2 (0 : Int64) (0 : Int64) (0 : Int64) (by omega) ok)
  refine lv_aload_n hx hb d_M_fail_10 rfl (lv_at hl 0 rfl) ?_
  refine sm_g (v := .ref (α 4)) hx hb ht hown hK hP 6 (by decide) (ht _ xw958) (fun _ h_ => h_) rfl d_M_fail_11 ?_
  refine lv_iload_n hx hb d_M_fail_14 rfl (lv_at hl 1 rfl) ?_
  refine lv_iconst (v := 5) hx hb d_M_fail_15 (by decide) ?_
  refine sm_paI (L := 2) (n := e1) (x := (5 : Int32)) hx hb hK hP 4 3 rfl rfl hD hS (xb_in (xb_lit e1 rfl) (by omega) (by decide)) (xb_cl (xb_lit e1 rfl) (by omega)) sm_s_4 d_M_fail_16 (fun H locs hP hS => ?_)
  refine lv_aload_n hx hb d_M_fail_17 rfl (lv_at hl 0 rfl) ?_
  refine sm_g (v := .ref (α 5)) hx hb ht hown hK hP 7 (by decide) (ht _ xw959) (fun _ h_ => h_) rfl d_M_fail_18 ?_
  refine lv_iload_n hx hb d_M_fail_21 rfl (lv_at hl 1 rfl) ?_
  refine lv_lload_n hx hb d_M_fail_22 rfl (lv_at hl 2 rfl) ?_
  refine sm_paJ (L := 2) (n := e1) (x := x2) hx hb hK hP 5 4 rfl rfl hD hS (xb_in (xb_lit e1 rfl) (by omega) (by decide)) (xb_cl (xb_lit e1 rfl) (by omega)) sm_s_5 d_M_fail_23 (fun H locs hP hS => ?_)
  exact W.vret hx hb hr (fun t ht_ hW => ⟨⟨(xb_sl (xb_si τ1 4 e1 (5 : Int32)) 5 e1 x2), rfl, (by subst hτ1; exact rfl), by rw [sm_B, ht_]; exact hP⟩, hS.F ht_⟩) hS.2.2 d_M_fail_24
theorem ok_q_fail {σ : xb_St} (e1 : Nat) (x2 : Int64) (b_e1 : e1 < 2) (ok : sm_ok σ) : sm_ok (q_fail e1 x2 σ) := by
  unfold q_fail
  exact (mk_sl (mk_si (ok_q_send e1 (1 : Int32) x2 (0 : Int64) (0 : Int64) (0 : Int64) (by omega) ok) (by decide)))
abbrev b_M_start : ByteArray := prog_12_method_18_code
def y_M_start : MethodName := ⟨"SecurePairModel", "start", "(I)V"⟩
abbrev w_M_start : List Cond := .code y_M_start b_M_start 3 none :: xa
theorem d_M_start_0 : decode b_M_start 0 = .ok (.bipush 6, 2) := by decide +kernel
theorem d_M_start_2 : decode b_M_start 2 = .ok (.iload_n 1, 1) := by decide +kernel
theorem d_M_start_3 : decode b_M_start 3 = .ok (.imul, 1) := by decide +kernel
theorem d_M_start_4 : decode b_M_start 4 = .ok (.iconst 3, 1) := by decide +kernel
theorem d_M_start_5 : decode b_M_start 5 = .ok (.iload_n 1, 1) := by decide +kernel
theorem d_M_start_6 : decode b_M_start 6 = .ok (.imul, 1) := by decide +kernel
theorem d_M_start_7 : decode b_M_start 7 = .ok (.iadd, 1) := by decide +kernel
theorem d_M_start_8 : decode b_M_start 8 = .ok (.istore_n 2, 1) := by decide +kernel
theorem d_M_start_9 : decode b_M_start 9 = .ok (.aload_n 0, 1) := by decide +kernel
theorem d_M_start_10 : decode b_M_start 10 = .ok (.getfield 51, 3) := by decide +kernel
theorem d_M_start_13 : decode b_M_start 13 = .ok (.iload_n 2, 1) := by decide +kernel
theorem d_M_start_14 : decode b_M_start 14 = .ok (.aload_n 0, 1) := by decide +kernel
theorem d_M_start_15 : decode b_M_start 15 = .ok (.getfield 32, 3) := by decide +kernel
theorem d_M_start_18 : decode b_M_start 18 = .ok (.iload_n 1, 1) := by decide +kernel
theorem d_M_start_19 : decode b_M_start 19 = .ok (.iaload, 1) := by decide +kernel
theorem d_M_start_20 : decode b_M_start 20 = .ok (.i2l, 1) := by decide +kernel
theorem d_M_start_21 : decode b_M_start 21 = .ok (.lastore, 1) := by decide +kernel
theorem d_M_start_22 : decode b_M_start 22 = .ok (.aload_n 0, 1) := by decide +kernel
theorem d_M_start_23 : decode b_M_start 23 = .ok (.getfield 51, 3) := by decide +kernel
theorem d_M_start_26 : decode b_M_start 26 = .ok (.iload_n 2, 1) := by decide +kernel
theorem d_M_start_27 : decode b_M_start 27 = .ok (.iconst 1, 1) := by decide +kernel
theorem d_M_start_28 : decode b_M_start 28 = .ok (.iadd, 1) := by decide +kernel
theorem d_M_start_29 : decode b_M_start 29 = .ok (.aload_n 0, 1) := by decide +kernel
theorem d_M_start_30 : decode b_M_start 30 = .ok (.getfield 7, 3) := by decide +kernel
theorem d_M_start_33 : decode b_M_start 33 = .ok (.iload_n 1, 1) := by decide +kernel
theorem d_M_start_34 : decode b_M_start 34 = .ok (.iaload, 1) := by decide +kernel
theorem d_M_start_35 : decode b_M_start 35 = .ok (.i2l, 1) := by decide +kernel
theorem d_M_start_36 : decode b_M_start 36 = .ok (.lastore, 1) := by decide +kernel
theorem d_M_start_37 : decode b_M_start 37 = .ok (.aload_n 0, 1) := by decide +kernel
theorem d_M_start_38 : decode b_M_start 38 = .ok (.getfield 51, 3) := by decide +kernel
theorem d_M_start_41 : decode b_M_start 41 = .ok (.iload_n 2, 1) := by decide +kernel
theorem d_M_start_42 : decode b_M_start 42 = .ok (.iconst 2, 1) := by decide +kernel
theorem d_M_start_43 : decode b_M_start 43 = .ok (.iadd, 1) := by decide +kernel
theorem d_M_start_44 : decode b_M_start 44 = .ok (.aload_n 0, 1) := by decide +kernel
theorem d_M_start_45 : decode b_M_start 45 = .ok (.getfield 13, 3) := by decide +kernel
theorem d_M_start_48 : decode b_M_start 48 = .ok (.iload_n 1, 1) := by decide +kernel
theorem d_M_start_49 : decode b_M_start 49 = .ok (.iaload, 1) := by decide +kernel
theorem d_M_start_50 : decode b_M_start 50 = .ok (.i2l, 1) := by decide +kernel
theorem d_M_start_51 : decode b_M_start 51 = .ok (.lastore, 1) := by decide +kernel
theorem d_M_start_52 : decode b_M_start 52 = .ok (.aload_n 0, 1) := by decide +kernel
theorem d_M_start_53 : decode b_M_start 53 = .ok (.getfield 54, 3) := by decide +kernel
theorem d_M_start_56 : decode b_M_start 56 = .ok (.iload_n 1, 1) := by decide +kernel
theorem d_M_start_57 : decode b_M_start 57 = .ok (.aload_n 0, 1) := by decide +kernel
theorem d_M_start_58 : decode b_M_start 58 = .ok (.getfield 16, 3) := by decide +kernel
theorem d_M_start_61 : decode b_M_start 61 = .ok (.iload_n 1, 1) := by decide +kernel
theorem d_M_start_62 : decode b_M_start 62 = .ok (.iaload, 1) := by decide +kernel
theorem d_M_start_63 : decode b_M_start 63 = .ok (.i2l, 1) := by decide +kernel
theorem d_M_start_64 : decode b_M_start 64 = .ok (.lastore, 1) := by decide +kernel
theorem d_M_start_65 : decode b_M_start 65 = .ok (.aload_n 0, 1) := by decide +kernel
theorem d_M_start_66 : decode b_M_start 66 = .ok (.getfield 32, 3) := by decide +kernel
theorem d_M_start_69 : decode b_M_start 69 = .ok (.iload_n 1, 1) := by decide +kernel
theorem d_M_start_70 : decode b_M_start 70 = .ok (.dup2, 1) := by decide +kernel
theorem d_M_start_71 : decode b_M_start 71 = .ok (.iaload, 1) := by decide +kernel
theorem d_M_start_72 : decode b_M_start 72 = .ok (.iconst 1, 1) := by decide +kernel
theorem d_M_start_73 : decode b_M_start 73 = .ok (.iadd, 1) := by decide +kernel
theorem d_M_start_74 : decode b_M_start 74 = .ok (.iastore, 1) := by decide +kernel
theorem d_M_start_75 : decode b_M_start 75 = .ok (.aload_n 0, 1) := by decide +kernel
theorem d_M_start_76 : decode b_M_start 76 = .ok (.iload_n 1, 1) := by decide +kernel
theorem d_M_start_77 : decode b_M_start 77 = .ok (.bipush 20, 2) := by decide +kernel
theorem d_M_start_79 : decode b_M_start 79 = .ok (.aload_n 0, 1) := by decide +kernel
theorem d_M_start_80 : decode b_M_start 80 = .ok (.getfield 51, 3) := by decide +kernel
theorem d_M_start_83 : decode b_M_start 83 = .ok (.iload_n 2, 1) := by decide +kernel
theorem d_M_start_84 : decode b_M_start 84 = .ok (.laload, 1) := by decide +kernel
theorem d_M_start_85 : decode b_M_start 85 = .ok (.aload_n 0, 1) := by decide +kernel
theorem d_M_start_86 : decode b_M_start 86 = .ok (.getfield 51, 3) := by decide +kernel
theorem d_M_start_89 : decode b_M_start 89 = .ok (.iload_n 2, 1) := by decide +kernel
theorem d_M_start_90 : decode b_M_start 90 = .ok (.iconst 1, 1) := by decide +kernel
theorem d_M_start_91 : decode b_M_start 91 = .ok (.iadd, 1) := by decide +kernel
theorem d_M_start_92 : decode b_M_start 92 = .ok (.laload, 1) := by decide +kernel
theorem d_M_start_93 : decode b_M_start 93 = .ok (.aload_n 0, 1) := by decide +kernel
theorem d_M_start_94 : decode b_M_start 94 = .ok (.getfield 51, 3) := by decide +kernel
theorem d_M_start_97 : decode b_M_start 97 = .ok (.iload_n 2, 1) := by decide +kernel
theorem d_M_start_98 : decode b_M_start 98 = .ok (.iconst 2, 1) := by decide +kernel
theorem d_M_start_99 : decode b_M_start 99 = .ok (.iadd, 1) := by decide +kernel
theorem d_M_start_100 : decode b_M_start 100 = .ok (.laload, 1) := by decide +kernel
theorem d_M_start_101 : decode b_M_start 101 = .ok (.lconst 0, 1) := by decide +kernel
theorem d_M_start_102 : decode b_M_start 102 = .ok (.invokevirtual 165, 3) := by decide +kernel
theorem d_M_start_105 : decode b_M_start 105 = .ok (.aload_n 0, 1) := by decide +kernel
theorem d_M_start_106 : decode b_M_start 106 = .ok (.getfield 25, 3) := by decide +kernel
theorem d_M_start_109 : decode b_M_start 109 = .ok (.iload_n 1, 1) := by decide +kernel
theorem d_M_start_110 : decode b_M_start 110 = .ok (.iconst 1, 1) := by decide +kernel
theorem d_M_start_111 : decode b_M_start 111 = .ok (.iastore, 1) := by decide +kernel
theorem d_M_start_112 : decode b_M_start 112 = .ok (.return_, 1) := by decide +kernel
theorem xw953 : (Cond.fieldLink "SecurePairModel" (7 : Nat) "SecurePairModel" "ciphers" "[I") ∈ xa := xa_t 953 (by decide +kernel) (by decide +kernel)
theorem xw954 : (Cond.fieldLink "SecurePairModel" (13 : Nat) "SecurePairModel" "tags" "[I") ∈ xa := xa_t 954 (by decide +kernel) (by decide +kernel)
theorem xw955 : (Cond.fieldLink "SecurePairModel" (16 : Nat) "SecurePairModel" "secrets" "[I") ∈ xa := xa_t 955 (by decide +kernel) (by decide +kernel)
theorem xw960 : (Cond.fieldLink "SecurePairModel" (32 : Nat) "SecurePairModel" "inits" "[I") ∈ xa := xa_t 960 (by decide +kernel) (by decide +kernel)
theorem xw967 : (Cond.fieldLink "SecurePairModel" (54 : Nat) "SecurePairModel" "inUse" "[J") ∈ xa := xa_t 967 (by decide +kernel) (by decide +kernel)
def q_start (e1 : Nat) (σ : xb_St) : xb_St := (xb_si (q_send e1 (20 : Int32) ((xb_sl (xb_sl (xb_sl σ 12 ((6 * e1) + (3 * e1)) ((σ.1 6 e1).toInt64)) 12 (((6 * e1) + (3 * e1)) + 1) ((σ.1 1 e1).toInt64)) 12 (((6 * e1) + (3 * e1)) + 2) ((σ.1 2 e1).toInt64)).2 12 ((6 * e1) + (3 * e1))) ((xb_sl (xb_sl (xb_sl σ 12 ((6 * e1) + (3 * e1)) ((σ.1 6 e1).toInt64)) 12 (((6 * e1) + (3 * e1)) + 1) ((σ.1 1 e1).toInt64)) 12 (((6 * e1) + (3 * e1)) + 2) ((σ.1 2 e1).toInt64)).2 12 (((6 * e1) + (3 * e1)) + 1)) ((σ.1 2 e1).toInt64) (0 : Int64) (xb_si (xb_sl (xb_sl (xb_sl (xb_sl σ 12 ((6 * e1) + (3 * e1)) ((σ.1 6 e1).toInt64)) 12 (((6 * e1) + (3 * e1)) + 1) ((σ.1 1 e1).toInt64)) 12 (((6 * e1) + (3 * e1)) + 2) ((σ.1 2 e1).toInt64)) 13 e1 ((σ.1 3 e1).toInt64)) 6 e1 ((σ.1 6 e1) + (1 : Int32)))) 4 e1 (1 : Int32))
set_option maxHeartbeats 4000000 in
set_option maxRecDepth 100000 in
theorem c_M_start (l : Launch) (D : va_G) (α : Nat → Nat) (κ : Nat → ClassId) (hα : xb_inj α 35) (σ : xb_St) (x_e1 : Int32) (e1 : Nat) (e_e1 : x_e1 = nI e1) (b_e1 : e1 < 2) (ok : sm_ok σ) : Met l y_M_start w_M_start ({ frames := 3, cells := 0, slots := 0, locals := 92 }) (va_Pc ([.ref (α 0), .int x_e1]) (sm_Pre D α κ σ)) (va_Qv (fun u : xb_St => u = q_start e1 σ) (sm_B D α κ) (xb_A α 35)) 0 0 (xb_A α 35) := by
  subst e_e1
  refine Met.ofW (cc := b_M_start) (maxL := 3) (ret := none) (by decide) rfl ?_
  intro p e s m args below meth c s₁ B_ hml hv
  obtain ⟨rfl, hP, hK, hN⟩ := hv
  have hx := B_.exec
  have hb := B_.bytes
  have hr := B_.returns
  have hts := atoms_spec (ws := w_M_start) B_.pre
  have ht : ∀ w ∈ xa, w.before _ s = true := fun w h => hts w (List.mem_cons_of_mem _ h)
  have hown : s.vm.findClass "SecurePairModel" = some m.cls := findClass_of_methodNamed B_.named
  have hlocks := B_.notSynchronized
  have hD := sm_D hα κ
  have hS : va_S (xb_A α 35) s.heap s.heap [] := va_S.rf
  have hl := lv_entry ([.ref (α 0), .int (nI e1)]) (n := 3) (Nat.le_of_ble_eq_true rfl)
  rw [lg_entry_eq]
  generalize (lg_sl ([.ref (α 0), .int (nI e1)]) ++ List.replicate (3 - (lg_sl ([.ref (α 0), .int (nI e1)])).length) Slot.unset).toArray = ls at hl ⊢
  have hl : lv_has ls 3 [(0, .ref (α 0)), (1, .int (nI e1))] := hl
  refine lv_bipush (v := 6) hx hb d_M_start_0 (by decide) ?_
  refine lv_iload_n hx hb d_M_start_2 rfl (lv_at hl 1 rfl) ?_
  refine lv_imul hx hb d_M_start_3 ?_
  refine lv_iconst (v := 3) hx hb d_M_start_4 (by decide) ?_
  refine lv_iload_n hx hb d_M_start_5 rfl (lv_at hl 1 rfl) ?_
  refine lv_imul hx hb d_M_start_6 ?_
  refine lv_iadd hx hb d_M_start_7 ?_
  refine lv_istore_n (lv' := [(2, .int (((6 : Int32) * (nI e1)) + ((3 : Int32) * (nI e1)))), (0, .ref (α 0)), (1, .int (nI e1))]) hx hb d_M_start_8 rfl hl (by decide) rfl (fun ls hl => ?_)
  refine lv_aload_n hx hb d_M_start_9 rfl (lv_at hl 1 rfl) ?_
  refine sm_g (v := .ref (α 12)) hx hb ht hown hK hP 14 (by decide) (ht _ xw966) (fun _ h_ => h_) rfl d_M_start_10 ?_
  refine lv_iload_n hx hb d_M_start_13 rfl (lv_at hl 0 rfl) ?_
  refine lv_aload_n hx hb d_M_start_14 rfl (lv_at hl 1 rfl) ?_
  refine sm_g (v := .ref (α 6)) hx hb ht hown hK hP 8 (by decide) (ht _ xw960) (fun _ h_ => h_) rfl d_M_start_15 ?_
  refine lv_iload_n hx hb d_M_start_18 rfl (lv_at hl 2 rfl) ?_
  refine sm_gaI (L := 2) (n := e1) (v := (σ.1 6 e1)) hx hb hK hP 6 5 rfl rfl (xb_in (xb_lit e1 rfl) (by omega) (by decide)) (xb_cl (xb_lit e1 rfl) (by omega)) rfl d_M_start_19 ?_
  refine lv_i2l (v := (σ.1 6 e1).toInt64) hx hb d_M_start_20 (by rfl) ?_
  refine sm_paJ (L := 12) (n := ((6 * e1) + (3 * e1))) (x := (σ.1 6 e1).toInt64) hx hb hK hP 12 11 rfl rfl hD hS (xb_in (xb_na (xb_nm (xb_lit (x := (6 : Int32)) 6 rfl) (xb_lit e1 rfl)) (xb_nm (xb_lit (x := (3 : Int32)) 3 rfl) (xb_lit e1 rfl))) (by omega) (by decide)) (xb_cl (xb_na (xb_nm (xb_lit (x := (6 : Int32)) 6 rfl) (xb_lit e1 rfl)) (xb_nm (xb_lit (x := (3 : Int32)) 3 rfl) (xb_lit e1 rfl))) (by omega)) sm_s_12 d_M_start_21 (fun H locs hP hS => ?_)
  refine lv_aload_n hx hb d_M_start_22 rfl (lv_at hl 1 rfl) ?_
  refine sm_g (v := .ref (α 12)) hx hb ht hown hK hP 14 (by decide) (ht _ xw966) (fun _ h_ => h_) rfl d_M_start_23 ?_
  refine lv_iload_n hx hb d_M_start_26 rfl (lv_at hl 0 rfl) ?_
  refine lv_iconst (v := 1) hx hb d_M_start_27 (by decide) ?_
  refine lv_iadd hx hb d_M_start_28 ?_
  refine lv_aload_n hx hb d_M_start_29 rfl (lv_at hl 1 rfl) ?_
  refine sm_g (v := .ref (α 1)) hx hb ht hown hK hP 1 (by decide) (ht _ xw953) (fun _ h_ => h_) rfl d_M_start_30 ?_
  refine lv_iload_n hx hb d_M_start_33 rfl (lv_at hl 2 rfl) ?_
  refine sm_gaI (L := 2) (n := e1) (v := (σ.1 1 e1)) hx hb hK hP 1 0 rfl rfl (xb_in (xb_lit e1 rfl) (by omega) (by decide)) (xb_cl (xb_lit e1 rfl) (by omega)) xb_i_l d_M_start_34 ?_
  refine lv_i2l (v := (σ.1 1 e1).toInt64) hx hb d_M_start_35 (by rfl) ?_
  refine sm_paJ (L := 12) (n := (((6 * e1) + (3 * e1)) + 1)) (x := (σ.1 1 e1).toInt64) hx hb hK hP 12 11 rfl rfl hD hS (xb_in (xb_na (xb_na (xb_nm (xb_lit (x := (6 : Int32)) 6 rfl) (xb_lit e1 rfl)) (xb_nm (xb_lit (x := (3 : Int32)) 3 rfl) (xb_lit e1 rfl))) (xb_lit (x := (1 : Int32)) 1 rfl)) (by omega) (by decide)) (xb_cl (xb_na (xb_na (xb_nm (xb_lit (x := (6 : Int32)) 6 rfl) (xb_lit e1 rfl)) (xb_nm (xb_lit (x := (3 : Int32)) 3 rfl) (xb_lit e1 rfl))) (xb_lit (x := (1 : Int32)) 1 rfl)) (by omega)) sm_s_12 d_M_start_36 (fun H locs hP hS => ?_)
  refine lv_aload_n hx hb d_M_start_37 rfl (lv_at hl 1 rfl) ?_
  refine sm_g (v := .ref (α 12)) hx hb ht hown hK hP 14 (by decide) (ht _ xw966) (fun _ h_ => h_) rfl d_M_start_38 ?_
  refine lv_iload_n hx hb d_M_start_41 rfl (lv_at hl 0 rfl) ?_
  refine lv_iconst (v := 2) hx hb d_M_start_42 (by decide) ?_
  refine lv_iadd hx hb d_M_start_43 ?_
  refine lv_aload_n hx hb d_M_start_44 rfl (lv_at hl 1 rfl) ?_
  refine sm_g (v := .ref (α 2)) hx hb ht hown hK hP 2 (by decide) (ht _ xw954) (fun _ h_ => h_) rfl d_M_start_45 ?_
  refine lv_iload_n hx hb d_M_start_48 rfl (lv_at hl 2 rfl) ?_
  refine sm_gaI (L := 2) (n := e1) (v := (σ.1 2 e1)) hx hb hK hP 2 1 rfl rfl (xb_in (xb_lit e1 rfl) (by omega) (by decide)) (xb_cl (xb_lit e1 rfl) (by omega)) ((xb_i_l).trans (xb_i_l)) d_M_start_49 ?_
  refine lv_i2l (v := (σ.1 2 e1).toInt64) hx hb d_M_start_50 (by rfl) ?_
  refine sm_paJ (L := 12) (n := (((6 * e1) + (3 * e1)) + 2)) (x := (σ.1 2 e1).toInt64) hx hb hK hP 12 11 rfl rfl hD hS (xb_in (xb_na (xb_na (xb_nm (xb_lit (x := (6 : Int32)) 6 rfl) (xb_lit e1 rfl)) (xb_nm (xb_lit (x := (3 : Int32)) 3 rfl) (xb_lit e1 rfl))) (xb_lit (x := (2 : Int32)) 2 rfl)) (by omega) (by decide)) (xb_cl (xb_na (xb_na (xb_nm (xb_lit (x := (6 : Int32)) 6 rfl) (xb_lit e1 rfl)) (xb_nm (xb_lit (x := (3 : Int32)) 3 rfl) (xb_lit e1 rfl))) (xb_lit (x := (2 : Int32)) 2 rfl)) (by omega)) sm_s_12 d_M_start_51 (fun H locs hP hS => ?_)
  refine lv_aload_n hx hb d_M_start_52 rfl (lv_at hl 1 rfl) ?_
  refine sm_g (v := .ref (α 13)) hx hb ht hown hK hP 15 (by decide) (ht _ xw967) (fun _ h_ => h_) rfl d_M_start_53 ?_
  refine lv_iload_n hx hb d_M_start_56 rfl (lv_at hl 2 rfl) ?_
  refine lv_aload_n hx hb d_M_start_57 rfl (lv_at hl 1 rfl) ?_
  refine sm_g (v := .ref (α 3)) hx hb ht hown hK hP 3 (by decide) (ht _ xw955) (fun _ h_ => h_) rfl d_M_start_58 ?_
  refine lv_iload_n hx hb d_M_start_61 rfl (lv_at hl 2 rfl) ?_
  refine sm_gaI (L := 2) (n := e1) (v := (σ.1 3 e1)) hx hb hK hP 3 2 rfl rfl (xb_in (xb_lit e1 rfl) (by omega) (by decide)) (xb_cl (xb_lit e1 rfl) (by omega)) ((xb_i_l).trans ((xb_i_l).trans (xb_i_l))) d_M_start_62 ?_
  refine lv_i2l (v := (σ.1 3 e1).toInt64) hx hb d_M_start_63 (by rfl) ?_
  refine sm_paJ (L := 2) (n := e1) (x := (σ.1 3 e1).toInt64) hx hb hK hP 13 12 rfl rfl hD hS (xb_in (xb_lit e1 rfl) (by omega) (by decide)) (xb_cl (xb_lit e1 rfl) (by omega)) sm_s_13 d_M_start_64 (fun H locs hP hS => ?_)
  refine lv_aload_n hx hb d_M_start_65 rfl (lv_at hl 1 rfl) ?_
  refine sm_g (v := .ref (α 6)) hx hb ht hown hK hP 8 (by decide) (ht _ xw960) (fun _ h_ => h_) rfl d_M_start_66 ?_
  refine lv_iload_n hx hb d_M_start_69 rfl (lv_at hl 2 rfl) ?_
  refine lv_dup2_11 hx hb d_M_start_70 rfl rfl ?_
  refine sm_gaI (L := 2) (n := e1) (v := (σ.1 6 e1)) hx hb hK hP 6 5 rfl rfl (xb_in (xb_lit e1 rfl) (by omega) (by decide)) (xb_cl (xb_lit e1 rfl) (by omega)) ((xb_i_l).trans ((xb_i_l).trans ((xb_i_l).trans (xb_i_l)))) d_M_start_71 ?_
  refine lv_iconst (v := 1) hx hb d_M_start_72 (by decide) ?_
  refine lv_iadd hx hb d_M_start_73 ?_
  refine sm_paI (L := 2) (n := e1) (x := ((σ.1 6 e1) + (1 : Int32))) hx hb hK hP 6 5 rfl rfl hD hS (xb_in (xb_lit e1 rfl) (by omega) (by decide)) (xb_cl (xb_lit e1 rfl) (by omega)) sm_s_6 d_M_start_74 (fun H locs hP hS => ?_)
  refine lv_aload_n hx hb d_M_start_75 rfl (lv_at hl 1 rfl) ?_
  refine lv_iload_n hx hb d_M_start_76 rfl (lv_at hl 2 rfl) ?_
  refine lv_bipush (v := 20) hx hb d_M_start_77 (by decide) ?_
  refine lv_aload_n hx hb d_M_start_79 rfl (lv_at hl 1 rfl) ?_
  refine sm_g (v := .ref (α 12)) hx hb ht hown hK hP 14 (by decide) (ht _ xw966) (fun _ h_ => h_) rfl d_M_start_80 ?_
  refine lv_iload_n hx hb d_M_start_83 rfl (lv_at hl 0 rfl) ?_
  refine sm_gaJ (L := 12) (n := ((6 * e1) + (3 * e1))) (v := ((xb_sl (xb_sl (xb_sl σ 12 ((6 * e1) + (3 * e1)) ((σ.1 6 e1).toInt64)) 12 (((6 * e1) + (3 * e1)) + 1) ((σ.1 1 e1).toInt64)) 12 (((6 * e1) + (3 * e1)) + 2) ((σ.1 2 e1).toInt64)).2 12 ((6 * e1) + (3 * e1)))) hx hb hK hP 12 11 rfl rfl (xb_in (xb_na (xb_nm (xb_lit (x := (6 : Int32)) 6 rfl) (xb_lit e1 rfl)) (xb_nm (xb_lit (x := (3 : Int32)) 3 rfl) (xb_lit e1 rfl))) (by omega) (by decide)) (xb_cl (xb_na (xb_nm (xb_lit (x := (6 : Int32)) 6 rfl) (xb_lit e1 rfl)) (xb_nm (xb_lit (x := (3 : Int32)) 3 rfl) (xb_lit e1 rfl))) (by omega)) ((xb_l_i).trans ((xb_l_nk (by decide)))) d_M_start_84 ?_
  refine lv_aload_n hx hb d_M_start_85 rfl (lv_at hl 1 rfl) ?_
  refine sm_g (v := .ref (α 12)) hx hb ht hown hK hP 14 (by decide) (ht _ xw966) (fun _ h_ => h_) rfl d_M_start_86 ?_
  refine lv_iload_n hx hb d_M_start_89 rfl (lv_at hl 0 rfl) ?_
  refine lv_iconst (v := 1) hx hb d_M_start_90 (by decide) ?_
  refine lv_iadd hx hb d_M_start_91 ?_
  refine sm_gaJ (L := 12) (n := (((6 * e1) + (3 * e1)) + 1)) (v := ((xb_sl (xb_sl (xb_sl σ 12 ((6 * e1) + (3 * e1)) ((σ.1 6 e1).toInt64)) 12 (((6 * e1) + (3 * e1)) + 1) ((σ.1 1 e1).toInt64)) 12 (((6 * e1) + (3 * e1)) + 2) ((σ.1 2 e1).toInt64)).2 12 (((6 * e1) + (3 * e1)) + 1))) hx hb hK hP 12 11 rfl rfl (xb_in (xb_na (xb_na (xb_nm (xb_lit (x := (6 : Int32)) 6 rfl) (xb_lit e1 rfl)) (xb_nm (xb_lit (x := (3 : Int32)) 3 rfl) (xb_lit e1 rfl))) (xb_lit (x := (1 : Int32)) 1 rfl)) (by omega) (by decide)) (xb_cl (xb_na (xb_na (xb_nm (xb_lit (x := (6 : Int32)) 6 rfl) (xb_lit e1 rfl)) (xb_nm (xb_lit (x := (3 : Int32)) 3 rfl) (xb_lit e1 rfl))) (xb_lit (x := (1 : Int32)) 1 rfl)) (by omega)) ((xb_l_i).trans ((xb_l_nk (by decide)))) d_M_start_92 ?_
  refine lv_aload_n hx hb d_M_start_93 rfl (lv_at hl 1 rfl) ?_
  refine sm_g (v := .ref (α 12)) hx hb ht hown hK hP 14 (by decide) (ht _ xw966) (fun _ h_ => h_) rfl d_M_start_94 ?_
  refine lv_iload_n hx hb d_M_start_97 rfl (lv_at hl 0 rfl) ?_
  refine lv_iconst (v := 2) hx hb d_M_start_98 (by decide) ?_
  refine lv_iadd hx hb d_M_start_99 ?_
  refine sm_gaJ (L := 12) (n := (((6 * e1) + (3 * e1)) + 2)) (v := (σ.1 2 e1).toInt64) hx hb hK hP 12 11 rfl rfl (xb_in (xb_na (xb_na (xb_nm (xb_lit (x := (6 : Int32)) 6 rfl) (xb_lit e1 rfl)) (xb_nm (xb_lit (x := (3 : Int32)) 3 rfl) (xb_lit e1 rfl))) (xb_lit (x := (2 : Int32)) 2 rfl)) (by omega) (by decide)) (xb_cl (xb_na (xb_na (xb_nm (xb_lit (x := (6 : Int32)) 6 rfl) (xb_lit e1 rfl)) (xb_nm (xb_lit (x := (3 : Int32)) 3 rfl) (xb_lit e1 rfl))) (xb_lit (x := (2 : Int32)) 2 rfl)) (by omega)) ((xb_l_i).trans (((xb_l_nk (by decide))).trans (xb_l_hit))) d_M_start_100 ?_
  refine lv_lconst (v := 0) hx hb d_M_start_101 (by decide) ?_
  refine sm_cv (va_runV (As := [.int (nI e1), .int (20 : Int32), .long ((xb_sl (xb_sl (xb_sl σ 12 ((6 * e1) + (3 * e1)) ((σ.1 6 e1).toInt64)) 12 (((6 * e1) + (3 * e1)) + 1) ((σ.1 1 e1).toInt64)) 12 (((6 * e1) + (3 * e1)) + 2) ((σ.1 2 e1).toInt64)).2 12 ((6 * e1) + (3 * e1))), .long ((xb_sl (xb_sl (xb_sl σ 12 ((6 * e1) + (3 * e1)) ((σ.1 6 e1).toInt64)) 12 (((6 * e1) + (3 * e1)) + 1) ((σ.1 1 e1).toInt64)) 12 (((6 * e1) + (3 * e1)) + 2) ((σ.1 2 e1).toInt64)).2 12 (((6 * e1) + (3 * e1)) + 1)), .long ((σ.1 2 e1).toInt64), .long (0 : Int64)]) (rest := []) ⟨hx, hb, hml, hown, hts⟩ (c_M_send l D α κ hα (xb_si (xb_sl (xb_sl (xb_sl (xb_sl σ 12 ((6 * e1) + (3 * e1)) ((σ.1 6 e1).toInt64)) 12 (((6 * e1) + (3 * e1)) + 1) ((σ.1 1 e1).toInt64)) 12 (((6 * e1) + (3 * e1)) + 2) ((σ.1 2 e1).toInt64)) 13 e1 ((σ.1 3 e1).toInt64)) 6 e1 ((σ.1 6 e1) + (1 : Int32))) (nI e1) e1 (xb_lit e1 rfl) (by omega) (20 : Int32) ((xb_sl (xb_sl (xb_sl σ 12 ((6 * e1) + (3 * e1)) ((σ.1 6 e1).toInt64)) 12 (((6 * e1) + (3 * e1)) + 1) ((σ.1 1 e1).toInt64)) 12 (((6 * e1) + (3 * e1)) + 2) ((σ.1 2 e1).toInt64)).2 12 ((6 * e1) + (3 * e1))) ((xb_sl (xb_sl (xb_sl σ 12 ((6 * e1) + (3 * e1)) ((σ.1 6 e1).toInt64)) 12 (((6 * e1) + (3 * e1)) + 1) ((σ.1 1 e1).toInt64)) 12 (((6 * e1) + (3 * e1)) + 2) ((σ.1 2 e1).toInt64)).2 12 (((6 * e1) + (3 * e1)) + 1)) ((σ.1 2 e1).toInt64) (0 : Int64) (mk_si (mk_sl (mk_sl (mk_sl (mk_sl ok)))) (by decide))) (cwV 6 hts (xa_V xw1084 xw1086 xs6 xw11 xw1087) rfl rfl rfl (by decide +kernel) ⟨Nat.le_of_ble_eq_true rfl, Nat.le_of_ble_eq_true rfl⟩) ⟨sm_blind, va_recv (q0 := 0) (ci := 9) hK hP rfl rfl, sm_pre hP hK hN _⟩ rfl rfl hl.1 rfl (lv_room (Nat.le_of_ble_eq_true rfl)) d_M_start_102 ⟨Nat.le_of_ble_eq_true rfl, Nat.le_of_ble_eq_true rfl⟩) hS (fun _ h_ => h_) (fun H locs hP hS => ?_)
  obtain ⟨τ1, hτ1⟩ : ∃ t_, t_ = (q_send e1 (20 : Int32) ((xb_sl (xb_sl (xb_sl σ 12 ((6 * e1) + (3 * e1)) ((σ.1 6 e1).toInt64)) 12 (((6 * e1) + (3 * e1)) + 1) ((σ.1 1 e1).toInt64)) 12 (((6 * e1) + (3 * e1)) + 2) ((σ.1 2 e1).toInt64)).2 12 ((6 * e1) + (3 * e1))) ((xb_sl (xb_sl (xb_sl σ 12 ((6 * e1) + (3 * e1)) ((σ.1 6 e1).toInt64)) 12 (((6 * e1) + (3 * e1)) + 1) ((σ.1 1 e1).toInt64)) 12 (((6 * e1) + (3 * e1)) + 2) ((σ.1 2 e1).toInt64)).2 12 (((6 * e1) + (3 * e1)) + 1)) ((σ.1 2 e1).toInt64) (0 : Int64) (xb_si (xb_sl (xb_sl (xb_sl (xb_sl σ 12 ((6 * e1) + (3 * e1)) ((σ.1 6 e1).toInt64)) 12 (((6 * e1) + (3 * e1)) + 1) ((σ.1 1 e1).toInt64)) 12 (((6 * e1) + (3 * e1)) + 2) ((σ.1 2 e1).toInt64)) 13 e1 ((σ.1 3 e1).toInt64)) 6 e1 ((σ.1 6 e1) + (1 : Int32)))) := ⟨_, rfl⟩
  rw [← hτ1] at hP
  have okτ1 : sm_ok τ1 := by rw [hτ1]; exact (ok_q_send e1 (20 : Int32) ((xb_sl (xb_sl (xb_sl σ 12 ((6 * e1) + (3 * e1)) ((σ.1 6 e1).toInt64)) 12 (((6 * e1) + (3 * e1)) + 1) ((σ.1 1 e1).toInt64)) 12 (((6 * e1) + (3 * e1)) + 2) ((σ.1 2 e1).toInt64)).2 12 ((6 * e1) + (3 * e1))) ((xb_sl (xb_sl (xb_sl σ 12 ((6 * e1) + (3 * e1)) ((σ.1 6 e1).toInt64)) 12 (((6 * e1) + (3 * e1)) + 1) ((σ.1 1 e1).toInt64)) 12 (((6 * e1) + (3 * e1)) + 2) ((σ.1 2 e1).toInt64)).2 12 (((6 * e1) + (3 * e1)) + 1)) ((σ.1 2 e1).toInt64) (0 : Int64) (by omega) (mk_si (mk_sl (mk_sl (mk_sl (mk_sl ok)))) (by decide)))
  refine lv_aload_n hx hb d_M_start_105 rfl (lv_at hl 1 rfl) ?_
  refine sm_g (v := .ref (α 4)) hx hb ht hown hK hP 6 (by decide) (ht _ xw958) (fun _ h_ => h_) rfl d_M_start_106 ?_
  refine lv_iload_n hx hb d_M_start_109 rfl (lv_at hl 2 rfl) ?_
  refine lv_iconst (v := 1) hx hb d_M_start_110 (by decide) ?_
  refine sm_paI (L := 2) (n := e1) (x := (1 : Int32)) hx hb hK hP 4 3 rfl rfl hD hS (xb_in (xb_lit e1 rfl) (by omega) (by decide)) (xb_cl (xb_lit e1 rfl) (by omega)) sm_s_4 d_M_start_111 (fun H locs hP hS => ?_)
  exact W.vret hx hb hr (fun t ht_ hW => ⟨⟨(xb_si τ1 4 e1 (1 : Int32)), rfl, (by subst hτ1; exact rfl), by rw [sm_B, ht_]; exact hP⟩, hS.F ht_⟩) hS.2.2 d_M_start_112
theorem ok_q_start {σ : xb_St} (e1 : Nat) (b_e1 : e1 < 2) (ok : sm_ok σ) : sm_ok (q_start e1 σ) := by
  unfold q_start
  exact (mk_si (ok_q_send e1 (20 : Int32) ((xb_sl (xb_sl (xb_sl σ 12 ((6 * e1) + (3 * e1)) ((σ.1 6 e1).toInt64)) 12 (((6 * e1) + (3 * e1)) + 1) ((σ.1 1 e1).toInt64)) 12 (((6 * e1) + (3 * e1)) + 2) ((σ.1 2 e1).toInt64)).2 12 ((6 * e1) + (3 * e1))) ((xb_sl (xb_sl (xb_sl σ 12 ((6 * e1) + (3 * e1)) ((σ.1 6 e1).toInt64)) 12 (((6 * e1) + (3 * e1)) + 1) ((σ.1 1 e1).toInt64)) 12 (((6 * e1) + (3 * e1)) + 2) ((σ.1 2 e1).toInt64)).2 12 (((6 * e1) + (3 * e1)) + 1)) ((σ.1 2 e1).toInt64) (0 : Int64) (by omega) (mk_si (mk_sl (mk_sl (mk_sl (mk_sl ok)))) (by decide))) (by decide))
abbrev b_M_agree : ByteArray := prog_12_method_22_code
def y_M_agree : MethodName := ⟨"SecurePairModel", "agree", "(IJJ)V"⟩
abbrev w_M_agree : List Cond := .code y_M_agree b_M_agree 10 none :: xa
theorem d_M_agree_0 : decode b_M_agree 0 = .ok (.aload_n 0, 1) := by decide +kernel
theorem d_M_agree_1 : decode b_M_agree 1 = .ok (.getfield 44, 3) := by decide +kernel
theorem d_M_agree_4 : decode b_M_agree 4 = .ok (.iload_n 1, 1) := by decide +kernel
theorem d_M_agree_5 : decode b_M_agree 5 = .ok (.baload, 1) := by decide +kernel
theorem d_M_agree_6 : decode b_M_agree 6 = .ok (.ifCond .ne 18, 3) := by decide +kernel
theorem d_M_agree_9 : decode b_M_agree 9 = .ok (.aload_n 0, 1) := by decide +kernel
theorem d_M_agree_10 : decode b_M_agree 10 = .ok (.getfield 44, 3) := by decide +kernel
theorem d_M_agree_13 : decode b_M_agree 13 = .ok (.iload_n 1, 1) := by decide +kernel
theorem d_M_agree_14 : decode b_M_agree 14 = .ok (.iconst 1, 1) := by decide +kernel
theorem d_M_agree_15 : decode b_M_agree 15 = .ok (.bastore, 1) := by decide +kernel
theorem d_M_agree_16 : decode b_M_agree 16 = .ok (.aload_n 0, 1) := by decide +kernel
theorem d_M_agree_17 : decode b_M_agree 17 = .ok (.getfield 41, 3) := by decide +kernel
theorem d_M_agree_20 : decode b_M_agree 20 = .ok (.iload_n 1, 1) := by decide +kernel
theorem d_M_agree_21 : decode b_M_agree 21 = .ok (.lload 4, 2) := by decide +kernel
theorem d_M_agree_23 : decode b_M_agree 23 = .ok (.lastore, 1) := by decide +kernel
theorem d_M_agree_24 : decode b_M_agree 24 = .ok (.iconst 0, 1) := by decide +kernel
theorem d_M_agree_25 : decode b_M_agree 25 = .ok (.istore 6, 2) := by decide +kernel
theorem d_M_agree_27 : decode b_M_agree 27 = .ok (.iload 6, 2) := by decide +kernel
theorem d_M_agree_29 : decode b_M_agree 29 = .ok (.iconst 2, 1) := by decide +kernel
theorem d_M_agree_30 : decode b_M_agree 30 = .ok (.if_icmp .ge 90, 3) := by decide +kernel
theorem d_M_agree_33 : decode b_M_agree 33 = .ok (.iconst 2, 1) := by decide +kernel
theorem d_M_agree_34 : decode b_M_agree 34 = .ok (.iload_n 1, 1) := by decide +kernel
theorem d_M_agree_35 : decode b_M_agree 35 = .ok (.imul, 1) := by decide +kernel
theorem d_M_agree_36 : decode b_M_agree 36 = .ok (.iload 6, 2) := by decide +kernel
theorem d_M_agree_38 : decode b_M_agree 38 = .ok (.iload_n 1, 1) := by decide +kernel
theorem d_M_agree_39 : decode b_M_agree 39 = .ok (.if_icmp .ne 7, 3) := by decide +kernel
theorem d_M_agree_42 : decode b_M_agree 42 = .ok (.iconst 0, 1) := by decide +kernel
theorem d_M_agree_43 : decode b_M_agree 43 = .ok (.goto 4, 3) := by decide +kernel
theorem d_M_agree_46 : decode b_M_agree 46 = .ok (.iconst 1, 1) := by decide +kernel
theorem d_M_agree_47 : decode b_M_agree 47 = .ok (.iadd, 1) := by decide +kernel
theorem d_M_agree_48 : decode b_M_agree 48 = .ok (.istore 7, 2) := by decide +kernel
theorem d_M_agree_50 : decode b_M_agree 50 = .ok (.lconst 0, 1) := by decide +kernel
theorem d_M_agree_51 : decode b_M_agree 51 = .ok (.lload_n 2, 1) := by decide +kernel
theorem d_M_agree_52 : decode b_M_agree 52 = .ok (.invokestatic 142, 3) := by decide +kernel
theorem d_M_agree_55 : decode b_M_agree 55 = .ok (.lload 4, 2) := by decide +kernel
theorem d_M_agree_57 : decode b_M_agree 57 = .ok (.invokestatic 142, 3) := by decide +kernel
theorem d_M_agree_60 : decode b_M_agree 60 = .ok (.lstore 8, 2) := by decide +kernel
theorem d_M_agree_62 : decode b_M_agree 62 = .ok (.aload_n 0, 1) := by decide +kernel
theorem d_M_agree_63 : decode b_M_agree 63 = .ok (.getfield 81, 3) := by decide +kernel
theorem d_M_agree_66 : decode b_M_agree 66 = .ok (.iload 7, 2) := by decide +kernel
theorem d_M_agree_68 : decode b_M_agree 68 = .ok (.lload 8, 2) := by decide +kernel
theorem d_M_agree_70 : decode b_M_agree 70 = .ok (.iload 6, 2) := by decide +kernel
theorem d_M_agree_72 : decode b_M_agree 72 = .ok (.iconst 1, 1) := by decide +kernel
theorem d_M_agree_73 : decode b_M_agree 73 = .ok (.iadd, 1) := by decide +kernel
theorem d_M_agree_74 : decode b_M_agree 74 = .ok (.i2l, 1) := by decide +kernel
theorem d_M_agree_75 : decode b_M_agree 75 = .ok (.invokestatic 142, 3) := by decide +kernel
theorem d_M_agree_78 : decode b_M_agree 78 = .ok (.aload_n 0, 1) := by decide +kernel
theorem d_M_agree_79 : decode b_M_agree 79 = .ok (.getfield 41, 3) := by decide +kernel
theorem d_M_agree_82 : decode b_M_agree 82 = .ok (.iload_n 1, 1) := by decide +kernel
theorem d_M_agree_83 : decode b_M_agree 83 = .ok (.laload, 1) := by decide +kernel
theorem d_M_agree_84 : decode b_M_agree 84 = .ok (.invokestatic 142, 3) := by decide +kernel
theorem d_M_agree_87 : decode b_M_agree 87 = .ok (.lastore, 1) := by decide +kernel
theorem d_M_agree_88 : decode b_M_agree 88 = .ok (.aload_n 0, 1) := by decide +kernel
theorem d_M_agree_89 : decode b_M_agree 89 = .ok (.getfield 84, 3) := by decide +kernel
theorem d_M_agree_92 : decode b_M_agree 92 = .ok (.iload 7, 2) := by decide +kernel
theorem d_M_agree_94 : decode b_M_agree 94 = .ok (.lload 8, 2) := by decide +kernel
theorem d_M_agree_96 : decode b_M_agree 96 = .ok (.iload 6, 2) := by decide +kernel
theorem d_M_agree_98 : decode b_M_agree 98 = .ok (.iconst 3, 1) := by decide +kernel
theorem d_M_agree_99 : decode b_M_agree 99 = .ok (.iadd, 1) := by decide +kernel
theorem d_M_agree_100 : decode b_M_agree 100 = .ok (.i2l, 1) := by decide +kernel
theorem d_M_agree_101 : decode b_M_agree 101 = .ok (.invokestatic 142, 3) := by decide +kernel
theorem d_M_agree_104 : decode b_M_agree 104 = .ok (.aload_n 0, 1) := by decide +kernel
theorem d_M_agree_105 : decode b_M_agree 105 = .ok (.getfield 41, 3) := by decide +kernel
theorem d_M_agree_108 : decode b_M_agree 108 = .ok (.iload_n 1, 1) := by decide +kernel
theorem d_M_agree_109 : decode b_M_agree 109 = .ok (.laload, 1) := by decide +kernel
theorem d_M_agree_110 : decode b_M_agree 110 = .ok (.invokestatic 142, 3) := by decide +kernel
theorem d_M_agree_113 : decode b_M_agree 113 = .ok (.lastore, 1) := by decide +kernel
theorem d_M_agree_114 : decode b_M_agree 114 = .ok (.iinc 6 1, 3) := by decide +kernel
theorem d_M_agree_117 : decode b_M_agree 117 = .ok (.goto (-90), 3) := by decide +kernel
theorem d_M_agree_120 : decode b_M_agree 120 = .ok (.return_, 1) := by decide +kernel
theorem xw963 : (Cond.fieldLink "SecurePairModel" (41 : Nat) "SecurePairModel" "session" "[J") ∈ xa := xa_t 963 (by decide +kernel) (by decide +kernel)
theorem xw964 : (Cond.fieldLink "SecurePairModel" (44 : Nat) "SecurePairModel" "hasSession" "[Z") ∈ xa := xa_t 964 (by decide +kernel) (by decide +kernel)
def q_agree (e1 : Nat) (x2 : Int64) (x3 : Int64) (σ : xb_St) : xb_St := (if (σ.1 10 e1) = 0 then (if (0 : Int32) = (nI e1) then (if (1 : Int32) = (nI e1) then (xb_sl (xb_sl (xb_sl (xb_sl (xb_sl (xb_si σ 10 e1 (1 : Int32)) 9 e1 x3) 22 ((2 * e1) + 0) (g_mix (g_mix (g_mix (g_mix (0 : Int64) x2) x3) (1 : Int64)) x3)) 23 ((2 * e1) + 0) (g_mix (g_mix (g_mix (g_mix (0 : Int64) x2) x3) (3 : Int64)) x3)) 22 ((2 * e1) + 0) (g_mix (g_mix (g_mix (g_mix (0 : Int64) x2) x3) (2 : Int64)) x3)) 23 ((2 * e1) + 0) (g_mix (g_mix (g_mix (g_mix (0 : Int64) x2) x3) (4 : Int64)) x3)) else (xb_sl (xb_sl (xb_sl (xb_sl (xb_sl (xb_si σ 10 e1 (1 : Int32)) 9 e1 x3) 22 ((2 * e1) + 0) (g_mix (g_mix (g_mix (g_mix (0 : Int64) x2) x3) (1 : Int64)) x3)) 23 ((2 * e1) + 0) (g_mix (g_mix (g_mix (g_mix (0 : Int64) x2) x3) (3 : Int64)) x3)) 22 ((2 * e1) + 1) (g_mix (g_mix (g_mix (g_mix (0 : Int64) x2) x3) (2 : Int64)) x3)) 23 ((2 * e1) + 1) (g_mix (g_mix (g_mix (g_mix (0 : Int64) x2) x3) (4 : Int64)) x3))) else (if (1 : Int32) = (nI e1) then (xb_sl (xb_sl (xb_sl (xb_sl (xb_sl (xb_si σ 10 e1 (1 : Int32)) 9 e1 x3) 22 ((2 * e1) + 1) (g_mix (g_mix (g_mix (g_mix (0 : Int64) x2) x3) (1 : Int64)) x3)) 23 ((2 * e1) + 1) (g_mix (g_mix (g_mix (g_mix (0 : Int64) x2) x3) (3 : Int64)) x3)) 22 ((2 * e1) + 0) (g_mix (g_mix (g_mix (g_mix (0 : Int64) x2) x3) (2 : Int64)) x3)) 23 ((2 * e1) + 0) (g_mix (g_mix (g_mix (g_mix (0 : Int64) x2) x3) (4 : Int64)) x3)) else (xb_sl (xb_sl (xb_sl (xb_sl (xb_sl (xb_si σ 10 e1 (1 : Int32)) 9 e1 x3) 22 ((2 * e1) + 1) (g_mix (g_mix (g_mix (g_mix (0 : Int64) x2) x3) (1 : Int64)) x3)) 23 ((2 * e1) + 1) (g_mix (g_mix (g_mix (g_mix (0 : Int64) x2) x3) (3 : Int64)) x3)) 22 ((2 * e1) + 1) (g_mix (g_mix (g_mix (g_mix (0 : Int64) x2) x3) (2 : Int64)) x3)) 23 ((2 * e1) + 1) (g_mix (g_mix (g_mix (g_mix (0 : Int64) x2) x3) (4 : Int64)) x3)))) else (if (0 : Int32) = (nI e1) then (if (1 : Int32) = (nI e1) then (xb_sl (xb_sl (xb_sl (xb_sl σ 22 ((2 * e1) + 0) (g_mix (g_mix (g_mix (g_mix (0 : Int64) x2) x3) (1 : Int64)) (σ.2 9 e1))) 23 ((2 * e1) + 0) (g_mix (g_mix (g_mix (g_mix (0 : Int64) x2) x3) (3 : Int64)) (σ.2 9 e1))) 22 ((2 * e1) + 0) (g_mix (g_mix (g_mix (g_mix (0 : Int64) x2) x3) (2 : Int64)) (σ.2 9 e1))) 23 ((2 * e1) + 0) (g_mix (g_mix (g_mix (g_mix (0 : Int64) x2) x3) (4 : Int64)) (σ.2 9 e1))) else (xb_sl (xb_sl (xb_sl (xb_sl σ 22 ((2 * e1) + 0) (g_mix (g_mix (g_mix (g_mix (0 : Int64) x2) x3) (1 : Int64)) (σ.2 9 e1))) 23 ((2 * e1) + 0) (g_mix (g_mix (g_mix (g_mix (0 : Int64) x2) x3) (3 : Int64)) (σ.2 9 e1))) 22 ((2 * e1) + 1) (g_mix (g_mix (g_mix (g_mix (0 : Int64) x2) x3) (2 : Int64)) (σ.2 9 e1))) 23 ((2 * e1) + 1) (g_mix (g_mix (g_mix (g_mix (0 : Int64) x2) x3) (4 : Int64)) (σ.2 9 e1)))) else (if (1 : Int32) = (nI e1) then (xb_sl (xb_sl (xb_sl (xb_sl σ 22 ((2 * e1) + 1) (g_mix (g_mix (g_mix (g_mix (0 : Int64) x2) x3) (1 : Int64)) (σ.2 9 e1))) 23 ((2 * e1) + 1) (g_mix (g_mix (g_mix (g_mix (0 : Int64) x2) x3) (3 : Int64)) (σ.2 9 e1))) 22 ((2 * e1) + 0) (g_mix (g_mix (g_mix (g_mix (0 : Int64) x2) x3) (2 : Int64)) (σ.2 9 e1))) 23 ((2 * e1) + 0) (g_mix (g_mix (g_mix (g_mix (0 : Int64) x2) x3) (4 : Int64)) (σ.2 9 e1))) else (xb_sl (xb_sl (xb_sl (xb_sl σ 22 ((2 * e1) + 1) (g_mix (g_mix (g_mix (g_mix (0 : Int64) x2) x3) (1 : Int64)) (σ.2 9 e1))) 23 ((2 * e1) + 1) (g_mix (g_mix (g_mix (g_mix (0 : Int64) x2) x3) (3 : Int64)) (σ.2 9 e1))) 22 ((2 * e1) + 1) (g_mix (g_mix (g_mix (g_mix (0 : Int64) x2) x3) (2 : Int64)) (σ.2 9 e1))) 23 ((2 * e1) + 1) (g_mix (g_mix (g_mix (g_mix (0 : Int64) x2) x3) (4 : Int64)) (σ.2 9 e1))))))
set_option maxHeartbeats 4000000 in
set_option maxRecDepth 100000 in
theorem c_M_agree (l : Launch) (D : va_G) (α : Nat → Nat) (κ : Nat → ClassId) (hα : xb_inj α 35) (σ : xb_St) (x_e1 : Int32) (e1 : Nat) (e_e1 : x_e1 = nI e1) (b_e1 : e1 < 2) (x2 : Int64) (x3 : Int64) : Met l y_M_agree w_M_agree ({ frames := 1, cells := 0, slots := 0, locals := 25 }) (va_Pc ([.ref (α 0), .int x_e1, .long x2, .long x3]) (sm_Pre D α κ σ)) (va_Qv (fun u : xb_St => u = q_agree e1 x2 x3 σ) (sm_B D α κ) (xb_A α 35)) 0 0 (xb_A α 35) := by
  subst e_e1
  refine Met.ofW (cc := b_M_agree) (maxL := 10) (ret := none) (by decide) rfl ?_
  intro p e s m args below meth c s₁ B_ hml hv
  obtain ⟨rfl, hP, hK, hN⟩ := hv
  have hx := B_.exec
  have hb := B_.bytes
  have hr := B_.returns
  have hts := atoms_spec (ws := w_M_agree) B_.pre
  have ht : ∀ w ∈ xa, w.before _ s = true := fun w h => hts w (List.mem_cons_of_mem _ h)
  have hown : s.vm.findClass "SecurePairModel" = some m.cls := findClass_of_methodNamed B_.named
  have hlocks := B_.notSynchronized
  have hD := sm_D hα κ
  have hS : va_S (xb_A α 35) s.heap s.heap [] := va_S.rf
  have hl := lv_entry ([.ref (α 0), .int (nI e1), .long x2, .long x3]) (n := 10) (Nat.le_of_ble_eq_true rfl)
  rw [lg_entry_eq]
  generalize (lg_sl ([.ref (α 0), .int (nI e1), .long x2, .long x3]) ++ List.replicate (10 - (lg_sl ([.ref (α 0), .int (nI e1), .long x2, .long x3])).length) Slot.unset).toArray = ls at hl ⊢
  have hl : lv_has ls 10 [(0, .ref (α 0)), (1, .int (nI e1)), (2, .long x2), (4, .long x3)] := hl
  refine lv_aload_n hx hb d_M_agree_0 rfl (lv_at hl 0 rfl) ?_
  refine sm_g (v := .ref (α 10)) hx hb ht hown hK hP 12 (by decide) (ht _ xw964) (fun _ h_ => h_) rfl d_M_agree_1 ?_
  refine lv_iload_n hx hb d_M_agree_4 rfl (lv_at hl 1 rfl) ?_
  refine sm_gaZ (L := 2) (n := e1) (v := (σ.1 10 e1)) hx hb hK hP 10 9 rfl rfl (xb_in (xb_lit e1 rfl) (by omega) (by decide)) (xb_cl (xb_lit e1 rfl) (by omega)) rfl d_M_agree_5 ?_
  refine lv_if_ne (tgt := 24) hx hb d_M_agree_6 (by decide) (fun c1 => ?_) (fun c1 => ?_)
  · skip
    refine lv_iconst (v := 0) hx hb d_M_agree_24 (by decide) ?_
    refine lv_istore (lv' := [(6, .int (0 : Int32)), (0, .ref (α 0)), (1, .int (nI e1)), (2, .long x2), (4, .long x3)]) hx hb d_M_agree_25 hl (by decide) rfl (fun ls hl => ?_)
    refine lv_iload hx hb d_M_agree_27 (lv_at hl 0 rfl) ?_
    refine lv_iconst (v := 2) hx hb d_M_agree_29 (by decide) ?_
    refine lv_icmp_ge (tgt := 120) hx hb d_M_agree_30 (by decide) (fun h_ => absurd h_ (by decide)) (fun _ => ?_)
    refine lv_iconst (v := 2) hx hb d_M_agree_33 (by decide) ?_
    refine lv_iload_n hx hb d_M_agree_34 rfl (lv_at hl 2 rfl) ?_
    refine lv_imul hx hb d_M_agree_35 ?_
    refine lv_iload hx hb d_M_agree_36 (lv_at hl 0 rfl) ?_
    refine lv_iload_n hx hb d_M_agree_38 rfl (lv_at hl 2 rfl) ?_
    refine lv_icmp_ne (tgt := 46) hx hb d_M_agree_39 (by decide) (fun c2 => ?_) (fun c2 => ?_)
    · skip
      have nc2 := mt (xb_eqN (xb_lit (x := (0 : Int32)) 0 rfl) (xb_lit e1 rfl) (by omega) (by omega)).mpr c2
      refine lv_iconst (v := 1) hx hb d_M_agree_46 (by decide) ?_
      refine lv_iadd hx hb d_M_agree_47 ?_
      refine lv_istore (lv' := [(7, .int (((2 : Int32) * (nI e1)) + (1 : Int32))), (6, .int (0 : Int32)), (0, .ref (α 0)), (1, .int (nI e1)), (2, .long x2), (4, .long x3)]) hx hb d_M_agree_48 hl (by decide) rfl (fun ls hl => ?_)
      refine lv_lconst (v := 0) hx hb d_M_agree_50 (by decide) ?_
      refine lv_lload_n hx hb d_M_agree_51 rfl (lv_at hl 4 rfl) ?_
      refine vp_callSl (W.runS (As := [.long (0 : Int64), .long x2]) (rest := []) ⟨hx, hb, hml, hown, hts⟩ (c_M_mix l (0 : Int64) x2) (cwS 2 hts (xa_S xw1091 xw1092 xw11 xw1093) rfl rfl rfl (by decide +kernel) ⟨Nat.le_of_ble_eq_true rfl, Nat.le_of_ble_eq_true rfl⟩) preEq rfl rfl hl.1 rfl (lv_room (Nat.le_of_ble_eq_true rfl)) d_M_agree_52 ⟨Nat.le_of_ble_eq_true rfl, Nat.le_of_ble_eq_true rfl⟩) (fun r_ e_ => ?_)
      subst e_
      refine lv_lload hx hb d_M_agree_55 (lv_at hl 5 rfl) ?_
      refine vp_callSl (W.runS (As := [.long (g_mix (0 : Int64) x2), .long x3]) (rest := []) ⟨hx, hb, hml, hown, hts⟩ (c_M_mix l (g_mix (0 : Int64) x2) x3) (cwS 2 hts (xa_S xw1091 xw1092 xw11 xw1093) rfl rfl rfl (by decide +kernel) ⟨Nat.le_of_ble_eq_true rfl, Nat.le_of_ble_eq_true rfl⟩) preEq rfl rfl hl.1 rfl (lv_room (Nat.le_of_ble_eq_true rfl)) d_M_agree_57 ⟨Nat.le_of_ble_eq_true rfl, Nat.le_of_ble_eq_true rfl⟩) (fun r_ e_ => ?_)
      subst e_
      refine lv_lstore (lv' := [(8, .long (g_mix (g_mix (0 : Int64) x2) x3)), (7, .int (((2 : Int32) * (nI e1)) + (1 : Int32))), (6, .int (0 : Int32)), (0, .ref (α 0)), (1, .int (nI e1)), (2, .long x2), (4, .long x3)]) hx hb d_M_agree_60 hl (by decide) rfl (fun ls hl => ?_)
      refine lv_aload_n hx hb d_M_agree_62 rfl (lv_at hl 3 rfl) ?_
      refine sm_g (v := .ref (α 22)) hx hb ht hown hK hP 24 (by decide) (ht _ xw976) (fun _ h_ => h_) rfl d_M_agree_63 ?_
      refine lv_iload hx hb d_M_agree_66 (lv_at hl 1 rfl) ?_
      refine lv_lload hx hb d_M_agree_68 (lv_at hl 0 rfl) ?_
      refine lv_iload hx hb d_M_agree_70 (lv_at hl 2 rfl) ?_
      refine lv_iconst (v := 1) hx hb d_M_agree_72 (by decide) ?_
      refine lv_iadd hx hb d_M_agree_73 ?_
      refine xb_ti (y := (1 : Int32)) (by decide) ?_
      refine lv_i2l (v := (1 : Int64)) hx hb d_M_agree_74 (by decide) ?_
      refine vp_callSl (W.runS (As := [.long (g_mix (g_mix (0 : Int64) x2) x3), .long (1 : Int64)]) (rest := [.int (((2 : Int32) * (nI e1)) + (1 : Int32)), .ref (α 22)]) ⟨hx, hb, hml, hown, hts⟩ (c_M_mix l (g_mix (g_mix (0 : Int64) x2) x3) (1 : Int64)) (cwS 2 hts (xa_S xw1091 xw1092 xw11 xw1093) rfl rfl rfl (by decide +kernel) ⟨Nat.le_of_ble_eq_true rfl, Nat.le_of_ble_eq_true rfl⟩) preEq rfl rfl hl.1 rfl (lv_room (Nat.le_of_ble_eq_true rfl)) d_M_agree_75 ⟨Nat.le_of_ble_eq_true rfl, Nat.le_of_ble_eq_true rfl⟩) (fun r_ e_ => ?_)
      subst e_
      refine lv_aload_n hx hb d_M_agree_78 rfl (lv_at hl 3 rfl) ?_
      refine sm_g (v := .ref (α 9)) hx hb ht hown hK hP 11 (by decide) (ht _ xw963) (fun _ h_ => h_) rfl d_M_agree_79 ?_
      refine lv_iload_n hx hb d_M_agree_82 rfl (lv_at hl 4 rfl) ?_
      refine sm_gaJ (L := 2) (n := e1) (v := (σ.2 9 e1)) hx hb hK hP 9 8 rfl rfl (xb_in (xb_lit e1 rfl) (by omega) (by decide)) (xb_cl (xb_lit e1 rfl) (by omega)) rfl d_M_agree_83 ?_
      refine vp_callSl (W.runS (As := [.long (g_mix (g_mix (g_mix (0 : Int64) x2) x3) (1 : Int64)), .long (σ.2 9 e1)]) (rest := [.int (((2 : Int32) * (nI e1)) + (1 : Int32)), .ref (α 22)]) ⟨hx, hb, hml, hown, hts⟩ (c_M_mix l (g_mix (g_mix (g_mix (0 : Int64) x2) x3) (1 : Int64)) (σ.2 9 e1)) (cwS 2 hts (xa_S xw1091 xw1092 xw11 xw1093) rfl rfl rfl (by decide +kernel) ⟨Nat.le_of_ble_eq_true rfl, Nat.le_of_ble_eq_true rfl⟩) preEq rfl rfl hl.1 rfl (lv_room (Nat.le_of_ble_eq_true rfl)) d_M_agree_84 ⟨Nat.le_of_ble_eq_true rfl, Nat.le_of_ble_eq_true rfl⟩) (fun r_ e_ => ?_)
      subst e_
      refine sm_paJ (L := 4) (n := ((2 * e1) + 1)) (x := (g_mix (g_mix (g_mix (g_mix (0 : Int64) x2) x3) (1 : Int64)) (σ.2 9 e1))) hx hb hK hP 22 21 rfl rfl hD hS (xb_in (xb_na (xb_nm (xb_lit (x := (2 : Int32)) 2 rfl) (xb_lit e1 rfl)) (xb_lit (x := (1 : Int32)) 1 rfl)) (by omega) (by decide)) (xb_cl (xb_na (xb_nm (xb_lit (x := (2 : Int32)) 2 rfl) (xb_lit e1 rfl)) (xb_lit (x := (1 : Int32)) 1 rfl)) (by omega)) sm_s_22 d_M_agree_87 (fun H locs hP hS => ?_)
      refine lv_aload_n hx hb d_M_agree_88 rfl (lv_at hl 3 rfl) ?_
      refine sm_g (v := .ref (α 23)) hx hb ht hown hK hP 25 (by decide) (ht _ xw977) (fun _ h_ => h_) rfl d_M_agree_89 ?_
      refine lv_iload hx hb d_M_agree_92 (lv_at hl 1 rfl) ?_
      refine lv_lload hx hb d_M_agree_94 (lv_at hl 0 rfl) ?_
      refine lv_iload hx hb d_M_agree_96 (lv_at hl 2 rfl) ?_
      refine lv_iconst (v := 3) hx hb d_M_agree_98 (by decide) ?_
      refine lv_iadd hx hb d_M_agree_99 ?_
      refine xb_ti (y := (3 : Int32)) (by decide) ?_
      refine lv_i2l (v := (3 : Int64)) hx hb d_M_agree_100 (by decide) ?_
      refine vp_callSl (W.runS (As := [.long (g_mix (g_mix (0 : Int64) x2) x3), .long (3 : Int64)]) (rest := [.int (((2 : Int32) * (nI e1)) + (1 : Int32)), .ref (α 23)]) ⟨hx, hb, hml, hown, hts⟩ (c_M_mix l (g_mix (g_mix (0 : Int64) x2) x3) (3 : Int64)) (cwS 2 hts (xa_S xw1091 xw1092 xw11 xw1093) rfl rfl rfl (by decide +kernel) ⟨Nat.le_of_ble_eq_true rfl, Nat.le_of_ble_eq_true rfl⟩) preEq rfl rfl hl.1 rfl (lv_room (Nat.le_of_ble_eq_true rfl)) d_M_agree_101 ⟨Nat.le_of_ble_eq_true rfl, Nat.le_of_ble_eq_true rfl⟩) (fun r_ e_ => ?_)
      subst e_
      refine lv_aload_n hx hb d_M_agree_104 rfl (lv_at hl 3 rfl) ?_
      refine sm_g (v := .ref (α 9)) hx hb ht hown hK hP 11 (by decide) (ht _ xw963) (fun _ h_ => h_) rfl d_M_agree_105 ?_
      refine lv_iload_n hx hb d_M_agree_108 rfl (lv_at hl 4 rfl) ?_
      refine sm_gaJ (L := 2) (n := e1) (v := (σ.2 9 e1)) hx hb hK hP 9 8 rfl rfl (xb_in (xb_lit e1 rfl) (by omega) (by decide)) (xb_cl (xb_lit e1 rfl) (by omega)) (xb_l_nk (by decide)) d_M_agree_109 ?_
      refine vp_callSl (W.runS (As := [.long (g_mix (g_mix (g_mix (0 : Int64) x2) x3) (3 : Int64)), .long (σ.2 9 e1)]) (rest := [.int (((2 : Int32) * (nI e1)) + (1 : Int32)), .ref (α 23)]) ⟨hx, hb, hml, hown, hts⟩ (c_M_mix l (g_mix (g_mix (g_mix (0 : Int64) x2) x3) (3 : Int64)) (σ.2 9 e1)) (cwS 2 hts (xa_S xw1091 xw1092 xw11 xw1093) rfl rfl rfl (by decide +kernel) ⟨Nat.le_of_ble_eq_true rfl, Nat.le_of_ble_eq_true rfl⟩) preEq rfl rfl hl.1 rfl (lv_room (Nat.le_of_ble_eq_true rfl)) d_M_agree_110 ⟨Nat.le_of_ble_eq_true rfl, Nat.le_of_ble_eq_true rfl⟩) (fun r_ e_ => ?_)
      subst e_
      refine sm_paJ (L := 4) (n := ((2 * e1) + 1)) (x := (g_mix (g_mix (g_mix (g_mix (0 : Int64) x2) x3) (3 : Int64)) (σ.2 9 e1))) hx hb hK hP 23 22 rfl rfl hD hS (xb_in (xb_na (xb_nm (xb_lit (x := (2 : Int32)) 2 rfl) (xb_lit e1 rfl)) (xb_lit (x := (1 : Int32)) 1 rfl)) (by omega) (by decide)) (xb_cl (xb_na (xb_nm (xb_lit (x := (2 : Int32)) 2 rfl) (xb_lit e1 rfl)) (xb_lit (x := (1 : Int32)) 1 rfl)) (by omega)) sm_s_23 d_M_agree_113 (fun H locs hP hS => ?_)
      refine lv_iinc (v := (1 : Int32)) (k := 2) (lv' := [(6, .int (1 : Int32)), (8, .long (g_mix (g_mix (0 : Int64) x2) x3)), (7, .int (((2 : Int32) * (nI e1)) + (1 : Int32))), (0, .ref (α 0)), (1, .int (nI e1)), (2, .long x2), (4, .long x3)]) hx hb d_M_agree_114 hl rfl (by decide) (by decide) rfl (fun ls hl => ?_)
      refine lv_goto (tgt := 27) hx hb d_M_agree_117 (by decide) ?_
      refine lv_iload hx hb d_M_agree_27 (lv_at hl 0 rfl) ?_
      refine lv_iconst (v := 2) hx hb d_M_agree_29 (by decide) ?_
      refine lv_icmp_ge (tgt := 120) hx hb d_M_agree_30 (by decide) (fun h_ => absurd h_ (by decide)) (fun _ => ?_)
      refine lv_iconst (v := 2) hx hb d_M_agree_33 (by decide) ?_
      refine lv_iload_n hx hb d_M_agree_34 rfl (lv_at hl 4 rfl) ?_
      refine lv_imul hx hb d_M_agree_35 ?_
      refine lv_iload hx hb d_M_agree_36 (lv_at hl 0 rfl) ?_
      refine lv_iload_n hx hb d_M_agree_38 rfl (lv_at hl 4 rfl) ?_
      refine lv_icmp_ne (tgt := 46) hx hb d_M_agree_39 (by decide) (fun c3 => ?_) (fun c3 => ?_)
      · skip
        have nc3 := mt (xb_eqN (xb_lit (x := (1 : Int32)) 1 rfl) (xb_lit e1 rfl) (by omega) (by omega)).mpr c3
        refine lv_iconst (v := 1) hx hb d_M_agree_46 (by decide) ?_
        refine lv_iadd hx hb d_M_agree_47 ?_
        refine lv_istore (lv' := [(7, .int (((2 : Int32) * (nI e1)) + (1 : Int32))), (6, .int (1 : Int32)), (8, .long (g_mix (g_mix (0 : Int64) x2) x3)), (0, .ref (α 0)), (1, .int (nI e1)), (2, .long x2), (4, .long x3)]) hx hb d_M_agree_48 hl (by decide) rfl (fun ls hl => ?_)
        refine lv_lconst (v := 0) hx hb d_M_agree_50 (by decide) ?_
        refine lv_lload_n hx hb d_M_agree_51 rfl (lv_at hl 5 rfl) ?_
        refine vp_callSl (W.runS (As := [.long (0 : Int64), .long x2]) (rest := []) ⟨hx, hb, hml, hown, hts⟩ (c_M_mix l (0 : Int64) x2) (cwS 2 hts (xa_S xw1091 xw1092 xw11 xw1093) rfl rfl rfl (by decide +kernel) ⟨Nat.le_of_ble_eq_true rfl, Nat.le_of_ble_eq_true rfl⟩) preEq rfl rfl hl.1 rfl (lv_room (Nat.le_of_ble_eq_true rfl)) d_M_agree_52 ⟨Nat.le_of_ble_eq_true rfl, Nat.le_of_ble_eq_true rfl⟩) (fun r_ e_ => ?_)
        subst e_
        refine lv_lload hx hb d_M_agree_55 (lv_at hl 6 rfl) ?_
        refine vp_callSl (W.runS (As := [.long (g_mix (0 : Int64) x2), .long x3]) (rest := []) ⟨hx, hb, hml, hown, hts⟩ (c_M_mix l (g_mix (0 : Int64) x2) x3) (cwS 2 hts (xa_S xw1091 xw1092 xw11 xw1093) rfl rfl rfl (by decide +kernel) ⟨Nat.le_of_ble_eq_true rfl, Nat.le_of_ble_eq_true rfl⟩) preEq rfl rfl hl.1 rfl (lv_room (Nat.le_of_ble_eq_true rfl)) d_M_agree_57 ⟨Nat.le_of_ble_eq_true rfl, Nat.le_of_ble_eq_true rfl⟩) (fun r_ e_ => ?_)
        subst e_
        refine lv_lstore (lv' := [(8, .long (g_mix (g_mix (0 : Int64) x2) x3)), (7, .int (((2 : Int32) * (nI e1)) + (1 : Int32))), (6, .int (1 : Int32)), (0, .ref (α 0)), (1, .int (nI e1)), (2, .long x2), (4, .long x3)]) hx hb d_M_agree_60 hl (by decide) rfl (fun ls hl => ?_)
        refine lv_aload_n hx hb d_M_agree_62 rfl (lv_at hl 3 rfl) ?_
        refine sm_g (v := .ref (α 22)) hx hb ht hown hK hP 24 (by decide) (ht _ xw976) (fun _ h_ => h_) rfl d_M_agree_63 ?_
        refine lv_iload hx hb d_M_agree_66 (lv_at hl 1 rfl) ?_
        refine lv_lload hx hb d_M_agree_68 (lv_at hl 0 rfl) ?_
        refine lv_iload hx hb d_M_agree_70 (lv_at hl 2 rfl) ?_
        refine lv_iconst (v := 1) hx hb d_M_agree_72 (by decide) ?_
        refine lv_iadd hx hb d_M_agree_73 ?_
        refine xb_ti (y := (2 : Int32)) (by decide) ?_
        refine lv_i2l (v := (2 : Int64)) hx hb d_M_agree_74 (by decide) ?_
        refine vp_callSl (W.runS (As := [.long (g_mix (g_mix (0 : Int64) x2) x3), .long (2 : Int64)]) (rest := [.int (((2 : Int32) * (nI e1)) + (1 : Int32)), .ref (α 22)]) ⟨hx, hb, hml, hown, hts⟩ (c_M_mix l (g_mix (g_mix (0 : Int64) x2) x3) (2 : Int64)) (cwS 2 hts (xa_S xw1091 xw1092 xw11 xw1093) rfl rfl rfl (by decide +kernel) ⟨Nat.le_of_ble_eq_true rfl, Nat.le_of_ble_eq_true rfl⟩) preEq rfl rfl hl.1 rfl (lv_room (Nat.le_of_ble_eq_true rfl)) d_M_agree_75 ⟨Nat.le_of_ble_eq_true rfl, Nat.le_of_ble_eq_true rfl⟩) (fun r_ e_ => ?_)
        subst e_
        refine lv_aload_n hx hb d_M_agree_78 rfl (lv_at hl 3 rfl) ?_
        refine sm_g (v := .ref (α 9)) hx hb ht hown hK hP 11 (by decide) (ht _ xw963) (fun _ h_ => h_) rfl d_M_agree_79 ?_
        refine lv_iload_n hx hb d_M_agree_82 rfl (lv_at hl 4 rfl) ?_
        refine sm_gaJ (L := 2) (n := e1) (v := (σ.2 9 e1)) hx hb hK hP 9 8 rfl rfl (xb_in (xb_lit e1 rfl) (by omega) (by decide)) (xb_cl (xb_lit e1 rfl) (by omega)) (((xb_l_nk (by decide))).trans ((xb_l_nk (by decide)))) d_M_agree_83 ?_
        refine vp_callSl (W.runS (As := [.long (g_mix (g_mix (g_mix (0 : Int64) x2) x3) (2 : Int64)), .long (σ.2 9 e1)]) (rest := [.int (((2 : Int32) * (nI e1)) + (1 : Int32)), .ref (α 22)]) ⟨hx, hb, hml, hown, hts⟩ (c_M_mix l (g_mix (g_mix (g_mix (0 : Int64) x2) x3) (2 : Int64)) (σ.2 9 e1)) (cwS 2 hts (xa_S xw1091 xw1092 xw11 xw1093) rfl rfl rfl (by decide +kernel) ⟨Nat.le_of_ble_eq_true rfl, Nat.le_of_ble_eq_true rfl⟩) preEq rfl rfl hl.1 rfl (lv_room (Nat.le_of_ble_eq_true rfl)) d_M_agree_84 ⟨Nat.le_of_ble_eq_true rfl, Nat.le_of_ble_eq_true rfl⟩) (fun r_ e_ => ?_)
        subst e_
        refine sm_paJ (L := 4) (n := ((2 * e1) + 1)) (x := (g_mix (g_mix (g_mix (g_mix (0 : Int64) x2) x3) (2 : Int64)) (σ.2 9 e1))) hx hb hK hP 22 21 rfl rfl hD hS (xb_in (xb_na (xb_nm (xb_lit (x := (2 : Int32)) 2 rfl) (xb_lit e1 rfl)) (xb_lit (x := (1 : Int32)) 1 rfl)) (by omega) (by decide)) (xb_cl (xb_na (xb_nm (xb_lit (x := (2 : Int32)) 2 rfl) (xb_lit e1 rfl)) (xb_lit (x := (1 : Int32)) 1 rfl)) (by omega)) sm_s_22 d_M_agree_87 (fun H locs hP hS => ?_)
        refine lv_aload_n hx hb d_M_agree_88 rfl (lv_at hl 3 rfl) ?_
        refine sm_g (v := .ref (α 23)) hx hb ht hown hK hP 25 (by decide) (ht _ xw977) (fun _ h_ => h_) rfl d_M_agree_89 ?_
        refine lv_iload hx hb d_M_agree_92 (lv_at hl 1 rfl) ?_
        refine lv_lload hx hb d_M_agree_94 (lv_at hl 0 rfl) ?_
        refine lv_iload hx hb d_M_agree_96 (lv_at hl 2 rfl) ?_
        refine lv_iconst (v := 3) hx hb d_M_agree_98 (by decide) ?_
        refine lv_iadd hx hb d_M_agree_99 ?_
        refine xb_ti (y := (4 : Int32)) (by decide) ?_
        refine lv_i2l (v := (4 : Int64)) hx hb d_M_agree_100 (by decide) ?_
        refine vp_callSl (W.runS (As := [.long (g_mix (g_mix (0 : Int64) x2) x3), .long (4 : Int64)]) (rest := [.int (((2 : Int32) * (nI e1)) + (1 : Int32)), .ref (α 23)]) ⟨hx, hb, hml, hown, hts⟩ (c_M_mix l (g_mix (g_mix (0 : Int64) x2) x3) (4 : Int64)) (cwS 2 hts (xa_S xw1091 xw1092 xw11 xw1093) rfl rfl rfl (by decide +kernel) ⟨Nat.le_of_ble_eq_true rfl, Nat.le_of_ble_eq_true rfl⟩) preEq rfl rfl hl.1 rfl (lv_room (Nat.le_of_ble_eq_true rfl)) d_M_agree_101 ⟨Nat.le_of_ble_eq_true rfl, Nat.le_of_ble_eq_true rfl⟩) (fun r_ e_ => ?_)
        subst e_
        refine lv_aload_n hx hb d_M_agree_104 rfl (lv_at hl 3 rfl) ?_
        refine sm_g (v := .ref (α 9)) hx hb ht hown hK hP 11 (by decide) (ht _ xw963) (fun _ h_ => h_) rfl d_M_agree_105 ?_
        refine lv_iload_n hx hb d_M_agree_108 rfl (lv_at hl 4 rfl) ?_
        refine sm_gaJ (L := 2) (n := e1) (v := (σ.2 9 e1)) hx hb hK hP 9 8 rfl rfl (xb_in (xb_lit e1 rfl) (by omega) (by decide)) (xb_cl (xb_lit e1 rfl) (by omega)) (((xb_l_nk (by decide))).trans (((xb_l_nk (by decide))).trans ((xb_l_nk (by decide))))) d_M_agree_109 ?_
        refine vp_callSl (W.runS (As := [.long (g_mix (g_mix (g_mix (0 : Int64) x2) x3) (4 : Int64)), .long (σ.2 9 e1)]) (rest := [.int (((2 : Int32) * (nI e1)) + (1 : Int32)), .ref (α 23)]) ⟨hx, hb, hml, hown, hts⟩ (c_M_mix l (g_mix (g_mix (g_mix (0 : Int64) x2) x3) (4 : Int64)) (σ.2 9 e1)) (cwS 2 hts (xa_S xw1091 xw1092 xw11 xw1093) rfl rfl rfl (by decide +kernel) ⟨Nat.le_of_ble_eq_true rfl, Nat.le_of_ble_eq_true rfl⟩) preEq rfl rfl hl.1 rfl (lv_room (Nat.le_of_ble_eq_true rfl)) d_M_agree_110 ⟨Nat.le_of_ble_eq_true rfl, Nat.le_of_ble_eq_true rfl⟩) (fun r_ e_ => ?_)
        subst e_
        refine sm_paJ (L := 4) (n := ((2 * e1) + 1)) (x := (g_mix (g_mix (g_mix (g_mix (0 : Int64) x2) x3) (4 : Int64)) (σ.2 9 e1))) hx hb hK hP 23 22 rfl rfl hD hS (xb_in (xb_na (xb_nm (xb_lit (x := (2 : Int32)) 2 rfl) (xb_lit e1 rfl)) (xb_lit (x := (1 : Int32)) 1 rfl)) (by omega) (by decide)) (xb_cl (xb_na (xb_nm (xb_lit (x := (2 : Int32)) 2 rfl) (xb_lit e1 rfl)) (xb_lit (x := (1 : Int32)) 1 rfl)) (by omega)) sm_s_23 d_M_agree_113 (fun H locs hP hS => ?_)
        refine lv_iinc (v := (2 : Int32)) (k := 2) (lv' := [(6, .int (2 : Int32)), (8, .long (g_mix (g_mix (0 : Int64) x2) x3)), (7, .int (((2 : Int32) * (nI e1)) + (1 : Int32))), (0, .ref (α 0)), (1, .int (nI e1)), (2, .long x2), (4, .long x3)]) hx hb d_M_agree_114 hl rfl (by decide) (by decide) rfl (fun ls hl => ?_)
        refine lv_goto (tgt := 27) hx hb d_M_agree_117 (by decide) ?_
        refine lv_iload hx hb d_M_agree_27 (lv_at hl 0 rfl) ?_
        refine lv_iconst (v := 2) hx hb d_M_agree_29 (by decide) ?_
        refine lv_icmp_ge (tgt := 120) hx hb d_M_agree_30 (by decide) (fun _ => ?_) (fun h_ => absurd h_ (by decide))
        exact W.vret hx hb hr (fun t ht_ hW => ⟨⟨(xb_sl (xb_sl (xb_sl (xb_sl σ 22 ((2 * e1) + 1) (g_mix (g_mix (g_mix (g_mix (0 : Int64) x2) x3) (1 : Int64)) (σ.2 9 e1))) 23 ((2 * e1) + 1) (g_mix (g_mix (g_mix (g_mix (0 : Int64) x2) x3) (3 : Int64)) (σ.2 9 e1))) 22 ((2 * e1) + 1) (g_mix (g_mix (g_mix (g_mix (0 : Int64) x2) x3) (2 : Int64)) (σ.2 9 e1))) 23 ((2 * e1) + 1) (g_mix (g_mix (g_mix (g_mix (0 : Int64) x2) x3) (4 : Int64)) (σ.2 9 e1))), rfl, ((if_neg c1).trans ((if_neg c2).trans ((if_neg c3)))).symm, by rw [sm_B, ht_]; exact hP⟩, hS.F ht_⟩) hS.2.2 d_M_agree_120
      · skip
        have nc3 := (xb_eqN (xb_lit (x := (1 : Int32)) 1 rfl) (xb_lit e1 rfl) (by omega) (by omega)).mp c3
        refine lv_iconst (v := 0) hx hb d_M_agree_42 (by decide) ?_
        refine lv_goto (tgt := 47) hx hb d_M_agree_43 (by decide) ?_
        refine lv_iadd hx hb d_M_agree_47 ?_
        refine lv_istore (lv' := [(7, .int (((2 : Int32) * (nI e1)) + (0 : Int32))), (6, .int (1 : Int32)), (8, .long (g_mix (g_mix (0 : Int64) x2) x3)), (0, .ref (α 0)), (1, .int (nI e1)), (2, .long x2), (4, .long x3)]) hx hb d_M_agree_48 hl (by decide) rfl (fun ls hl => ?_)
        refine lv_lconst (v := 0) hx hb d_M_agree_50 (by decide) ?_
        refine lv_lload_n hx hb d_M_agree_51 rfl (lv_at hl 5 rfl) ?_
        refine vp_callSl (W.runS (As := [.long (0 : Int64), .long x2]) (rest := []) ⟨hx, hb, hml, hown, hts⟩ (c_M_mix l (0 : Int64) x2) (cwS 2 hts (xa_S xw1091 xw1092 xw11 xw1093) rfl rfl rfl (by decide +kernel) ⟨Nat.le_of_ble_eq_true rfl, Nat.le_of_ble_eq_true rfl⟩) preEq rfl rfl hl.1 rfl (lv_room (Nat.le_of_ble_eq_true rfl)) d_M_agree_52 ⟨Nat.le_of_ble_eq_true rfl, Nat.le_of_ble_eq_true rfl⟩) (fun r_ e_ => ?_)
        subst e_
        refine lv_lload hx hb d_M_agree_55 (lv_at hl 6 rfl) ?_
        refine vp_callSl (W.runS (As := [.long (g_mix (0 : Int64) x2), .long x3]) (rest := []) ⟨hx, hb, hml, hown, hts⟩ (c_M_mix l (g_mix (0 : Int64) x2) x3) (cwS 2 hts (xa_S xw1091 xw1092 xw11 xw1093) rfl rfl rfl (by decide +kernel) ⟨Nat.le_of_ble_eq_true rfl, Nat.le_of_ble_eq_true rfl⟩) preEq rfl rfl hl.1 rfl (lv_room (Nat.le_of_ble_eq_true rfl)) d_M_agree_57 ⟨Nat.le_of_ble_eq_true rfl, Nat.le_of_ble_eq_true rfl⟩) (fun r_ e_ => ?_)
        subst e_
        refine lv_lstore (lv' := [(8, .long (g_mix (g_mix (0 : Int64) x2) x3)), (7, .int (((2 : Int32) * (nI e1)) + (0 : Int32))), (6, .int (1 : Int32)), (0, .ref (α 0)), (1, .int (nI e1)), (2, .long x2), (4, .long x3)]) hx hb d_M_agree_60 hl (by decide) rfl (fun ls hl => ?_)
        refine lv_aload_n hx hb d_M_agree_62 rfl (lv_at hl 3 rfl) ?_
        refine sm_g (v := .ref (α 22)) hx hb ht hown hK hP 24 (by decide) (ht _ xw976) (fun _ h_ => h_) rfl d_M_agree_63 ?_
        refine lv_iload hx hb d_M_agree_66 (lv_at hl 1 rfl) ?_
        refine lv_lload hx hb d_M_agree_68 (lv_at hl 0 rfl) ?_
        refine lv_iload hx hb d_M_agree_70 (lv_at hl 2 rfl) ?_
        refine lv_iconst (v := 1) hx hb d_M_agree_72 (by decide) ?_
        refine lv_iadd hx hb d_M_agree_73 ?_
        refine xb_ti (y := (2 : Int32)) (by decide) ?_
        refine lv_i2l (v := (2 : Int64)) hx hb d_M_agree_74 (by decide) ?_
        refine vp_callSl (W.runS (As := [.long (g_mix (g_mix (0 : Int64) x2) x3), .long (2 : Int64)]) (rest := [.int (((2 : Int32) * (nI e1)) + (0 : Int32)), .ref (α 22)]) ⟨hx, hb, hml, hown, hts⟩ (c_M_mix l (g_mix (g_mix (0 : Int64) x2) x3) (2 : Int64)) (cwS 2 hts (xa_S xw1091 xw1092 xw11 xw1093) rfl rfl rfl (by decide +kernel) ⟨Nat.le_of_ble_eq_true rfl, Nat.le_of_ble_eq_true rfl⟩) preEq rfl rfl hl.1 rfl (lv_room (Nat.le_of_ble_eq_true rfl)) d_M_agree_75 ⟨Nat.le_of_ble_eq_true rfl, Nat.le_of_ble_eq_true rfl⟩) (fun r_ e_ => ?_)
        subst e_
        refine lv_aload_n hx hb d_M_agree_78 rfl (lv_at hl 3 rfl) ?_
        refine sm_g (v := .ref (α 9)) hx hb ht hown hK hP 11 (by decide) (ht _ xw963) (fun _ h_ => h_) rfl d_M_agree_79 ?_
        refine lv_iload_n hx hb d_M_agree_82 rfl (lv_at hl 4 rfl) ?_
        refine sm_gaJ (L := 2) (n := e1) (v := (σ.2 9 e1)) hx hb hK hP 9 8 rfl rfl (xb_in (xb_lit e1 rfl) (by omega) (by decide)) (xb_cl (xb_lit e1 rfl) (by omega)) (((xb_l_nk (by decide))).trans ((xb_l_nk (by decide)))) d_M_agree_83 ?_
        refine vp_callSl (W.runS (As := [.long (g_mix (g_mix (g_mix (0 : Int64) x2) x3) (2 : Int64)), .long (σ.2 9 e1)]) (rest := [.int (((2 : Int32) * (nI e1)) + (0 : Int32)), .ref (α 22)]) ⟨hx, hb, hml, hown, hts⟩ (c_M_mix l (g_mix (g_mix (g_mix (0 : Int64) x2) x3) (2 : Int64)) (σ.2 9 e1)) (cwS 2 hts (xa_S xw1091 xw1092 xw11 xw1093) rfl rfl rfl (by decide +kernel) ⟨Nat.le_of_ble_eq_true rfl, Nat.le_of_ble_eq_true rfl⟩) preEq rfl rfl hl.1 rfl (lv_room (Nat.le_of_ble_eq_true rfl)) d_M_agree_84 ⟨Nat.le_of_ble_eq_true rfl, Nat.le_of_ble_eq_true rfl⟩) (fun r_ e_ => ?_)
        subst e_
        refine sm_paJ (L := 4) (n := ((2 * e1) + 0)) (x := (g_mix (g_mix (g_mix (g_mix (0 : Int64) x2) x3) (2 : Int64)) (σ.2 9 e1))) hx hb hK hP 22 21 rfl rfl hD hS (xb_in (xb_na (xb_nm (xb_lit (x := (2 : Int32)) 2 rfl) (xb_lit e1 rfl)) (xb_lit (x := (0 : Int32)) 0 rfl)) (by omega) (by decide)) (xb_cl (xb_na (xb_nm (xb_lit (x := (2 : Int32)) 2 rfl) (xb_lit e1 rfl)) (xb_lit (x := (0 : Int32)) 0 rfl)) (by omega)) sm_s_22 d_M_agree_87 (fun H locs hP hS => ?_)
        refine lv_aload_n hx hb d_M_agree_88 rfl (lv_at hl 3 rfl) ?_
        refine sm_g (v := .ref (α 23)) hx hb ht hown hK hP 25 (by decide) (ht _ xw977) (fun _ h_ => h_) rfl d_M_agree_89 ?_
        refine lv_iload hx hb d_M_agree_92 (lv_at hl 1 rfl) ?_
        refine lv_lload hx hb d_M_agree_94 (lv_at hl 0 rfl) ?_
        refine lv_iload hx hb d_M_agree_96 (lv_at hl 2 rfl) ?_
        refine lv_iconst (v := 3) hx hb d_M_agree_98 (by decide) ?_
        refine lv_iadd hx hb d_M_agree_99 ?_
        refine xb_ti (y := (4 : Int32)) (by decide) ?_
        refine lv_i2l (v := (4 : Int64)) hx hb d_M_agree_100 (by decide) ?_
        refine vp_callSl (W.runS (As := [.long (g_mix (g_mix (0 : Int64) x2) x3), .long (4 : Int64)]) (rest := [.int (((2 : Int32) * (nI e1)) + (0 : Int32)), .ref (α 23)]) ⟨hx, hb, hml, hown, hts⟩ (c_M_mix l (g_mix (g_mix (0 : Int64) x2) x3) (4 : Int64)) (cwS 2 hts (xa_S xw1091 xw1092 xw11 xw1093) rfl rfl rfl (by decide +kernel) ⟨Nat.le_of_ble_eq_true rfl, Nat.le_of_ble_eq_true rfl⟩) preEq rfl rfl hl.1 rfl (lv_room (Nat.le_of_ble_eq_true rfl)) d_M_agree_101 ⟨Nat.le_of_ble_eq_true rfl, Nat.le_of_ble_eq_true rfl⟩) (fun r_ e_ => ?_)
        subst e_
        refine lv_aload_n hx hb d_M_agree_104 rfl (lv_at hl 3 rfl) ?_
        refine sm_g (v := .ref (α 9)) hx hb ht hown hK hP 11 (by decide) (ht _ xw963) (fun _ h_ => h_) rfl d_M_agree_105 ?_
        refine lv_iload_n hx hb d_M_agree_108 rfl (lv_at hl 4 rfl) ?_
        refine sm_gaJ (L := 2) (n := e1) (v := (σ.2 9 e1)) hx hb hK hP 9 8 rfl rfl (xb_in (xb_lit e1 rfl) (by omega) (by decide)) (xb_cl (xb_lit e1 rfl) (by omega)) (((xb_l_nk (by decide))).trans (((xb_l_nk (by decide))).trans ((xb_l_nk (by decide))))) d_M_agree_109 ?_
        refine vp_callSl (W.runS (As := [.long (g_mix (g_mix (g_mix (0 : Int64) x2) x3) (4 : Int64)), .long (σ.2 9 e1)]) (rest := [.int (((2 : Int32) * (nI e1)) + (0 : Int32)), .ref (α 23)]) ⟨hx, hb, hml, hown, hts⟩ (c_M_mix l (g_mix (g_mix (g_mix (0 : Int64) x2) x3) (4 : Int64)) (σ.2 9 e1)) (cwS 2 hts (xa_S xw1091 xw1092 xw11 xw1093) rfl rfl rfl (by decide +kernel) ⟨Nat.le_of_ble_eq_true rfl, Nat.le_of_ble_eq_true rfl⟩) preEq rfl rfl hl.1 rfl (lv_room (Nat.le_of_ble_eq_true rfl)) d_M_agree_110 ⟨Nat.le_of_ble_eq_true rfl, Nat.le_of_ble_eq_true rfl⟩) (fun r_ e_ => ?_)
        subst e_
        refine sm_paJ (L := 4) (n := ((2 * e1) + 0)) (x := (g_mix (g_mix (g_mix (g_mix (0 : Int64) x2) x3) (4 : Int64)) (σ.2 9 e1))) hx hb hK hP 23 22 rfl rfl hD hS (xb_in (xb_na (xb_nm (xb_lit (x := (2 : Int32)) 2 rfl) (xb_lit e1 rfl)) (xb_lit (x := (0 : Int32)) 0 rfl)) (by omega) (by decide)) (xb_cl (xb_na (xb_nm (xb_lit (x := (2 : Int32)) 2 rfl) (xb_lit e1 rfl)) (xb_lit (x := (0 : Int32)) 0 rfl)) (by omega)) sm_s_23 d_M_agree_113 (fun H locs hP hS => ?_)
        refine lv_iinc (v := (2 : Int32)) (k := 2) (lv' := [(6, .int (2 : Int32)), (8, .long (g_mix (g_mix (0 : Int64) x2) x3)), (7, .int (((2 : Int32) * (nI e1)) + (0 : Int32))), (0, .ref (α 0)), (1, .int (nI e1)), (2, .long x2), (4, .long x3)]) hx hb d_M_agree_114 hl rfl (by decide) (by decide) rfl (fun ls hl => ?_)
        refine lv_goto (tgt := 27) hx hb d_M_agree_117 (by decide) ?_
        refine lv_iload hx hb d_M_agree_27 (lv_at hl 0 rfl) ?_
        refine lv_iconst (v := 2) hx hb d_M_agree_29 (by decide) ?_
        refine lv_icmp_ge (tgt := 120) hx hb d_M_agree_30 (by decide) (fun _ => ?_) (fun h_ => absurd h_ (by decide))
        exact W.vret hx hb hr (fun t ht_ hW => ⟨⟨(xb_sl (xb_sl (xb_sl (xb_sl σ 22 ((2 * e1) + 1) (g_mix (g_mix (g_mix (g_mix (0 : Int64) x2) x3) (1 : Int64)) (σ.2 9 e1))) 23 ((2 * e1) + 1) (g_mix (g_mix (g_mix (g_mix (0 : Int64) x2) x3) (3 : Int64)) (σ.2 9 e1))) 22 ((2 * e1) + 0) (g_mix (g_mix (g_mix (g_mix (0 : Int64) x2) x3) (2 : Int64)) (σ.2 9 e1))) 23 ((2 * e1) + 0) (g_mix (g_mix (g_mix (g_mix (0 : Int64) x2) x3) (4 : Int64)) (σ.2 9 e1))), rfl, ((if_neg c1).trans ((if_neg c2).trans ((if_pos c3)))).symm, by rw [sm_B, ht_]; exact hP⟩, hS.F ht_⟩) hS.2.2 d_M_agree_120
    · skip
      have nc2 := (xb_eqN (xb_lit (x := (0 : Int32)) 0 rfl) (xb_lit e1 rfl) (by omega) (by omega)).mp c2
      refine lv_iconst (v := 0) hx hb d_M_agree_42 (by decide) ?_
      refine lv_goto (tgt := 47) hx hb d_M_agree_43 (by decide) ?_
      refine lv_iadd hx hb d_M_agree_47 ?_
      refine lv_istore (lv' := [(7, .int (((2 : Int32) * (nI e1)) + (0 : Int32))), (6, .int (0 : Int32)), (0, .ref (α 0)), (1, .int (nI e1)), (2, .long x2), (4, .long x3)]) hx hb d_M_agree_48 hl (by decide) rfl (fun ls hl => ?_)
      refine lv_lconst (v := 0) hx hb d_M_agree_50 (by decide) ?_
      refine lv_lload_n hx hb d_M_agree_51 rfl (lv_at hl 4 rfl) ?_
      refine vp_callSl (W.runS (As := [.long (0 : Int64), .long x2]) (rest := []) ⟨hx, hb, hml, hown, hts⟩ (c_M_mix l (0 : Int64) x2) (cwS 2 hts (xa_S xw1091 xw1092 xw11 xw1093) rfl rfl rfl (by decide +kernel) ⟨Nat.le_of_ble_eq_true rfl, Nat.le_of_ble_eq_true rfl⟩) preEq rfl rfl hl.1 rfl (lv_room (Nat.le_of_ble_eq_true rfl)) d_M_agree_52 ⟨Nat.le_of_ble_eq_true rfl, Nat.le_of_ble_eq_true rfl⟩) (fun r_ e_ => ?_)
      subst e_
      refine lv_lload hx hb d_M_agree_55 (lv_at hl 5 rfl) ?_
      refine vp_callSl (W.runS (As := [.long (g_mix (0 : Int64) x2), .long x3]) (rest := []) ⟨hx, hb, hml, hown, hts⟩ (c_M_mix l (g_mix (0 : Int64) x2) x3) (cwS 2 hts (xa_S xw1091 xw1092 xw11 xw1093) rfl rfl rfl (by decide +kernel) ⟨Nat.le_of_ble_eq_true rfl, Nat.le_of_ble_eq_true rfl⟩) preEq rfl rfl hl.1 rfl (lv_room (Nat.le_of_ble_eq_true rfl)) d_M_agree_57 ⟨Nat.le_of_ble_eq_true rfl, Nat.le_of_ble_eq_true rfl⟩) (fun r_ e_ => ?_)
      subst e_
      refine lv_lstore (lv' := [(8, .long (g_mix (g_mix (0 : Int64) x2) x3)), (7, .int (((2 : Int32) * (nI e1)) + (0 : Int32))), (6, .int (0 : Int32)), (0, .ref (α 0)), (1, .int (nI e1)), (2, .long x2), (4, .long x3)]) hx hb d_M_agree_60 hl (by decide) rfl (fun ls hl => ?_)
      refine lv_aload_n hx hb d_M_agree_62 rfl (lv_at hl 3 rfl) ?_
      refine sm_g (v := .ref (α 22)) hx hb ht hown hK hP 24 (by decide) (ht _ xw976) (fun _ h_ => h_) rfl d_M_agree_63 ?_
      refine lv_iload hx hb d_M_agree_66 (lv_at hl 1 rfl) ?_
      refine lv_lload hx hb d_M_agree_68 (lv_at hl 0 rfl) ?_
      refine lv_iload hx hb d_M_agree_70 (lv_at hl 2 rfl) ?_
      refine lv_iconst (v := 1) hx hb d_M_agree_72 (by decide) ?_
      refine lv_iadd hx hb d_M_agree_73 ?_
      refine xb_ti (y := (1 : Int32)) (by decide) ?_
      refine lv_i2l (v := (1 : Int64)) hx hb d_M_agree_74 (by decide) ?_
      refine vp_callSl (W.runS (As := [.long (g_mix (g_mix (0 : Int64) x2) x3), .long (1 : Int64)]) (rest := [.int (((2 : Int32) * (nI e1)) + (0 : Int32)), .ref (α 22)]) ⟨hx, hb, hml, hown, hts⟩ (c_M_mix l (g_mix (g_mix (0 : Int64) x2) x3) (1 : Int64)) (cwS 2 hts (xa_S xw1091 xw1092 xw11 xw1093) rfl rfl rfl (by decide +kernel) ⟨Nat.le_of_ble_eq_true rfl, Nat.le_of_ble_eq_true rfl⟩) preEq rfl rfl hl.1 rfl (lv_room (Nat.le_of_ble_eq_true rfl)) d_M_agree_75 ⟨Nat.le_of_ble_eq_true rfl, Nat.le_of_ble_eq_true rfl⟩) (fun r_ e_ => ?_)
      subst e_
      refine lv_aload_n hx hb d_M_agree_78 rfl (lv_at hl 3 rfl) ?_
      refine sm_g (v := .ref (α 9)) hx hb ht hown hK hP 11 (by decide) (ht _ xw963) (fun _ h_ => h_) rfl d_M_agree_79 ?_
      refine lv_iload_n hx hb d_M_agree_82 rfl (lv_at hl 4 rfl) ?_
      refine sm_gaJ (L := 2) (n := e1) (v := (σ.2 9 e1)) hx hb hK hP 9 8 rfl rfl (xb_in (xb_lit e1 rfl) (by omega) (by decide)) (xb_cl (xb_lit e1 rfl) (by omega)) rfl d_M_agree_83 ?_
      refine vp_callSl (W.runS (As := [.long (g_mix (g_mix (g_mix (0 : Int64) x2) x3) (1 : Int64)), .long (σ.2 9 e1)]) (rest := [.int (((2 : Int32) * (nI e1)) + (0 : Int32)), .ref (α 22)]) ⟨hx, hb, hml, hown, hts⟩ (c_M_mix l (g_mix (g_mix (g_mix (0 : Int64) x2) x3) (1 : Int64)) (σ.2 9 e1)) (cwS 2 hts (xa_S xw1091 xw1092 xw11 xw1093) rfl rfl rfl (by decide +kernel) ⟨Nat.le_of_ble_eq_true rfl, Nat.le_of_ble_eq_true rfl⟩) preEq rfl rfl hl.1 rfl (lv_room (Nat.le_of_ble_eq_true rfl)) d_M_agree_84 ⟨Nat.le_of_ble_eq_true rfl, Nat.le_of_ble_eq_true rfl⟩) (fun r_ e_ => ?_)
      subst e_
      refine sm_paJ (L := 4) (n := ((2 * e1) + 0)) (x := (g_mix (g_mix (g_mix (g_mix (0 : Int64) x2) x3) (1 : Int64)) (σ.2 9 e1))) hx hb hK hP 22 21 rfl rfl hD hS (xb_in (xb_na (xb_nm (xb_lit (x := (2 : Int32)) 2 rfl) (xb_lit e1 rfl)) (xb_lit (x := (0 : Int32)) 0 rfl)) (by omega) (by decide)) (xb_cl (xb_na (xb_nm (xb_lit (x := (2 : Int32)) 2 rfl) (xb_lit e1 rfl)) (xb_lit (x := (0 : Int32)) 0 rfl)) (by omega)) sm_s_22 d_M_agree_87 (fun H locs hP hS => ?_)
      refine lv_aload_n hx hb d_M_agree_88 rfl (lv_at hl 3 rfl) ?_
      refine sm_g (v := .ref (α 23)) hx hb ht hown hK hP 25 (by decide) (ht _ xw977) (fun _ h_ => h_) rfl d_M_agree_89 ?_
      refine lv_iload hx hb d_M_agree_92 (lv_at hl 1 rfl) ?_
      refine lv_lload hx hb d_M_agree_94 (lv_at hl 0 rfl) ?_
      refine lv_iload hx hb d_M_agree_96 (lv_at hl 2 rfl) ?_
      refine lv_iconst (v := 3) hx hb d_M_agree_98 (by decide) ?_
      refine lv_iadd hx hb d_M_agree_99 ?_
      refine xb_ti (y := (3 : Int32)) (by decide) ?_
      refine lv_i2l (v := (3 : Int64)) hx hb d_M_agree_100 (by decide) ?_
      refine vp_callSl (W.runS (As := [.long (g_mix (g_mix (0 : Int64) x2) x3), .long (3 : Int64)]) (rest := [.int (((2 : Int32) * (nI e1)) + (0 : Int32)), .ref (α 23)]) ⟨hx, hb, hml, hown, hts⟩ (c_M_mix l (g_mix (g_mix (0 : Int64) x2) x3) (3 : Int64)) (cwS 2 hts (xa_S xw1091 xw1092 xw11 xw1093) rfl rfl rfl (by decide +kernel) ⟨Nat.le_of_ble_eq_true rfl, Nat.le_of_ble_eq_true rfl⟩) preEq rfl rfl hl.1 rfl (lv_room (Nat.le_of_ble_eq_true rfl)) d_M_agree_101 ⟨Nat.le_of_ble_eq_true rfl, Nat.le_of_ble_eq_true rfl⟩) (fun r_ e_ => ?_)
      subst e_
      refine lv_aload_n hx hb d_M_agree_104 rfl (lv_at hl 3 rfl) ?_
      refine sm_g (v := .ref (α 9)) hx hb ht hown hK hP 11 (by decide) (ht _ xw963) (fun _ h_ => h_) rfl d_M_agree_105 ?_
      refine lv_iload_n hx hb d_M_agree_108 rfl (lv_at hl 4 rfl) ?_
      refine sm_gaJ (L := 2) (n := e1) (v := (σ.2 9 e1)) hx hb hK hP 9 8 rfl rfl (xb_in (xb_lit e1 rfl) (by omega) (by decide)) (xb_cl (xb_lit e1 rfl) (by omega)) (xb_l_nk (by decide)) d_M_agree_109 ?_
      refine vp_callSl (W.runS (As := [.long (g_mix (g_mix (g_mix (0 : Int64) x2) x3) (3 : Int64)), .long (σ.2 9 e1)]) (rest := [.int (((2 : Int32) * (nI e1)) + (0 : Int32)), .ref (α 23)]) ⟨hx, hb, hml, hown, hts⟩ (c_M_mix l (g_mix (g_mix (g_mix (0 : Int64) x2) x3) (3 : Int64)) (σ.2 9 e1)) (cwS 2 hts (xa_S xw1091 xw1092 xw11 xw1093) rfl rfl rfl (by decide +kernel) ⟨Nat.le_of_ble_eq_true rfl, Nat.le_of_ble_eq_true rfl⟩) preEq rfl rfl hl.1 rfl (lv_room (Nat.le_of_ble_eq_true rfl)) d_M_agree_110 ⟨Nat.le_of_ble_eq_true rfl, Nat.le_of_ble_eq_true rfl⟩) (fun r_ e_ => ?_)
      subst e_
      refine sm_paJ (L := 4) (n := ((2 * e1) + 0)) (x := (g_mix (g_mix (g_mix (g_mix (0 : Int64) x2) x3) (3 : Int64)) (σ.2 9 e1))) hx hb hK hP 23 22 rfl rfl hD hS (xb_in (xb_na (xb_nm (xb_lit (x := (2 : Int32)) 2 rfl) (xb_lit e1 rfl)) (xb_lit (x := (0 : Int32)) 0 rfl)) (by omega) (by decide)) (xb_cl (xb_na (xb_nm (xb_lit (x := (2 : Int32)) 2 rfl) (xb_lit e1 rfl)) (xb_lit (x := (0 : Int32)) 0 rfl)) (by omega)) sm_s_23 d_M_agree_113 (fun H locs hP hS => ?_)
      refine lv_iinc (v := (1 : Int32)) (k := 2) (lv' := [(6, .int (1 : Int32)), (8, .long (g_mix (g_mix (0 : Int64) x2) x3)), (7, .int (((2 : Int32) * (nI e1)) + (0 : Int32))), (0, .ref (α 0)), (1, .int (nI e1)), (2, .long x2), (4, .long x3)]) hx hb d_M_agree_114 hl rfl (by decide) (by decide) rfl (fun ls hl => ?_)
      refine lv_goto (tgt := 27) hx hb d_M_agree_117 (by decide) ?_
      refine lv_iload hx hb d_M_agree_27 (lv_at hl 0 rfl) ?_
      refine lv_iconst (v := 2) hx hb d_M_agree_29 (by decide) ?_
      refine lv_icmp_ge (tgt := 120) hx hb d_M_agree_30 (by decide) (fun h_ => absurd h_ (by decide)) (fun _ => ?_)
      refine lv_iconst (v := 2) hx hb d_M_agree_33 (by decide) ?_
      refine lv_iload_n hx hb d_M_agree_34 rfl (lv_at hl 4 rfl) ?_
      refine lv_imul hx hb d_M_agree_35 ?_
      refine lv_iload hx hb d_M_agree_36 (lv_at hl 0 rfl) ?_
      refine lv_iload_n hx hb d_M_agree_38 rfl (lv_at hl 4 rfl) ?_
      refine lv_icmp_ne (tgt := 46) hx hb d_M_agree_39 (by decide) (fun c4 => ?_) (fun c4 => ?_)
      · skip
        have nc4 := mt (xb_eqN (xb_lit (x := (1 : Int32)) 1 rfl) (xb_lit e1 rfl) (by omega) (by omega)).mpr c4
        refine lv_iconst (v := 1) hx hb d_M_agree_46 (by decide) ?_
        refine lv_iadd hx hb d_M_agree_47 ?_
        refine lv_istore (lv' := [(7, .int (((2 : Int32) * (nI e1)) + (1 : Int32))), (6, .int (1 : Int32)), (8, .long (g_mix (g_mix (0 : Int64) x2) x3)), (0, .ref (α 0)), (1, .int (nI e1)), (2, .long x2), (4, .long x3)]) hx hb d_M_agree_48 hl (by decide) rfl (fun ls hl => ?_)
        refine lv_lconst (v := 0) hx hb d_M_agree_50 (by decide) ?_
        refine lv_lload_n hx hb d_M_agree_51 rfl (lv_at hl 5 rfl) ?_
        refine vp_callSl (W.runS (As := [.long (0 : Int64), .long x2]) (rest := []) ⟨hx, hb, hml, hown, hts⟩ (c_M_mix l (0 : Int64) x2) (cwS 2 hts (xa_S xw1091 xw1092 xw11 xw1093) rfl rfl rfl (by decide +kernel) ⟨Nat.le_of_ble_eq_true rfl, Nat.le_of_ble_eq_true rfl⟩) preEq rfl rfl hl.1 rfl (lv_room (Nat.le_of_ble_eq_true rfl)) d_M_agree_52 ⟨Nat.le_of_ble_eq_true rfl, Nat.le_of_ble_eq_true rfl⟩) (fun r_ e_ => ?_)
        subst e_
        refine lv_lload hx hb d_M_agree_55 (lv_at hl 6 rfl) ?_
        refine vp_callSl (W.runS (As := [.long (g_mix (0 : Int64) x2), .long x3]) (rest := []) ⟨hx, hb, hml, hown, hts⟩ (c_M_mix l (g_mix (0 : Int64) x2) x3) (cwS 2 hts (xa_S xw1091 xw1092 xw11 xw1093) rfl rfl rfl (by decide +kernel) ⟨Nat.le_of_ble_eq_true rfl, Nat.le_of_ble_eq_true rfl⟩) preEq rfl rfl hl.1 rfl (lv_room (Nat.le_of_ble_eq_true rfl)) d_M_agree_57 ⟨Nat.le_of_ble_eq_true rfl, Nat.le_of_ble_eq_true rfl⟩) (fun r_ e_ => ?_)
        subst e_
        refine lv_lstore (lv' := [(8, .long (g_mix (g_mix (0 : Int64) x2) x3)), (7, .int (((2 : Int32) * (nI e1)) + (1 : Int32))), (6, .int (1 : Int32)), (0, .ref (α 0)), (1, .int (nI e1)), (2, .long x2), (4, .long x3)]) hx hb d_M_agree_60 hl (by decide) rfl (fun ls hl => ?_)
        refine lv_aload_n hx hb d_M_agree_62 rfl (lv_at hl 3 rfl) ?_
        refine sm_g (v := .ref (α 22)) hx hb ht hown hK hP 24 (by decide) (ht _ xw976) (fun _ h_ => h_) rfl d_M_agree_63 ?_
        refine lv_iload hx hb d_M_agree_66 (lv_at hl 1 rfl) ?_
        refine lv_lload hx hb d_M_agree_68 (lv_at hl 0 rfl) ?_
        refine lv_iload hx hb d_M_agree_70 (lv_at hl 2 rfl) ?_
        refine lv_iconst (v := 1) hx hb d_M_agree_72 (by decide) ?_
        refine lv_iadd hx hb d_M_agree_73 ?_
        refine xb_ti (y := (2 : Int32)) (by decide) ?_
        refine lv_i2l (v := (2 : Int64)) hx hb d_M_agree_74 (by decide) ?_
        refine vp_callSl (W.runS (As := [.long (g_mix (g_mix (0 : Int64) x2) x3), .long (2 : Int64)]) (rest := [.int (((2 : Int32) * (nI e1)) + (1 : Int32)), .ref (α 22)]) ⟨hx, hb, hml, hown, hts⟩ (c_M_mix l (g_mix (g_mix (0 : Int64) x2) x3) (2 : Int64)) (cwS 2 hts (xa_S xw1091 xw1092 xw11 xw1093) rfl rfl rfl (by decide +kernel) ⟨Nat.le_of_ble_eq_true rfl, Nat.le_of_ble_eq_true rfl⟩) preEq rfl rfl hl.1 rfl (lv_room (Nat.le_of_ble_eq_true rfl)) d_M_agree_75 ⟨Nat.le_of_ble_eq_true rfl, Nat.le_of_ble_eq_true rfl⟩) (fun r_ e_ => ?_)
        subst e_
        refine lv_aload_n hx hb d_M_agree_78 rfl (lv_at hl 3 rfl) ?_
        refine sm_g (v := .ref (α 9)) hx hb ht hown hK hP 11 (by decide) (ht _ xw963) (fun _ h_ => h_) rfl d_M_agree_79 ?_
        refine lv_iload_n hx hb d_M_agree_82 rfl (lv_at hl 4 rfl) ?_
        refine sm_gaJ (L := 2) (n := e1) (v := (σ.2 9 e1)) hx hb hK hP 9 8 rfl rfl (xb_in (xb_lit e1 rfl) (by omega) (by decide)) (xb_cl (xb_lit e1 rfl) (by omega)) (((xb_l_nk (by decide))).trans ((xb_l_nk (by decide)))) d_M_agree_83 ?_
        refine vp_callSl (W.runS (As := [.long (g_mix (g_mix (g_mix (0 : Int64) x2) x3) (2 : Int64)), .long (σ.2 9 e1)]) (rest := [.int (((2 : Int32) * (nI e1)) + (1 : Int32)), .ref (α 22)]) ⟨hx, hb, hml, hown, hts⟩ (c_M_mix l (g_mix (g_mix (g_mix (0 : Int64) x2) x3) (2 : Int64)) (σ.2 9 e1)) (cwS 2 hts (xa_S xw1091 xw1092 xw11 xw1093) rfl rfl rfl (by decide +kernel) ⟨Nat.le_of_ble_eq_true rfl, Nat.le_of_ble_eq_true rfl⟩) preEq rfl rfl hl.1 rfl (lv_room (Nat.le_of_ble_eq_true rfl)) d_M_agree_84 ⟨Nat.le_of_ble_eq_true rfl, Nat.le_of_ble_eq_true rfl⟩) (fun r_ e_ => ?_)
        subst e_
        refine sm_paJ (L := 4) (n := ((2 * e1) + 1)) (x := (g_mix (g_mix (g_mix (g_mix (0 : Int64) x2) x3) (2 : Int64)) (σ.2 9 e1))) hx hb hK hP 22 21 rfl rfl hD hS (xb_in (xb_na (xb_nm (xb_lit (x := (2 : Int32)) 2 rfl) (xb_lit e1 rfl)) (xb_lit (x := (1 : Int32)) 1 rfl)) (by omega) (by decide)) (xb_cl (xb_na (xb_nm (xb_lit (x := (2 : Int32)) 2 rfl) (xb_lit e1 rfl)) (xb_lit (x := (1 : Int32)) 1 rfl)) (by omega)) sm_s_22 d_M_agree_87 (fun H locs hP hS => ?_)
        refine lv_aload_n hx hb d_M_agree_88 rfl (lv_at hl 3 rfl) ?_
        refine sm_g (v := .ref (α 23)) hx hb ht hown hK hP 25 (by decide) (ht _ xw977) (fun _ h_ => h_) rfl d_M_agree_89 ?_
        refine lv_iload hx hb d_M_agree_92 (lv_at hl 1 rfl) ?_
        refine lv_lload hx hb d_M_agree_94 (lv_at hl 0 rfl) ?_
        refine lv_iload hx hb d_M_agree_96 (lv_at hl 2 rfl) ?_
        refine lv_iconst (v := 3) hx hb d_M_agree_98 (by decide) ?_
        refine lv_iadd hx hb d_M_agree_99 ?_
        refine xb_ti (y := (4 : Int32)) (by decide) ?_
        refine lv_i2l (v := (4 : Int64)) hx hb d_M_agree_100 (by decide) ?_
        refine vp_callSl (W.runS (As := [.long (g_mix (g_mix (0 : Int64) x2) x3), .long (4 : Int64)]) (rest := [.int (((2 : Int32) * (nI e1)) + (1 : Int32)), .ref (α 23)]) ⟨hx, hb, hml, hown, hts⟩ (c_M_mix l (g_mix (g_mix (0 : Int64) x2) x3) (4 : Int64)) (cwS 2 hts (xa_S xw1091 xw1092 xw11 xw1093) rfl rfl rfl (by decide +kernel) ⟨Nat.le_of_ble_eq_true rfl, Nat.le_of_ble_eq_true rfl⟩) preEq rfl rfl hl.1 rfl (lv_room (Nat.le_of_ble_eq_true rfl)) d_M_agree_101 ⟨Nat.le_of_ble_eq_true rfl, Nat.le_of_ble_eq_true rfl⟩) (fun r_ e_ => ?_)
        subst e_
        refine lv_aload_n hx hb d_M_agree_104 rfl (lv_at hl 3 rfl) ?_
        refine sm_g (v := .ref (α 9)) hx hb ht hown hK hP 11 (by decide) (ht _ xw963) (fun _ h_ => h_) rfl d_M_agree_105 ?_
        refine lv_iload_n hx hb d_M_agree_108 rfl (lv_at hl 4 rfl) ?_
        refine sm_gaJ (L := 2) (n := e1) (v := (σ.2 9 e1)) hx hb hK hP 9 8 rfl rfl (xb_in (xb_lit e1 rfl) (by omega) (by decide)) (xb_cl (xb_lit e1 rfl) (by omega)) (((xb_l_nk (by decide))).trans (((xb_l_nk (by decide))).trans ((xb_l_nk (by decide))))) d_M_agree_109 ?_
        refine vp_callSl (W.runS (As := [.long (g_mix (g_mix (g_mix (0 : Int64) x2) x3) (4 : Int64)), .long (σ.2 9 e1)]) (rest := [.int (((2 : Int32) * (nI e1)) + (1 : Int32)), .ref (α 23)]) ⟨hx, hb, hml, hown, hts⟩ (c_M_mix l (g_mix (g_mix (g_mix (0 : Int64) x2) x3) (4 : Int64)) (σ.2 9 e1)) (cwS 2 hts (xa_S xw1091 xw1092 xw11 xw1093) rfl rfl rfl (by decide +kernel) ⟨Nat.le_of_ble_eq_true rfl, Nat.le_of_ble_eq_true rfl⟩) preEq rfl rfl hl.1 rfl (lv_room (Nat.le_of_ble_eq_true rfl)) d_M_agree_110 ⟨Nat.le_of_ble_eq_true rfl, Nat.le_of_ble_eq_true rfl⟩) (fun r_ e_ => ?_)
        subst e_
        refine sm_paJ (L := 4) (n := ((2 * e1) + 1)) (x := (g_mix (g_mix (g_mix (g_mix (0 : Int64) x2) x3) (4 : Int64)) (σ.2 9 e1))) hx hb hK hP 23 22 rfl rfl hD hS (xb_in (xb_na (xb_nm (xb_lit (x := (2 : Int32)) 2 rfl) (xb_lit e1 rfl)) (xb_lit (x := (1 : Int32)) 1 rfl)) (by omega) (by decide)) (xb_cl (xb_na (xb_nm (xb_lit (x := (2 : Int32)) 2 rfl) (xb_lit e1 rfl)) (xb_lit (x := (1 : Int32)) 1 rfl)) (by omega)) sm_s_23 d_M_agree_113 (fun H locs hP hS => ?_)
        refine lv_iinc (v := (2 : Int32)) (k := 2) (lv' := [(6, .int (2 : Int32)), (8, .long (g_mix (g_mix (0 : Int64) x2) x3)), (7, .int (((2 : Int32) * (nI e1)) + (1 : Int32))), (0, .ref (α 0)), (1, .int (nI e1)), (2, .long x2), (4, .long x3)]) hx hb d_M_agree_114 hl rfl (by decide) (by decide) rfl (fun ls hl => ?_)
        refine lv_goto (tgt := 27) hx hb d_M_agree_117 (by decide) ?_
        refine lv_iload hx hb d_M_agree_27 (lv_at hl 0 rfl) ?_
        refine lv_iconst (v := 2) hx hb d_M_agree_29 (by decide) ?_
        refine lv_icmp_ge (tgt := 120) hx hb d_M_agree_30 (by decide) (fun _ => ?_) (fun h_ => absurd h_ (by decide))
        exact W.vret hx hb hr (fun t ht_ hW => ⟨⟨(xb_sl (xb_sl (xb_sl (xb_sl σ 22 ((2 * e1) + 0) (g_mix (g_mix (g_mix (g_mix (0 : Int64) x2) x3) (1 : Int64)) (σ.2 9 e1))) 23 ((2 * e1) + 0) (g_mix (g_mix (g_mix (g_mix (0 : Int64) x2) x3) (3 : Int64)) (σ.2 9 e1))) 22 ((2 * e1) + 1) (g_mix (g_mix (g_mix (g_mix (0 : Int64) x2) x3) (2 : Int64)) (σ.2 9 e1))) 23 ((2 * e1) + 1) (g_mix (g_mix (g_mix (g_mix (0 : Int64) x2) x3) (4 : Int64)) (σ.2 9 e1))), rfl, ((if_neg c1).trans ((if_pos c2).trans ((if_neg c4)))).symm, by rw [sm_B, ht_]; exact hP⟩, hS.F ht_⟩) hS.2.2 d_M_agree_120
      · skip
        have nc4 := (xb_eqN (xb_lit (x := (1 : Int32)) 1 rfl) (xb_lit e1 rfl) (by omega) (by omega)).mp c4
        refine lv_iconst (v := 0) hx hb d_M_agree_42 (by decide) ?_
        refine lv_goto (tgt := 47) hx hb d_M_agree_43 (by decide) ?_
        refine lv_iadd hx hb d_M_agree_47 ?_
        refine lv_istore (lv' := [(7, .int (((2 : Int32) * (nI e1)) + (0 : Int32))), (6, .int (1 : Int32)), (8, .long (g_mix (g_mix (0 : Int64) x2) x3)), (0, .ref (α 0)), (1, .int (nI e1)), (2, .long x2), (4, .long x3)]) hx hb d_M_agree_48 hl (by decide) rfl (fun ls hl => ?_)
        refine lv_lconst (v := 0) hx hb d_M_agree_50 (by decide) ?_
        refine lv_lload_n hx hb d_M_agree_51 rfl (lv_at hl 5 rfl) ?_
        refine vp_callSl (W.runS (As := [.long (0 : Int64), .long x2]) (rest := []) ⟨hx, hb, hml, hown, hts⟩ (c_M_mix l (0 : Int64) x2) (cwS 2 hts (xa_S xw1091 xw1092 xw11 xw1093) rfl rfl rfl (by decide +kernel) ⟨Nat.le_of_ble_eq_true rfl, Nat.le_of_ble_eq_true rfl⟩) preEq rfl rfl hl.1 rfl (lv_room (Nat.le_of_ble_eq_true rfl)) d_M_agree_52 ⟨Nat.le_of_ble_eq_true rfl, Nat.le_of_ble_eq_true rfl⟩) (fun r_ e_ => ?_)
        subst e_
        refine lv_lload hx hb d_M_agree_55 (lv_at hl 6 rfl) ?_
        refine vp_callSl (W.runS (As := [.long (g_mix (0 : Int64) x2), .long x3]) (rest := []) ⟨hx, hb, hml, hown, hts⟩ (c_M_mix l (g_mix (0 : Int64) x2) x3) (cwS 2 hts (xa_S xw1091 xw1092 xw11 xw1093) rfl rfl rfl (by decide +kernel) ⟨Nat.le_of_ble_eq_true rfl, Nat.le_of_ble_eq_true rfl⟩) preEq rfl rfl hl.1 rfl (lv_room (Nat.le_of_ble_eq_true rfl)) d_M_agree_57 ⟨Nat.le_of_ble_eq_true rfl, Nat.le_of_ble_eq_true rfl⟩) (fun r_ e_ => ?_)
        subst e_
        refine lv_lstore (lv' := [(8, .long (g_mix (g_mix (0 : Int64) x2) x3)), (7, .int (((2 : Int32) * (nI e1)) + (0 : Int32))), (6, .int (1 : Int32)), (0, .ref (α 0)), (1, .int (nI e1)), (2, .long x2), (4, .long x3)]) hx hb d_M_agree_60 hl (by decide) rfl (fun ls hl => ?_)
        refine lv_aload_n hx hb d_M_agree_62 rfl (lv_at hl 3 rfl) ?_
        refine sm_g (v := .ref (α 22)) hx hb ht hown hK hP 24 (by decide) (ht _ xw976) (fun _ h_ => h_) rfl d_M_agree_63 ?_
        refine lv_iload hx hb d_M_agree_66 (lv_at hl 1 rfl) ?_
        refine lv_lload hx hb d_M_agree_68 (lv_at hl 0 rfl) ?_
        refine lv_iload hx hb d_M_agree_70 (lv_at hl 2 rfl) ?_
        refine lv_iconst (v := 1) hx hb d_M_agree_72 (by decide) ?_
        refine lv_iadd hx hb d_M_agree_73 ?_
        refine xb_ti (y := (2 : Int32)) (by decide) ?_
        refine lv_i2l (v := (2 : Int64)) hx hb d_M_agree_74 (by decide) ?_
        refine vp_callSl (W.runS (As := [.long (g_mix (g_mix (0 : Int64) x2) x3), .long (2 : Int64)]) (rest := [.int (((2 : Int32) * (nI e1)) + (0 : Int32)), .ref (α 22)]) ⟨hx, hb, hml, hown, hts⟩ (c_M_mix l (g_mix (g_mix (0 : Int64) x2) x3) (2 : Int64)) (cwS 2 hts (xa_S xw1091 xw1092 xw11 xw1093) rfl rfl rfl (by decide +kernel) ⟨Nat.le_of_ble_eq_true rfl, Nat.le_of_ble_eq_true rfl⟩) preEq rfl rfl hl.1 rfl (lv_room (Nat.le_of_ble_eq_true rfl)) d_M_agree_75 ⟨Nat.le_of_ble_eq_true rfl, Nat.le_of_ble_eq_true rfl⟩) (fun r_ e_ => ?_)
        subst e_
        refine lv_aload_n hx hb d_M_agree_78 rfl (lv_at hl 3 rfl) ?_
        refine sm_g (v := .ref (α 9)) hx hb ht hown hK hP 11 (by decide) (ht _ xw963) (fun _ h_ => h_) rfl d_M_agree_79 ?_
        refine lv_iload_n hx hb d_M_agree_82 rfl (lv_at hl 4 rfl) ?_
        refine sm_gaJ (L := 2) (n := e1) (v := (σ.2 9 e1)) hx hb hK hP 9 8 rfl rfl (xb_in (xb_lit e1 rfl) (by omega) (by decide)) (xb_cl (xb_lit e1 rfl) (by omega)) (((xb_l_nk (by decide))).trans ((xb_l_nk (by decide)))) d_M_agree_83 ?_
        refine vp_callSl (W.runS (As := [.long (g_mix (g_mix (g_mix (0 : Int64) x2) x3) (2 : Int64)), .long (σ.2 9 e1)]) (rest := [.int (((2 : Int32) * (nI e1)) + (0 : Int32)), .ref (α 22)]) ⟨hx, hb, hml, hown, hts⟩ (c_M_mix l (g_mix (g_mix (g_mix (0 : Int64) x2) x3) (2 : Int64)) (σ.2 9 e1)) (cwS 2 hts (xa_S xw1091 xw1092 xw11 xw1093) rfl rfl rfl (by decide +kernel) ⟨Nat.le_of_ble_eq_true rfl, Nat.le_of_ble_eq_true rfl⟩) preEq rfl rfl hl.1 rfl (lv_room (Nat.le_of_ble_eq_true rfl)) d_M_agree_84 ⟨Nat.le_of_ble_eq_true rfl, Nat.le_of_ble_eq_true rfl⟩) (fun r_ e_ => ?_)
        subst e_
        refine sm_paJ (L := 4) (n := ((2 * e1) + 0)) (x := (g_mix (g_mix (g_mix (g_mix (0 : Int64) x2) x3) (2 : Int64)) (σ.2 9 e1))) hx hb hK hP 22 21 rfl rfl hD hS (xb_in (xb_na (xb_nm (xb_lit (x := (2 : Int32)) 2 rfl) (xb_lit e1 rfl)) (xb_lit (x := (0 : Int32)) 0 rfl)) (by omega) (by decide)) (xb_cl (xb_na (xb_nm (xb_lit (x := (2 : Int32)) 2 rfl) (xb_lit e1 rfl)) (xb_lit (x := (0 : Int32)) 0 rfl)) (by omega)) sm_s_22 d_M_agree_87 (fun H locs hP hS => ?_)
        refine lv_aload_n hx hb d_M_agree_88 rfl (lv_at hl 3 rfl) ?_
        refine sm_g (v := .ref (α 23)) hx hb ht hown hK hP 25 (by decide) (ht _ xw977) (fun _ h_ => h_) rfl d_M_agree_89 ?_
        refine lv_iload hx hb d_M_agree_92 (lv_at hl 1 rfl) ?_
        refine lv_lload hx hb d_M_agree_94 (lv_at hl 0 rfl) ?_
        refine lv_iload hx hb d_M_agree_96 (lv_at hl 2 rfl) ?_
        refine lv_iconst (v := 3) hx hb d_M_agree_98 (by decide) ?_
        refine lv_iadd hx hb d_M_agree_99 ?_
        refine xb_ti (y := (4 : Int32)) (by decide) ?_
        refine lv_i2l (v := (4 : Int64)) hx hb d_M_agree_100 (by decide) ?_
        refine vp_callSl (W.runS (As := [.long (g_mix (g_mix (0 : Int64) x2) x3), .long (4 : Int64)]) (rest := [.int (((2 : Int32) * (nI e1)) + (0 : Int32)), .ref (α 23)]) ⟨hx, hb, hml, hown, hts⟩ (c_M_mix l (g_mix (g_mix (0 : Int64) x2) x3) (4 : Int64)) (cwS 2 hts (xa_S xw1091 xw1092 xw11 xw1093) rfl rfl rfl (by decide +kernel) ⟨Nat.le_of_ble_eq_true rfl, Nat.le_of_ble_eq_true rfl⟩) preEq rfl rfl hl.1 rfl (lv_room (Nat.le_of_ble_eq_true rfl)) d_M_agree_101 ⟨Nat.le_of_ble_eq_true rfl, Nat.le_of_ble_eq_true rfl⟩) (fun r_ e_ => ?_)
        subst e_
        refine lv_aload_n hx hb d_M_agree_104 rfl (lv_at hl 3 rfl) ?_
        refine sm_g (v := .ref (α 9)) hx hb ht hown hK hP 11 (by decide) (ht _ xw963) (fun _ h_ => h_) rfl d_M_agree_105 ?_
        refine lv_iload_n hx hb d_M_agree_108 rfl (lv_at hl 4 rfl) ?_
        refine sm_gaJ (L := 2) (n := e1) (v := (σ.2 9 e1)) hx hb hK hP 9 8 rfl rfl (xb_in (xb_lit e1 rfl) (by omega) (by decide)) (xb_cl (xb_lit e1 rfl) (by omega)) (((xb_l_nk (by decide))).trans (((xb_l_nk (by decide))).trans ((xb_l_nk (by decide))))) d_M_agree_109 ?_
        refine vp_callSl (W.runS (As := [.long (g_mix (g_mix (g_mix (0 : Int64) x2) x3) (4 : Int64)), .long (σ.2 9 e1)]) (rest := [.int (((2 : Int32) * (nI e1)) + (0 : Int32)), .ref (α 23)]) ⟨hx, hb, hml, hown, hts⟩ (c_M_mix l (g_mix (g_mix (g_mix (0 : Int64) x2) x3) (4 : Int64)) (σ.2 9 e1)) (cwS 2 hts (xa_S xw1091 xw1092 xw11 xw1093) rfl rfl rfl (by decide +kernel) ⟨Nat.le_of_ble_eq_true rfl, Nat.le_of_ble_eq_true rfl⟩) preEq rfl rfl hl.1 rfl (lv_room (Nat.le_of_ble_eq_true rfl)) d_M_agree_110 ⟨Nat.le_of_ble_eq_true rfl, Nat.le_of_ble_eq_true rfl⟩) (fun r_ e_ => ?_)
        subst e_
        refine sm_paJ (L := 4) (n := ((2 * e1) + 0)) (x := (g_mix (g_mix (g_mix (g_mix (0 : Int64) x2) x3) (4 : Int64)) (σ.2 9 e1))) hx hb hK hP 23 22 rfl rfl hD hS (xb_in (xb_na (xb_nm (xb_lit (x := (2 : Int32)) 2 rfl) (xb_lit e1 rfl)) (xb_lit (x := (0 : Int32)) 0 rfl)) (by omega) (by decide)) (xb_cl (xb_na (xb_nm (xb_lit (x := (2 : Int32)) 2 rfl) (xb_lit e1 rfl)) (xb_lit (x := (0 : Int32)) 0 rfl)) (by omega)) sm_s_23 d_M_agree_113 (fun H locs hP hS => ?_)
        refine lv_iinc (v := (2 : Int32)) (k := 2) (lv' := [(6, .int (2 : Int32)), (8, .long (g_mix (g_mix (0 : Int64) x2) x3)), (7, .int (((2 : Int32) * (nI e1)) + (0 : Int32))), (0, .ref (α 0)), (1, .int (nI e1)), (2, .long x2), (4, .long x3)]) hx hb d_M_agree_114 hl rfl (by decide) (by decide) rfl (fun ls hl => ?_)
        refine lv_goto (tgt := 27) hx hb d_M_agree_117 (by decide) ?_
        refine lv_iload hx hb d_M_agree_27 (lv_at hl 0 rfl) ?_
        refine lv_iconst (v := 2) hx hb d_M_agree_29 (by decide) ?_
        refine lv_icmp_ge (tgt := 120) hx hb d_M_agree_30 (by decide) (fun _ => ?_) (fun h_ => absurd h_ (by decide))
        exact W.vret hx hb hr (fun t ht_ hW => ⟨⟨(xb_sl (xb_sl (xb_sl (xb_sl σ 22 ((2 * e1) + 0) (g_mix (g_mix (g_mix (g_mix (0 : Int64) x2) x3) (1 : Int64)) (σ.2 9 e1))) 23 ((2 * e1) + 0) (g_mix (g_mix (g_mix (g_mix (0 : Int64) x2) x3) (3 : Int64)) (σ.2 9 e1))) 22 ((2 * e1) + 0) (g_mix (g_mix (g_mix (g_mix (0 : Int64) x2) x3) (2 : Int64)) (σ.2 9 e1))) 23 ((2 * e1) + 0) (g_mix (g_mix (g_mix (g_mix (0 : Int64) x2) x3) (4 : Int64)) (σ.2 9 e1))), rfl, ((if_neg c1).trans ((if_pos c2).trans ((if_pos c4)))).symm, by rw [sm_B, ht_]; exact hP⟩, hS.F ht_⟩) hS.2.2 d_M_agree_120
  · skip
    refine lv_aload_n hx hb d_M_agree_9 rfl (lv_at hl 0 rfl) ?_
    refine sm_g (v := .ref (α 10)) hx hb ht hown hK hP 12 (by decide) (ht _ xw964) (fun _ h_ => h_) rfl d_M_agree_10 ?_
    refine lv_iload_n hx hb d_M_agree_13 rfl (lv_at hl 1 rfl) ?_
    refine lv_iconst (v := 1) hx hb d_M_agree_14 (by decide) ?_
    refine sm_paZ (L := 2) (n := e1) (x := (1 : Int32)) hx hb hK hP 10 9 rfl rfl hD hS rfl (xb_in (xb_lit e1 rfl) (by omega) (by decide)) (xb_cl (xb_lit e1 rfl) (by omega)) sm_s_10 d_M_agree_15 (fun H locs hP hS => ?_)
    refine lv_aload_n hx hb d_M_agree_16 rfl (lv_at hl 0 rfl) ?_
    refine sm_g (v := .ref (α 9)) hx hb ht hown hK hP 11 (by decide) (ht _ xw963) (fun _ h_ => h_) rfl d_M_agree_17 ?_
    refine lv_iload_n hx hb d_M_agree_20 rfl (lv_at hl 1 rfl) ?_
    refine lv_lload hx hb d_M_agree_21 (lv_at hl 3 rfl) ?_
    refine sm_paJ (L := 2) (n := e1) (x := x3) hx hb hK hP 9 8 rfl rfl hD hS (xb_in (xb_lit e1 rfl) (by omega) (by decide)) (xb_cl (xb_lit e1 rfl) (by omega)) sm_s_9 d_M_agree_23 (fun H locs hP hS => ?_)
    refine lv_iconst (v := 0) hx hb d_M_agree_24 (by decide) ?_
    refine lv_istore (lv' := [(6, .int (0 : Int32)), (0, .ref (α 0)), (1, .int (nI e1)), (2, .long x2), (4, .long x3)]) hx hb d_M_agree_25 hl (by decide) rfl (fun ls hl => ?_)
    refine lv_iload hx hb d_M_agree_27 (lv_at hl 0 rfl) ?_
    refine lv_iconst (v := 2) hx hb d_M_agree_29 (by decide) ?_
    refine lv_icmp_ge (tgt := 120) hx hb d_M_agree_30 (by decide) (fun h_ => absurd h_ (by decide)) (fun _ => ?_)
    refine lv_iconst (v := 2) hx hb d_M_agree_33 (by decide) ?_
    refine lv_iload_n hx hb d_M_agree_34 rfl (lv_at hl 2 rfl) ?_
    refine lv_imul hx hb d_M_agree_35 ?_
    refine lv_iload hx hb d_M_agree_36 (lv_at hl 0 rfl) ?_
    refine lv_iload_n hx hb d_M_agree_38 rfl (lv_at hl 2 rfl) ?_
    refine lv_icmp_ne (tgt := 46) hx hb d_M_agree_39 (by decide) (fun c5 => ?_) (fun c5 => ?_)
    · skip
      have nc5 := mt (xb_eqN (xb_lit (x := (0 : Int32)) 0 rfl) (xb_lit e1 rfl) (by omega) (by omega)).mpr c5
      refine lv_iconst (v := 1) hx hb d_M_agree_46 (by decide) ?_
      refine lv_iadd hx hb d_M_agree_47 ?_
      refine lv_istore (lv' := [(7, .int (((2 : Int32) * (nI e1)) + (1 : Int32))), (6, .int (0 : Int32)), (0, .ref (α 0)), (1, .int (nI e1)), (2, .long x2), (4, .long x3)]) hx hb d_M_agree_48 hl (by decide) rfl (fun ls hl => ?_)
      refine lv_lconst (v := 0) hx hb d_M_agree_50 (by decide) ?_
      refine lv_lload_n hx hb d_M_agree_51 rfl (lv_at hl 4 rfl) ?_
      refine vp_callSl (W.runS (As := [.long (0 : Int64), .long x2]) (rest := []) ⟨hx, hb, hml, hown, hts⟩ (c_M_mix l (0 : Int64) x2) (cwS 2 hts (xa_S xw1091 xw1092 xw11 xw1093) rfl rfl rfl (by decide +kernel) ⟨Nat.le_of_ble_eq_true rfl, Nat.le_of_ble_eq_true rfl⟩) preEq rfl rfl hl.1 rfl (lv_room (Nat.le_of_ble_eq_true rfl)) d_M_agree_52 ⟨Nat.le_of_ble_eq_true rfl, Nat.le_of_ble_eq_true rfl⟩) (fun r_ e_ => ?_)
      subst e_
      refine lv_lload hx hb d_M_agree_55 (lv_at hl 5 rfl) ?_
      refine vp_callSl (W.runS (As := [.long (g_mix (0 : Int64) x2), .long x3]) (rest := []) ⟨hx, hb, hml, hown, hts⟩ (c_M_mix l (g_mix (0 : Int64) x2) x3) (cwS 2 hts (xa_S xw1091 xw1092 xw11 xw1093) rfl rfl rfl (by decide +kernel) ⟨Nat.le_of_ble_eq_true rfl, Nat.le_of_ble_eq_true rfl⟩) preEq rfl rfl hl.1 rfl (lv_room (Nat.le_of_ble_eq_true rfl)) d_M_agree_57 ⟨Nat.le_of_ble_eq_true rfl, Nat.le_of_ble_eq_true rfl⟩) (fun r_ e_ => ?_)
      subst e_
      refine lv_lstore (lv' := [(8, .long (g_mix (g_mix (0 : Int64) x2) x3)), (7, .int (((2 : Int32) * (nI e1)) + (1 : Int32))), (6, .int (0 : Int32)), (0, .ref (α 0)), (1, .int (nI e1)), (2, .long x2), (4, .long x3)]) hx hb d_M_agree_60 hl (by decide) rfl (fun ls hl => ?_)
      refine lv_aload_n hx hb d_M_agree_62 rfl (lv_at hl 3 rfl) ?_
      refine sm_g (v := .ref (α 22)) hx hb ht hown hK hP 24 (by decide) (ht _ xw976) (fun _ h_ => h_) rfl d_M_agree_63 ?_
      refine lv_iload hx hb d_M_agree_66 (lv_at hl 1 rfl) ?_
      refine lv_lload hx hb d_M_agree_68 (lv_at hl 0 rfl) ?_
      refine lv_iload hx hb d_M_agree_70 (lv_at hl 2 rfl) ?_
      refine lv_iconst (v := 1) hx hb d_M_agree_72 (by decide) ?_
      refine lv_iadd hx hb d_M_agree_73 ?_
      refine xb_ti (y := (1 : Int32)) (by decide) ?_
      refine lv_i2l (v := (1 : Int64)) hx hb d_M_agree_74 (by decide) ?_
      refine vp_callSl (W.runS (As := [.long (g_mix (g_mix (0 : Int64) x2) x3), .long (1 : Int64)]) (rest := [.int (((2 : Int32) * (nI e1)) + (1 : Int32)), .ref (α 22)]) ⟨hx, hb, hml, hown, hts⟩ (c_M_mix l (g_mix (g_mix (0 : Int64) x2) x3) (1 : Int64)) (cwS 2 hts (xa_S xw1091 xw1092 xw11 xw1093) rfl rfl rfl (by decide +kernel) ⟨Nat.le_of_ble_eq_true rfl, Nat.le_of_ble_eq_true rfl⟩) preEq rfl rfl hl.1 rfl (lv_room (Nat.le_of_ble_eq_true rfl)) d_M_agree_75 ⟨Nat.le_of_ble_eq_true rfl, Nat.le_of_ble_eq_true rfl⟩) (fun r_ e_ => ?_)
      subst e_
      refine lv_aload_n hx hb d_M_agree_78 rfl (lv_at hl 3 rfl) ?_
      refine sm_g (v := .ref (α 9)) hx hb ht hown hK hP 11 (by decide) (ht _ xw963) (fun _ h_ => h_) rfl d_M_agree_79 ?_
      refine lv_iload_n hx hb d_M_agree_82 rfl (lv_at hl 4 rfl) ?_
      refine sm_gaJ (L := 2) (n := e1) (v := x3) hx hb hK hP 9 8 rfl rfl (xb_in (xb_lit e1 rfl) (by omega) (by decide)) (xb_cl (xb_lit e1 rfl) (by omega)) xb_l_hit d_M_agree_83 ?_
      refine vp_callSl (W.runS (As := [.long (g_mix (g_mix (g_mix (0 : Int64) x2) x3) (1 : Int64)), .long x3]) (rest := [.int (((2 : Int32) * (nI e1)) + (1 : Int32)), .ref (α 22)]) ⟨hx, hb, hml, hown, hts⟩ (c_M_mix l (g_mix (g_mix (g_mix (0 : Int64) x2) x3) (1 : Int64)) x3) (cwS 2 hts (xa_S xw1091 xw1092 xw11 xw1093) rfl rfl rfl (by decide +kernel) ⟨Nat.le_of_ble_eq_true rfl, Nat.le_of_ble_eq_true rfl⟩) preEq rfl rfl hl.1 rfl (lv_room (Nat.le_of_ble_eq_true rfl)) d_M_agree_84 ⟨Nat.le_of_ble_eq_true rfl, Nat.le_of_ble_eq_true rfl⟩) (fun r_ e_ => ?_)
      subst e_
      refine sm_paJ (L := 4) (n := ((2 * e1) + 1)) (x := (g_mix (g_mix (g_mix (g_mix (0 : Int64) x2) x3) (1 : Int64)) x3)) hx hb hK hP 22 21 rfl rfl hD hS (xb_in (xb_na (xb_nm (xb_lit (x := (2 : Int32)) 2 rfl) (xb_lit e1 rfl)) (xb_lit (x := (1 : Int32)) 1 rfl)) (by omega) (by decide)) (xb_cl (xb_na (xb_nm (xb_lit (x := (2 : Int32)) 2 rfl) (xb_lit e1 rfl)) (xb_lit (x := (1 : Int32)) 1 rfl)) (by omega)) sm_s_22 d_M_agree_87 (fun H locs hP hS => ?_)
      refine lv_aload_n hx hb d_M_agree_88 rfl (lv_at hl 3 rfl) ?_
      refine sm_g (v := .ref (α 23)) hx hb ht hown hK hP 25 (by decide) (ht _ xw977) (fun _ h_ => h_) rfl d_M_agree_89 ?_
      refine lv_iload hx hb d_M_agree_92 (lv_at hl 1 rfl) ?_
      refine lv_lload hx hb d_M_agree_94 (lv_at hl 0 rfl) ?_
      refine lv_iload hx hb d_M_agree_96 (lv_at hl 2 rfl) ?_
      refine lv_iconst (v := 3) hx hb d_M_agree_98 (by decide) ?_
      refine lv_iadd hx hb d_M_agree_99 ?_
      refine xb_ti (y := (3 : Int32)) (by decide) ?_
      refine lv_i2l (v := (3 : Int64)) hx hb d_M_agree_100 (by decide) ?_
      refine vp_callSl (W.runS (As := [.long (g_mix (g_mix (0 : Int64) x2) x3), .long (3 : Int64)]) (rest := [.int (((2 : Int32) * (nI e1)) + (1 : Int32)), .ref (α 23)]) ⟨hx, hb, hml, hown, hts⟩ (c_M_mix l (g_mix (g_mix (0 : Int64) x2) x3) (3 : Int64)) (cwS 2 hts (xa_S xw1091 xw1092 xw11 xw1093) rfl rfl rfl (by decide +kernel) ⟨Nat.le_of_ble_eq_true rfl, Nat.le_of_ble_eq_true rfl⟩) preEq rfl rfl hl.1 rfl (lv_room (Nat.le_of_ble_eq_true rfl)) d_M_agree_101 ⟨Nat.le_of_ble_eq_true rfl, Nat.le_of_ble_eq_true rfl⟩) (fun r_ e_ => ?_)
      subst e_
      refine lv_aload_n hx hb d_M_agree_104 rfl (lv_at hl 3 rfl) ?_
      refine sm_g (v := .ref (α 9)) hx hb ht hown hK hP 11 (by decide) (ht _ xw963) (fun _ h_ => h_) rfl d_M_agree_105 ?_
      refine lv_iload_n hx hb d_M_agree_108 rfl (lv_at hl 4 rfl) ?_
      refine sm_gaJ (L := 2) (n := e1) (v := x3) hx hb hK hP 9 8 rfl rfl (xb_in (xb_lit e1 rfl) (by omega) (by decide)) (xb_cl (xb_lit e1 rfl) (by omega)) (((xb_l_nk (by decide))).trans (xb_l_hit)) d_M_agree_109 ?_
      refine vp_callSl (W.runS (As := [.long (g_mix (g_mix (g_mix (0 : Int64) x2) x3) (3 : Int64)), .long x3]) (rest := [.int (((2 : Int32) * (nI e1)) + (1 : Int32)), .ref (α 23)]) ⟨hx, hb, hml, hown, hts⟩ (c_M_mix l (g_mix (g_mix (g_mix (0 : Int64) x2) x3) (3 : Int64)) x3) (cwS 2 hts (xa_S xw1091 xw1092 xw11 xw1093) rfl rfl rfl (by decide +kernel) ⟨Nat.le_of_ble_eq_true rfl, Nat.le_of_ble_eq_true rfl⟩) preEq rfl rfl hl.1 rfl (lv_room (Nat.le_of_ble_eq_true rfl)) d_M_agree_110 ⟨Nat.le_of_ble_eq_true rfl, Nat.le_of_ble_eq_true rfl⟩) (fun r_ e_ => ?_)
      subst e_
      refine sm_paJ (L := 4) (n := ((2 * e1) + 1)) (x := (g_mix (g_mix (g_mix (g_mix (0 : Int64) x2) x3) (3 : Int64)) x3)) hx hb hK hP 23 22 rfl rfl hD hS (xb_in (xb_na (xb_nm (xb_lit (x := (2 : Int32)) 2 rfl) (xb_lit e1 rfl)) (xb_lit (x := (1 : Int32)) 1 rfl)) (by omega) (by decide)) (xb_cl (xb_na (xb_nm (xb_lit (x := (2 : Int32)) 2 rfl) (xb_lit e1 rfl)) (xb_lit (x := (1 : Int32)) 1 rfl)) (by omega)) sm_s_23 d_M_agree_113 (fun H locs hP hS => ?_)
      refine lv_iinc (v := (1 : Int32)) (k := 2) (lv' := [(6, .int (1 : Int32)), (8, .long (g_mix (g_mix (0 : Int64) x2) x3)), (7, .int (((2 : Int32) * (nI e1)) + (1 : Int32))), (0, .ref (α 0)), (1, .int (nI e1)), (2, .long x2), (4, .long x3)]) hx hb d_M_agree_114 hl rfl (by decide) (by decide) rfl (fun ls hl => ?_)
      refine lv_goto (tgt := 27) hx hb d_M_agree_117 (by decide) ?_
      refine lv_iload hx hb d_M_agree_27 (lv_at hl 0 rfl) ?_
      refine lv_iconst (v := 2) hx hb d_M_agree_29 (by decide) ?_
      refine lv_icmp_ge (tgt := 120) hx hb d_M_agree_30 (by decide) (fun h_ => absurd h_ (by decide)) (fun _ => ?_)
      refine lv_iconst (v := 2) hx hb d_M_agree_33 (by decide) ?_
      refine lv_iload_n hx hb d_M_agree_34 rfl (lv_at hl 4 rfl) ?_
      refine lv_imul hx hb d_M_agree_35 ?_
      refine lv_iload hx hb d_M_agree_36 (lv_at hl 0 rfl) ?_
      refine lv_iload_n hx hb d_M_agree_38 rfl (lv_at hl 4 rfl) ?_
      refine lv_icmp_ne (tgt := 46) hx hb d_M_agree_39 (by decide) (fun c6 => ?_) (fun c6 => ?_)
      · skip
        have nc6 := mt (xb_eqN (xb_lit (x := (1 : Int32)) 1 rfl) (xb_lit e1 rfl) (by omega) (by omega)).mpr c6
        refine lv_iconst (v := 1) hx hb d_M_agree_46 (by decide) ?_
        refine lv_iadd hx hb d_M_agree_47 ?_
        refine lv_istore (lv' := [(7, .int (((2 : Int32) * (nI e1)) + (1 : Int32))), (6, .int (1 : Int32)), (8, .long (g_mix (g_mix (0 : Int64) x2) x3)), (0, .ref (α 0)), (1, .int (nI e1)), (2, .long x2), (4, .long x3)]) hx hb d_M_agree_48 hl (by decide) rfl (fun ls hl => ?_)
        refine lv_lconst (v := 0) hx hb d_M_agree_50 (by decide) ?_
        refine lv_lload_n hx hb d_M_agree_51 rfl (lv_at hl 5 rfl) ?_
        refine vp_callSl (W.runS (As := [.long (0 : Int64), .long x2]) (rest := []) ⟨hx, hb, hml, hown, hts⟩ (c_M_mix l (0 : Int64) x2) (cwS 2 hts (xa_S xw1091 xw1092 xw11 xw1093) rfl rfl rfl (by decide +kernel) ⟨Nat.le_of_ble_eq_true rfl, Nat.le_of_ble_eq_true rfl⟩) preEq rfl rfl hl.1 rfl (lv_room (Nat.le_of_ble_eq_true rfl)) d_M_agree_52 ⟨Nat.le_of_ble_eq_true rfl, Nat.le_of_ble_eq_true rfl⟩) (fun r_ e_ => ?_)
        subst e_
        refine lv_lload hx hb d_M_agree_55 (lv_at hl 6 rfl) ?_
        refine vp_callSl (W.runS (As := [.long (g_mix (0 : Int64) x2), .long x3]) (rest := []) ⟨hx, hb, hml, hown, hts⟩ (c_M_mix l (g_mix (0 : Int64) x2) x3) (cwS 2 hts (xa_S xw1091 xw1092 xw11 xw1093) rfl rfl rfl (by decide +kernel) ⟨Nat.le_of_ble_eq_true rfl, Nat.le_of_ble_eq_true rfl⟩) preEq rfl rfl hl.1 rfl (lv_room (Nat.le_of_ble_eq_true rfl)) d_M_agree_57 ⟨Nat.le_of_ble_eq_true rfl, Nat.le_of_ble_eq_true rfl⟩) (fun r_ e_ => ?_)
        subst e_
        refine lv_lstore (lv' := [(8, .long (g_mix (g_mix (0 : Int64) x2) x3)), (7, .int (((2 : Int32) * (nI e1)) + (1 : Int32))), (6, .int (1 : Int32)), (0, .ref (α 0)), (1, .int (nI e1)), (2, .long x2), (4, .long x3)]) hx hb d_M_agree_60 hl (by decide) rfl (fun ls hl => ?_)
        refine lv_aload_n hx hb d_M_agree_62 rfl (lv_at hl 3 rfl) ?_
        refine sm_g (v := .ref (α 22)) hx hb ht hown hK hP 24 (by decide) (ht _ xw976) (fun _ h_ => h_) rfl d_M_agree_63 ?_
        refine lv_iload hx hb d_M_agree_66 (lv_at hl 1 rfl) ?_
        refine lv_lload hx hb d_M_agree_68 (lv_at hl 0 rfl) ?_
        refine lv_iload hx hb d_M_agree_70 (lv_at hl 2 rfl) ?_
        refine lv_iconst (v := 1) hx hb d_M_agree_72 (by decide) ?_
        refine lv_iadd hx hb d_M_agree_73 ?_
        refine xb_ti (y := (2 : Int32)) (by decide) ?_
        refine lv_i2l (v := (2 : Int64)) hx hb d_M_agree_74 (by decide) ?_
        refine vp_callSl (W.runS (As := [.long (g_mix (g_mix (0 : Int64) x2) x3), .long (2 : Int64)]) (rest := [.int (((2 : Int32) * (nI e1)) + (1 : Int32)), .ref (α 22)]) ⟨hx, hb, hml, hown, hts⟩ (c_M_mix l (g_mix (g_mix (0 : Int64) x2) x3) (2 : Int64)) (cwS 2 hts (xa_S xw1091 xw1092 xw11 xw1093) rfl rfl rfl (by decide +kernel) ⟨Nat.le_of_ble_eq_true rfl, Nat.le_of_ble_eq_true rfl⟩) preEq rfl rfl hl.1 rfl (lv_room (Nat.le_of_ble_eq_true rfl)) d_M_agree_75 ⟨Nat.le_of_ble_eq_true rfl, Nat.le_of_ble_eq_true rfl⟩) (fun r_ e_ => ?_)
        subst e_
        refine lv_aload_n hx hb d_M_agree_78 rfl (lv_at hl 3 rfl) ?_
        refine sm_g (v := .ref (α 9)) hx hb ht hown hK hP 11 (by decide) (ht _ xw963) (fun _ h_ => h_) rfl d_M_agree_79 ?_
        refine lv_iload_n hx hb d_M_agree_82 rfl (lv_at hl 4 rfl) ?_
        refine sm_gaJ (L := 2) (n := e1) (v := x3) hx hb hK hP 9 8 rfl rfl (xb_in (xb_lit e1 rfl) (by omega) (by decide)) (xb_cl (xb_lit e1 rfl) (by omega)) (((xb_l_nk (by decide))).trans (((xb_l_nk (by decide))).trans (xb_l_hit))) d_M_agree_83 ?_
        refine vp_callSl (W.runS (As := [.long (g_mix (g_mix (g_mix (0 : Int64) x2) x3) (2 : Int64)), .long x3]) (rest := [.int (((2 : Int32) * (nI e1)) + (1 : Int32)), .ref (α 22)]) ⟨hx, hb, hml, hown, hts⟩ (c_M_mix l (g_mix (g_mix (g_mix (0 : Int64) x2) x3) (2 : Int64)) x3) (cwS 2 hts (xa_S xw1091 xw1092 xw11 xw1093) rfl rfl rfl (by decide +kernel) ⟨Nat.le_of_ble_eq_true rfl, Nat.le_of_ble_eq_true rfl⟩) preEq rfl rfl hl.1 rfl (lv_room (Nat.le_of_ble_eq_true rfl)) d_M_agree_84 ⟨Nat.le_of_ble_eq_true rfl, Nat.le_of_ble_eq_true rfl⟩) (fun r_ e_ => ?_)
        subst e_
        refine sm_paJ (L := 4) (n := ((2 * e1) + 1)) (x := (g_mix (g_mix (g_mix (g_mix (0 : Int64) x2) x3) (2 : Int64)) x3)) hx hb hK hP 22 21 rfl rfl hD hS (xb_in (xb_na (xb_nm (xb_lit (x := (2 : Int32)) 2 rfl) (xb_lit e1 rfl)) (xb_lit (x := (1 : Int32)) 1 rfl)) (by omega) (by decide)) (xb_cl (xb_na (xb_nm (xb_lit (x := (2 : Int32)) 2 rfl) (xb_lit e1 rfl)) (xb_lit (x := (1 : Int32)) 1 rfl)) (by omega)) sm_s_22 d_M_agree_87 (fun H locs hP hS => ?_)
        refine lv_aload_n hx hb d_M_agree_88 rfl (lv_at hl 3 rfl) ?_
        refine sm_g (v := .ref (α 23)) hx hb ht hown hK hP 25 (by decide) (ht _ xw977) (fun _ h_ => h_) rfl d_M_agree_89 ?_
        refine lv_iload hx hb d_M_agree_92 (lv_at hl 1 rfl) ?_
        refine lv_lload hx hb d_M_agree_94 (lv_at hl 0 rfl) ?_
        refine lv_iload hx hb d_M_agree_96 (lv_at hl 2 rfl) ?_
        refine lv_iconst (v := 3) hx hb d_M_agree_98 (by decide) ?_
        refine lv_iadd hx hb d_M_agree_99 ?_
        refine xb_ti (y := (4 : Int32)) (by decide) ?_
        refine lv_i2l (v := (4 : Int64)) hx hb d_M_agree_100 (by decide) ?_
        refine vp_callSl (W.runS (As := [.long (g_mix (g_mix (0 : Int64) x2) x3), .long (4 : Int64)]) (rest := [.int (((2 : Int32) * (nI e1)) + (1 : Int32)), .ref (α 23)]) ⟨hx, hb, hml, hown, hts⟩ (c_M_mix l (g_mix (g_mix (0 : Int64) x2) x3) (4 : Int64)) (cwS 2 hts (xa_S xw1091 xw1092 xw11 xw1093) rfl rfl rfl (by decide +kernel) ⟨Nat.le_of_ble_eq_true rfl, Nat.le_of_ble_eq_true rfl⟩) preEq rfl rfl hl.1 rfl (lv_room (Nat.le_of_ble_eq_true rfl)) d_M_agree_101 ⟨Nat.le_of_ble_eq_true rfl, Nat.le_of_ble_eq_true rfl⟩) (fun r_ e_ => ?_)
        subst e_
        refine lv_aload_n hx hb d_M_agree_104 rfl (lv_at hl 3 rfl) ?_
        refine sm_g (v := .ref (α 9)) hx hb ht hown hK hP 11 (by decide) (ht _ xw963) (fun _ h_ => h_) rfl d_M_agree_105 ?_
        refine lv_iload_n hx hb d_M_agree_108 rfl (lv_at hl 4 rfl) ?_
        refine sm_gaJ (L := 2) (n := e1) (v := x3) hx hb hK hP 9 8 rfl rfl (xb_in (xb_lit e1 rfl) (by omega) (by decide)) (xb_cl (xb_lit e1 rfl) (by omega)) (((xb_l_nk (by decide))).trans (((xb_l_nk (by decide))).trans (((xb_l_nk (by decide))).trans (xb_l_hit)))) d_M_agree_109 ?_
        refine vp_callSl (W.runS (As := [.long (g_mix (g_mix (g_mix (0 : Int64) x2) x3) (4 : Int64)), .long x3]) (rest := [.int (((2 : Int32) * (nI e1)) + (1 : Int32)), .ref (α 23)]) ⟨hx, hb, hml, hown, hts⟩ (c_M_mix l (g_mix (g_mix (g_mix (0 : Int64) x2) x3) (4 : Int64)) x3) (cwS 2 hts (xa_S xw1091 xw1092 xw11 xw1093) rfl rfl rfl (by decide +kernel) ⟨Nat.le_of_ble_eq_true rfl, Nat.le_of_ble_eq_true rfl⟩) preEq rfl rfl hl.1 rfl (lv_room (Nat.le_of_ble_eq_true rfl)) d_M_agree_110 ⟨Nat.le_of_ble_eq_true rfl, Nat.le_of_ble_eq_true rfl⟩) (fun r_ e_ => ?_)
        subst e_
        refine sm_paJ (L := 4) (n := ((2 * e1) + 1)) (x := (g_mix (g_mix (g_mix (g_mix (0 : Int64) x2) x3) (4 : Int64)) x3)) hx hb hK hP 23 22 rfl rfl hD hS (xb_in (xb_na (xb_nm (xb_lit (x := (2 : Int32)) 2 rfl) (xb_lit e1 rfl)) (xb_lit (x := (1 : Int32)) 1 rfl)) (by omega) (by decide)) (xb_cl (xb_na (xb_nm (xb_lit (x := (2 : Int32)) 2 rfl) (xb_lit e1 rfl)) (xb_lit (x := (1 : Int32)) 1 rfl)) (by omega)) sm_s_23 d_M_agree_113 (fun H locs hP hS => ?_)
        refine lv_iinc (v := (2 : Int32)) (k := 2) (lv' := [(6, .int (2 : Int32)), (8, .long (g_mix (g_mix (0 : Int64) x2) x3)), (7, .int (((2 : Int32) * (nI e1)) + (1 : Int32))), (0, .ref (α 0)), (1, .int (nI e1)), (2, .long x2), (4, .long x3)]) hx hb d_M_agree_114 hl rfl (by decide) (by decide) rfl (fun ls hl => ?_)
        refine lv_goto (tgt := 27) hx hb d_M_agree_117 (by decide) ?_
        refine lv_iload hx hb d_M_agree_27 (lv_at hl 0 rfl) ?_
        refine lv_iconst (v := 2) hx hb d_M_agree_29 (by decide) ?_
        refine lv_icmp_ge (tgt := 120) hx hb d_M_agree_30 (by decide) (fun _ => ?_) (fun h_ => absurd h_ (by decide))
        exact W.vret hx hb hr (fun t ht_ hW => ⟨⟨(xb_sl (xb_sl (xb_sl (xb_sl (xb_sl (xb_si σ 10 e1 (1 : Int32)) 9 e1 x3) 22 ((2 * e1) + 1) (g_mix (g_mix (g_mix (g_mix (0 : Int64) x2) x3) (1 : Int64)) x3)) 23 ((2 * e1) + 1) (g_mix (g_mix (g_mix (g_mix (0 : Int64) x2) x3) (3 : Int64)) x3)) 22 ((2 * e1) + 1) (g_mix (g_mix (g_mix (g_mix (0 : Int64) x2) x3) (2 : Int64)) x3)) 23 ((2 * e1) + 1) (g_mix (g_mix (g_mix (g_mix (0 : Int64) x2) x3) (4 : Int64)) x3)), rfl, ((if_pos c1).trans ((if_neg c5).trans ((if_neg c6)))).symm, by rw [sm_B, ht_]; exact hP⟩, hS.F ht_⟩) hS.2.2 d_M_agree_120
      · skip
        have nc6 := (xb_eqN (xb_lit (x := (1 : Int32)) 1 rfl) (xb_lit e1 rfl) (by omega) (by omega)).mp c6
        refine lv_iconst (v := 0) hx hb d_M_agree_42 (by decide) ?_
        refine lv_goto (tgt := 47) hx hb d_M_agree_43 (by decide) ?_
        refine lv_iadd hx hb d_M_agree_47 ?_
        refine lv_istore (lv' := [(7, .int (((2 : Int32) * (nI e1)) + (0 : Int32))), (6, .int (1 : Int32)), (8, .long (g_mix (g_mix (0 : Int64) x2) x3)), (0, .ref (α 0)), (1, .int (nI e1)), (2, .long x2), (4, .long x3)]) hx hb d_M_agree_48 hl (by decide) rfl (fun ls hl => ?_)
        refine lv_lconst (v := 0) hx hb d_M_agree_50 (by decide) ?_
        refine lv_lload_n hx hb d_M_agree_51 rfl (lv_at hl 5 rfl) ?_
        refine vp_callSl (W.runS (As := [.long (0 : Int64), .long x2]) (rest := []) ⟨hx, hb, hml, hown, hts⟩ (c_M_mix l (0 : Int64) x2) (cwS 2 hts (xa_S xw1091 xw1092 xw11 xw1093) rfl rfl rfl (by decide +kernel) ⟨Nat.le_of_ble_eq_true rfl, Nat.le_of_ble_eq_true rfl⟩) preEq rfl rfl hl.1 rfl (lv_room (Nat.le_of_ble_eq_true rfl)) d_M_agree_52 ⟨Nat.le_of_ble_eq_true rfl, Nat.le_of_ble_eq_true rfl⟩) (fun r_ e_ => ?_)
        subst e_
        refine lv_lload hx hb d_M_agree_55 (lv_at hl 6 rfl) ?_
        refine vp_callSl (W.runS (As := [.long (g_mix (0 : Int64) x2), .long x3]) (rest := []) ⟨hx, hb, hml, hown, hts⟩ (c_M_mix l (g_mix (0 : Int64) x2) x3) (cwS 2 hts (xa_S xw1091 xw1092 xw11 xw1093) rfl rfl rfl (by decide +kernel) ⟨Nat.le_of_ble_eq_true rfl, Nat.le_of_ble_eq_true rfl⟩) preEq rfl rfl hl.1 rfl (lv_room (Nat.le_of_ble_eq_true rfl)) d_M_agree_57 ⟨Nat.le_of_ble_eq_true rfl, Nat.le_of_ble_eq_true rfl⟩) (fun r_ e_ => ?_)
        subst e_
        refine lv_lstore (lv' := [(8, .long (g_mix (g_mix (0 : Int64) x2) x3)), (7, .int (((2 : Int32) * (nI e1)) + (0 : Int32))), (6, .int (1 : Int32)), (0, .ref (α 0)), (1, .int (nI e1)), (2, .long x2), (4, .long x3)]) hx hb d_M_agree_60 hl (by decide) rfl (fun ls hl => ?_)
        refine lv_aload_n hx hb d_M_agree_62 rfl (lv_at hl 3 rfl) ?_
        refine sm_g (v := .ref (α 22)) hx hb ht hown hK hP 24 (by decide) (ht _ xw976) (fun _ h_ => h_) rfl d_M_agree_63 ?_
        refine lv_iload hx hb d_M_agree_66 (lv_at hl 1 rfl) ?_
        refine lv_lload hx hb d_M_agree_68 (lv_at hl 0 rfl) ?_
        refine lv_iload hx hb d_M_agree_70 (lv_at hl 2 rfl) ?_
        refine lv_iconst (v := 1) hx hb d_M_agree_72 (by decide) ?_
        refine lv_iadd hx hb d_M_agree_73 ?_
        refine xb_ti (y := (2 : Int32)) (by decide) ?_
        refine lv_i2l (v := (2 : Int64)) hx hb d_M_agree_74 (by decide) ?_
        refine vp_callSl (W.runS (As := [.long (g_mix (g_mix (0 : Int64) x2) x3), .long (2 : Int64)]) (rest := [.int (((2 : Int32) * (nI e1)) + (0 : Int32)), .ref (α 22)]) ⟨hx, hb, hml, hown, hts⟩ (c_M_mix l (g_mix (g_mix (0 : Int64) x2) x3) (2 : Int64)) (cwS 2 hts (xa_S xw1091 xw1092 xw11 xw1093) rfl rfl rfl (by decide +kernel) ⟨Nat.le_of_ble_eq_true rfl, Nat.le_of_ble_eq_true rfl⟩) preEq rfl rfl hl.1 rfl (lv_room (Nat.le_of_ble_eq_true rfl)) d_M_agree_75 ⟨Nat.le_of_ble_eq_true rfl, Nat.le_of_ble_eq_true rfl⟩) (fun r_ e_ => ?_)
        subst e_
        refine lv_aload_n hx hb d_M_agree_78 rfl (lv_at hl 3 rfl) ?_
        refine sm_g (v := .ref (α 9)) hx hb ht hown hK hP 11 (by decide) (ht _ xw963) (fun _ h_ => h_) rfl d_M_agree_79 ?_
        refine lv_iload_n hx hb d_M_agree_82 rfl (lv_at hl 4 rfl) ?_
        refine sm_gaJ (L := 2) (n := e1) (v := x3) hx hb hK hP 9 8 rfl rfl (xb_in (xb_lit e1 rfl) (by omega) (by decide)) (xb_cl (xb_lit e1 rfl) (by omega)) (((xb_l_nk (by decide))).trans (((xb_l_nk (by decide))).trans (xb_l_hit))) d_M_agree_83 ?_
        refine vp_callSl (W.runS (As := [.long (g_mix (g_mix (g_mix (0 : Int64) x2) x3) (2 : Int64)), .long x3]) (rest := [.int (((2 : Int32) * (nI e1)) + (0 : Int32)), .ref (α 22)]) ⟨hx, hb, hml, hown, hts⟩ (c_M_mix l (g_mix (g_mix (g_mix (0 : Int64) x2) x3) (2 : Int64)) x3) (cwS 2 hts (xa_S xw1091 xw1092 xw11 xw1093) rfl rfl rfl (by decide +kernel) ⟨Nat.le_of_ble_eq_true rfl, Nat.le_of_ble_eq_true rfl⟩) preEq rfl rfl hl.1 rfl (lv_room (Nat.le_of_ble_eq_true rfl)) d_M_agree_84 ⟨Nat.le_of_ble_eq_true rfl, Nat.le_of_ble_eq_true rfl⟩) (fun r_ e_ => ?_)
        subst e_
        refine sm_paJ (L := 4) (n := ((2 * e1) + 0)) (x := (g_mix (g_mix (g_mix (g_mix (0 : Int64) x2) x3) (2 : Int64)) x3)) hx hb hK hP 22 21 rfl rfl hD hS (xb_in (xb_na (xb_nm (xb_lit (x := (2 : Int32)) 2 rfl) (xb_lit e1 rfl)) (xb_lit (x := (0 : Int32)) 0 rfl)) (by omega) (by decide)) (xb_cl (xb_na (xb_nm (xb_lit (x := (2 : Int32)) 2 rfl) (xb_lit e1 rfl)) (xb_lit (x := (0 : Int32)) 0 rfl)) (by omega)) sm_s_22 d_M_agree_87 (fun H locs hP hS => ?_)
        refine lv_aload_n hx hb d_M_agree_88 rfl (lv_at hl 3 rfl) ?_
        refine sm_g (v := .ref (α 23)) hx hb ht hown hK hP 25 (by decide) (ht _ xw977) (fun _ h_ => h_) rfl d_M_agree_89 ?_
        refine lv_iload hx hb d_M_agree_92 (lv_at hl 1 rfl) ?_
        refine lv_lload hx hb d_M_agree_94 (lv_at hl 0 rfl) ?_
        refine lv_iload hx hb d_M_agree_96 (lv_at hl 2 rfl) ?_
        refine lv_iconst (v := 3) hx hb d_M_agree_98 (by decide) ?_
        refine lv_iadd hx hb d_M_agree_99 ?_
        refine xb_ti (y := (4 : Int32)) (by decide) ?_
        refine lv_i2l (v := (4 : Int64)) hx hb d_M_agree_100 (by decide) ?_
        refine vp_callSl (W.runS (As := [.long (g_mix (g_mix (0 : Int64) x2) x3), .long (4 : Int64)]) (rest := [.int (((2 : Int32) * (nI e1)) + (0 : Int32)), .ref (α 23)]) ⟨hx, hb, hml, hown, hts⟩ (c_M_mix l (g_mix (g_mix (0 : Int64) x2) x3) (4 : Int64)) (cwS 2 hts (xa_S xw1091 xw1092 xw11 xw1093) rfl rfl rfl (by decide +kernel) ⟨Nat.le_of_ble_eq_true rfl, Nat.le_of_ble_eq_true rfl⟩) preEq rfl rfl hl.1 rfl (lv_room (Nat.le_of_ble_eq_true rfl)) d_M_agree_101 ⟨Nat.le_of_ble_eq_true rfl, Nat.le_of_ble_eq_true rfl⟩) (fun r_ e_ => ?_)
        subst e_
        refine lv_aload_n hx hb d_M_agree_104 rfl (lv_at hl 3 rfl) ?_
        refine sm_g (v := .ref (α 9)) hx hb ht hown hK hP 11 (by decide) (ht _ xw963) (fun _ h_ => h_) rfl d_M_agree_105 ?_
        refine lv_iload_n hx hb d_M_agree_108 rfl (lv_at hl 4 rfl) ?_
        refine sm_gaJ (L := 2) (n := e1) (v := x3) hx hb hK hP 9 8 rfl rfl (xb_in (xb_lit e1 rfl) (by omega) (by decide)) (xb_cl (xb_lit e1 rfl) (by omega)) (((xb_l_nk (by decide))).trans (((xb_l_nk (by decide))).trans (((xb_l_nk (by decide))).trans (xb_l_hit)))) d_M_agree_109 ?_
        refine vp_callSl (W.runS (As := [.long (g_mix (g_mix (g_mix (0 : Int64) x2) x3) (4 : Int64)), .long x3]) (rest := [.int (((2 : Int32) * (nI e1)) + (0 : Int32)), .ref (α 23)]) ⟨hx, hb, hml, hown, hts⟩ (c_M_mix l (g_mix (g_mix (g_mix (0 : Int64) x2) x3) (4 : Int64)) x3) (cwS 2 hts (xa_S xw1091 xw1092 xw11 xw1093) rfl rfl rfl (by decide +kernel) ⟨Nat.le_of_ble_eq_true rfl, Nat.le_of_ble_eq_true rfl⟩) preEq rfl rfl hl.1 rfl (lv_room (Nat.le_of_ble_eq_true rfl)) d_M_agree_110 ⟨Nat.le_of_ble_eq_true rfl, Nat.le_of_ble_eq_true rfl⟩) (fun r_ e_ => ?_)
        subst e_
        refine sm_paJ (L := 4) (n := ((2 * e1) + 0)) (x := (g_mix (g_mix (g_mix (g_mix (0 : Int64) x2) x3) (4 : Int64)) x3)) hx hb hK hP 23 22 rfl rfl hD hS (xb_in (xb_na (xb_nm (xb_lit (x := (2 : Int32)) 2 rfl) (xb_lit e1 rfl)) (xb_lit (x := (0 : Int32)) 0 rfl)) (by omega) (by decide)) (xb_cl (xb_na (xb_nm (xb_lit (x := (2 : Int32)) 2 rfl) (xb_lit e1 rfl)) (xb_lit (x := (0 : Int32)) 0 rfl)) (by omega)) sm_s_23 d_M_agree_113 (fun H locs hP hS => ?_)
        refine lv_iinc (v := (2 : Int32)) (k := 2) (lv' := [(6, .int (2 : Int32)), (8, .long (g_mix (g_mix (0 : Int64) x2) x3)), (7, .int (((2 : Int32) * (nI e1)) + (0 : Int32))), (0, .ref (α 0)), (1, .int (nI e1)), (2, .long x2), (4, .long x3)]) hx hb d_M_agree_114 hl rfl (by decide) (by decide) rfl (fun ls hl => ?_)
        refine lv_goto (tgt := 27) hx hb d_M_agree_117 (by decide) ?_
        refine lv_iload hx hb d_M_agree_27 (lv_at hl 0 rfl) ?_
        refine lv_iconst (v := 2) hx hb d_M_agree_29 (by decide) ?_
        refine lv_icmp_ge (tgt := 120) hx hb d_M_agree_30 (by decide) (fun _ => ?_) (fun h_ => absurd h_ (by decide))
        exact W.vret hx hb hr (fun t ht_ hW => ⟨⟨(xb_sl (xb_sl (xb_sl (xb_sl (xb_sl (xb_si σ 10 e1 (1 : Int32)) 9 e1 x3) 22 ((2 * e1) + 1) (g_mix (g_mix (g_mix (g_mix (0 : Int64) x2) x3) (1 : Int64)) x3)) 23 ((2 * e1) + 1) (g_mix (g_mix (g_mix (g_mix (0 : Int64) x2) x3) (3 : Int64)) x3)) 22 ((2 * e1) + 0) (g_mix (g_mix (g_mix (g_mix (0 : Int64) x2) x3) (2 : Int64)) x3)) 23 ((2 * e1) + 0) (g_mix (g_mix (g_mix (g_mix (0 : Int64) x2) x3) (4 : Int64)) x3)), rfl, ((if_pos c1).trans ((if_neg c5).trans ((if_pos c6)))).symm, by rw [sm_B, ht_]; exact hP⟩, hS.F ht_⟩) hS.2.2 d_M_agree_120
    · skip
      have nc5 := (xb_eqN (xb_lit (x := (0 : Int32)) 0 rfl) (xb_lit e1 rfl) (by omega) (by omega)).mp c5
      refine lv_iconst (v := 0) hx hb d_M_agree_42 (by decide) ?_
      refine lv_goto (tgt := 47) hx hb d_M_agree_43 (by decide) ?_
      refine lv_iadd hx hb d_M_agree_47 ?_
      refine lv_istore (lv' := [(7, .int (((2 : Int32) * (nI e1)) + (0 : Int32))), (6, .int (0 : Int32)), (0, .ref (α 0)), (1, .int (nI e1)), (2, .long x2), (4, .long x3)]) hx hb d_M_agree_48 hl (by decide) rfl (fun ls hl => ?_)
      refine lv_lconst (v := 0) hx hb d_M_agree_50 (by decide) ?_
      refine lv_lload_n hx hb d_M_agree_51 rfl (lv_at hl 4 rfl) ?_
      refine vp_callSl (W.runS (As := [.long (0 : Int64), .long x2]) (rest := []) ⟨hx, hb, hml, hown, hts⟩ (c_M_mix l (0 : Int64) x2) (cwS 2 hts (xa_S xw1091 xw1092 xw11 xw1093) rfl rfl rfl (by decide +kernel) ⟨Nat.le_of_ble_eq_true rfl, Nat.le_of_ble_eq_true rfl⟩) preEq rfl rfl hl.1 rfl (lv_room (Nat.le_of_ble_eq_true rfl)) d_M_agree_52 ⟨Nat.le_of_ble_eq_true rfl, Nat.le_of_ble_eq_true rfl⟩) (fun r_ e_ => ?_)
      subst e_
      refine lv_lload hx hb d_M_agree_55 (lv_at hl 5 rfl) ?_
      refine vp_callSl (W.runS (As := [.long (g_mix (0 : Int64) x2), .long x3]) (rest := []) ⟨hx, hb, hml, hown, hts⟩ (c_M_mix l (g_mix (0 : Int64) x2) x3) (cwS 2 hts (xa_S xw1091 xw1092 xw11 xw1093) rfl rfl rfl (by decide +kernel) ⟨Nat.le_of_ble_eq_true rfl, Nat.le_of_ble_eq_true rfl⟩) preEq rfl rfl hl.1 rfl (lv_room (Nat.le_of_ble_eq_true rfl)) d_M_agree_57 ⟨Nat.le_of_ble_eq_true rfl, Nat.le_of_ble_eq_true rfl⟩) (fun r_ e_ => ?_)
      subst e_
      refine lv_lstore (lv' := [(8, .long (g_mix (g_mix (0 : Int64) x2) x3)), (7, .int (((2 : Int32) * (nI e1)) + (0 : Int32))), (6, .int (0 : Int32)), (0, .ref (α 0)), (1, .int (nI e1)), (2, .long x2), (4, .long x3)]) hx hb d_M_agree_60 hl (by decide) rfl (fun ls hl => ?_)
      refine lv_aload_n hx hb d_M_agree_62 rfl (lv_at hl 3 rfl) ?_
      refine sm_g (v := .ref (α 22)) hx hb ht hown hK hP 24 (by decide) (ht _ xw976) (fun _ h_ => h_) rfl d_M_agree_63 ?_
      refine lv_iload hx hb d_M_agree_66 (lv_at hl 1 rfl) ?_
      refine lv_lload hx hb d_M_agree_68 (lv_at hl 0 rfl) ?_
      refine lv_iload hx hb d_M_agree_70 (lv_at hl 2 rfl) ?_
      refine lv_iconst (v := 1) hx hb d_M_agree_72 (by decide) ?_
      refine lv_iadd hx hb d_M_agree_73 ?_
      refine xb_ti (y := (1 : Int32)) (by decide) ?_
      refine lv_i2l (v := (1 : Int64)) hx hb d_M_agree_74 (by decide) ?_
      refine vp_callSl (W.runS (As := [.long (g_mix (g_mix (0 : Int64) x2) x3), .long (1 : Int64)]) (rest := [.int (((2 : Int32) * (nI e1)) + (0 : Int32)), .ref (α 22)]) ⟨hx, hb, hml, hown, hts⟩ (c_M_mix l (g_mix (g_mix (0 : Int64) x2) x3) (1 : Int64)) (cwS 2 hts (xa_S xw1091 xw1092 xw11 xw1093) rfl rfl rfl (by decide +kernel) ⟨Nat.le_of_ble_eq_true rfl, Nat.le_of_ble_eq_true rfl⟩) preEq rfl rfl hl.1 rfl (lv_room (Nat.le_of_ble_eq_true rfl)) d_M_agree_75 ⟨Nat.le_of_ble_eq_true rfl, Nat.le_of_ble_eq_true rfl⟩) (fun r_ e_ => ?_)
      subst e_
      refine lv_aload_n hx hb d_M_agree_78 rfl (lv_at hl 3 rfl) ?_
      refine sm_g (v := .ref (α 9)) hx hb ht hown hK hP 11 (by decide) (ht _ xw963) (fun _ h_ => h_) rfl d_M_agree_79 ?_
      refine lv_iload_n hx hb d_M_agree_82 rfl (lv_at hl 4 rfl) ?_
      refine sm_gaJ (L := 2) (n := e1) (v := x3) hx hb hK hP 9 8 rfl rfl (xb_in (xb_lit e1 rfl) (by omega) (by decide)) (xb_cl (xb_lit e1 rfl) (by omega)) xb_l_hit d_M_agree_83 ?_
      refine vp_callSl (W.runS (As := [.long (g_mix (g_mix (g_mix (0 : Int64) x2) x3) (1 : Int64)), .long x3]) (rest := [.int (((2 : Int32) * (nI e1)) + (0 : Int32)), .ref (α 22)]) ⟨hx, hb, hml, hown, hts⟩ (c_M_mix l (g_mix (g_mix (g_mix (0 : Int64) x2) x3) (1 : Int64)) x3) (cwS 2 hts (xa_S xw1091 xw1092 xw11 xw1093) rfl rfl rfl (by decide +kernel) ⟨Nat.le_of_ble_eq_true rfl, Nat.le_of_ble_eq_true rfl⟩) preEq rfl rfl hl.1 rfl (lv_room (Nat.le_of_ble_eq_true rfl)) d_M_agree_84 ⟨Nat.le_of_ble_eq_true rfl, Nat.le_of_ble_eq_true rfl⟩) (fun r_ e_ => ?_)
      subst e_
      refine sm_paJ (L := 4) (n := ((2 * e1) + 0)) (x := (g_mix (g_mix (g_mix (g_mix (0 : Int64) x2) x3) (1 : Int64)) x3)) hx hb hK hP 22 21 rfl rfl hD hS (xb_in (xb_na (xb_nm (xb_lit (x := (2 : Int32)) 2 rfl) (xb_lit e1 rfl)) (xb_lit (x := (0 : Int32)) 0 rfl)) (by omega) (by decide)) (xb_cl (xb_na (xb_nm (xb_lit (x := (2 : Int32)) 2 rfl) (xb_lit e1 rfl)) (xb_lit (x := (0 : Int32)) 0 rfl)) (by omega)) sm_s_22 d_M_agree_87 (fun H locs hP hS => ?_)
      refine lv_aload_n hx hb d_M_agree_88 rfl (lv_at hl 3 rfl) ?_
      refine sm_g (v := .ref (α 23)) hx hb ht hown hK hP 25 (by decide) (ht _ xw977) (fun _ h_ => h_) rfl d_M_agree_89 ?_
      refine lv_iload hx hb d_M_agree_92 (lv_at hl 1 rfl) ?_
      refine lv_lload hx hb d_M_agree_94 (lv_at hl 0 rfl) ?_
      refine lv_iload hx hb d_M_agree_96 (lv_at hl 2 rfl) ?_
      refine lv_iconst (v := 3) hx hb d_M_agree_98 (by decide) ?_
      refine lv_iadd hx hb d_M_agree_99 ?_
      refine xb_ti (y := (3 : Int32)) (by decide) ?_
      refine lv_i2l (v := (3 : Int64)) hx hb d_M_agree_100 (by decide) ?_
      refine vp_callSl (W.runS (As := [.long (g_mix (g_mix (0 : Int64) x2) x3), .long (3 : Int64)]) (rest := [.int (((2 : Int32) * (nI e1)) + (0 : Int32)), .ref (α 23)]) ⟨hx, hb, hml, hown, hts⟩ (c_M_mix l (g_mix (g_mix (0 : Int64) x2) x3) (3 : Int64)) (cwS 2 hts (xa_S xw1091 xw1092 xw11 xw1093) rfl rfl rfl (by decide +kernel) ⟨Nat.le_of_ble_eq_true rfl, Nat.le_of_ble_eq_true rfl⟩) preEq rfl rfl hl.1 rfl (lv_room (Nat.le_of_ble_eq_true rfl)) d_M_agree_101 ⟨Nat.le_of_ble_eq_true rfl, Nat.le_of_ble_eq_true rfl⟩) (fun r_ e_ => ?_)
      subst e_
      refine lv_aload_n hx hb d_M_agree_104 rfl (lv_at hl 3 rfl) ?_
      refine sm_g (v := .ref (α 9)) hx hb ht hown hK hP 11 (by decide) (ht _ xw963) (fun _ h_ => h_) rfl d_M_agree_105 ?_
      refine lv_iload_n hx hb d_M_agree_108 rfl (lv_at hl 4 rfl) ?_
      refine sm_gaJ (L := 2) (n := e1) (v := x3) hx hb hK hP 9 8 rfl rfl (xb_in (xb_lit e1 rfl) (by omega) (by decide)) (xb_cl (xb_lit e1 rfl) (by omega)) (((xb_l_nk (by decide))).trans (xb_l_hit)) d_M_agree_109 ?_
      refine vp_callSl (W.runS (As := [.long (g_mix (g_mix (g_mix (0 : Int64) x2) x3) (3 : Int64)), .long x3]) (rest := [.int (((2 : Int32) * (nI e1)) + (0 : Int32)), .ref (α 23)]) ⟨hx, hb, hml, hown, hts⟩ (c_M_mix l (g_mix (g_mix (g_mix (0 : Int64) x2) x3) (3 : Int64)) x3) (cwS 2 hts (xa_S xw1091 xw1092 xw11 xw1093) rfl rfl rfl (by decide +kernel) ⟨Nat.le_of_ble_eq_true rfl, Nat.le_of_ble_eq_true rfl⟩) preEq rfl rfl hl.1 rfl (lv_room (Nat.le_of_ble_eq_true rfl)) d_M_agree_110 ⟨Nat.le_of_ble_eq_true rfl, Nat.le_of_ble_eq_true rfl⟩) (fun r_ e_ => ?_)
      subst e_
      refine sm_paJ (L := 4) (n := ((2 * e1) + 0)) (x := (g_mix (g_mix (g_mix (g_mix (0 : Int64) x2) x3) (3 : Int64)) x3)) hx hb hK hP 23 22 rfl rfl hD hS (xb_in (xb_na (xb_nm (xb_lit (x := (2 : Int32)) 2 rfl) (xb_lit e1 rfl)) (xb_lit (x := (0 : Int32)) 0 rfl)) (by omega) (by decide)) (xb_cl (xb_na (xb_nm (xb_lit (x := (2 : Int32)) 2 rfl) (xb_lit e1 rfl)) (xb_lit (x := (0 : Int32)) 0 rfl)) (by omega)) sm_s_23 d_M_agree_113 (fun H locs hP hS => ?_)
      refine lv_iinc (v := (1 : Int32)) (k := 2) (lv' := [(6, .int (1 : Int32)), (8, .long (g_mix (g_mix (0 : Int64) x2) x3)), (7, .int (((2 : Int32) * (nI e1)) + (0 : Int32))), (0, .ref (α 0)), (1, .int (nI e1)), (2, .long x2), (4, .long x3)]) hx hb d_M_agree_114 hl rfl (by decide) (by decide) rfl (fun ls hl => ?_)
      refine lv_goto (tgt := 27) hx hb d_M_agree_117 (by decide) ?_
      refine lv_iload hx hb d_M_agree_27 (lv_at hl 0 rfl) ?_
      refine lv_iconst (v := 2) hx hb d_M_agree_29 (by decide) ?_
      refine lv_icmp_ge (tgt := 120) hx hb d_M_agree_30 (by decide) (fun h_ => absurd h_ (by decide)) (fun _ => ?_)
      refine lv_iconst (v := 2) hx hb d_M_agree_33 (by decide) ?_
      refine lv_iload_n hx hb d_M_agree_34 rfl (lv_at hl 4 rfl) ?_
      refine lv_imul hx hb d_M_agree_35 ?_
      refine lv_iload hx hb d_M_agree_36 (lv_at hl 0 rfl) ?_
      refine lv_iload_n hx hb d_M_agree_38 rfl (lv_at hl 4 rfl) ?_
      refine lv_icmp_ne (tgt := 46) hx hb d_M_agree_39 (by decide) (fun c7 => ?_) (fun c7 => ?_)
      · skip
        have nc7 := mt (xb_eqN (xb_lit (x := (1 : Int32)) 1 rfl) (xb_lit e1 rfl) (by omega) (by omega)).mpr c7
        refine lv_iconst (v := 1) hx hb d_M_agree_46 (by decide) ?_
        refine lv_iadd hx hb d_M_agree_47 ?_
        refine lv_istore (lv' := [(7, .int (((2 : Int32) * (nI e1)) + (1 : Int32))), (6, .int (1 : Int32)), (8, .long (g_mix (g_mix (0 : Int64) x2) x3)), (0, .ref (α 0)), (1, .int (nI e1)), (2, .long x2), (4, .long x3)]) hx hb d_M_agree_48 hl (by decide) rfl (fun ls hl => ?_)
        refine lv_lconst (v := 0) hx hb d_M_agree_50 (by decide) ?_
        refine lv_lload_n hx hb d_M_agree_51 rfl (lv_at hl 5 rfl) ?_
        refine vp_callSl (W.runS (As := [.long (0 : Int64), .long x2]) (rest := []) ⟨hx, hb, hml, hown, hts⟩ (c_M_mix l (0 : Int64) x2) (cwS 2 hts (xa_S xw1091 xw1092 xw11 xw1093) rfl rfl rfl (by decide +kernel) ⟨Nat.le_of_ble_eq_true rfl, Nat.le_of_ble_eq_true rfl⟩) preEq rfl rfl hl.1 rfl (lv_room (Nat.le_of_ble_eq_true rfl)) d_M_agree_52 ⟨Nat.le_of_ble_eq_true rfl, Nat.le_of_ble_eq_true rfl⟩) (fun r_ e_ => ?_)
        subst e_
        refine lv_lload hx hb d_M_agree_55 (lv_at hl 6 rfl) ?_
        refine vp_callSl (W.runS (As := [.long (g_mix (0 : Int64) x2), .long x3]) (rest := []) ⟨hx, hb, hml, hown, hts⟩ (c_M_mix l (g_mix (0 : Int64) x2) x3) (cwS 2 hts (xa_S xw1091 xw1092 xw11 xw1093) rfl rfl rfl (by decide +kernel) ⟨Nat.le_of_ble_eq_true rfl, Nat.le_of_ble_eq_true rfl⟩) preEq rfl rfl hl.1 rfl (lv_room (Nat.le_of_ble_eq_true rfl)) d_M_agree_57 ⟨Nat.le_of_ble_eq_true rfl, Nat.le_of_ble_eq_true rfl⟩) (fun r_ e_ => ?_)
        subst e_
        refine lv_lstore (lv' := [(8, .long (g_mix (g_mix (0 : Int64) x2) x3)), (7, .int (((2 : Int32) * (nI e1)) + (1 : Int32))), (6, .int (1 : Int32)), (0, .ref (α 0)), (1, .int (nI e1)), (2, .long x2), (4, .long x3)]) hx hb d_M_agree_60 hl (by decide) rfl (fun ls hl => ?_)
        refine lv_aload_n hx hb d_M_agree_62 rfl (lv_at hl 3 rfl) ?_
        refine sm_g (v := .ref (α 22)) hx hb ht hown hK hP 24 (by decide) (ht _ xw976) (fun _ h_ => h_) rfl d_M_agree_63 ?_
        refine lv_iload hx hb d_M_agree_66 (lv_at hl 1 rfl) ?_
        refine lv_lload hx hb d_M_agree_68 (lv_at hl 0 rfl) ?_
        refine lv_iload hx hb d_M_agree_70 (lv_at hl 2 rfl) ?_
        refine lv_iconst (v := 1) hx hb d_M_agree_72 (by decide) ?_
        refine lv_iadd hx hb d_M_agree_73 ?_
        refine xb_ti (y := (2 : Int32)) (by decide) ?_
        refine lv_i2l (v := (2 : Int64)) hx hb d_M_agree_74 (by decide) ?_
        refine vp_callSl (W.runS (As := [.long (g_mix (g_mix (0 : Int64) x2) x3), .long (2 : Int64)]) (rest := [.int (((2 : Int32) * (nI e1)) + (1 : Int32)), .ref (α 22)]) ⟨hx, hb, hml, hown, hts⟩ (c_M_mix l (g_mix (g_mix (0 : Int64) x2) x3) (2 : Int64)) (cwS 2 hts (xa_S xw1091 xw1092 xw11 xw1093) rfl rfl rfl (by decide +kernel) ⟨Nat.le_of_ble_eq_true rfl, Nat.le_of_ble_eq_true rfl⟩) preEq rfl rfl hl.1 rfl (lv_room (Nat.le_of_ble_eq_true rfl)) d_M_agree_75 ⟨Nat.le_of_ble_eq_true rfl, Nat.le_of_ble_eq_true rfl⟩) (fun r_ e_ => ?_)
        subst e_
        refine lv_aload_n hx hb d_M_agree_78 rfl (lv_at hl 3 rfl) ?_
        refine sm_g (v := .ref (α 9)) hx hb ht hown hK hP 11 (by decide) (ht _ xw963) (fun _ h_ => h_) rfl d_M_agree_79 ?_
        refine lv_iload_n hx hb d_M_agree_82 rfl (lv_at hl 4 rfl) ?_
        refine sm_gaJ (L := 2) (n := e1) (v := x3) hx hb hK hP 9 8 rfl rfl (xb_in (xb_lit e1 rfl) (by omega) (by decide)) (xb_cl (xb_lit e1 rfl) (by omega)) (((xb_l_nk (by decide))).trans (((xb_l_nk (by decide))).trans (xb_l_hit))) d_M_agree_83 ?_
        refine vp_callSl (W.runS (As := [.long (g_mix (g_mix (g_mix (0 : Int64) x2) x3) (2 : Int64)), .long x3]) (rest := [.int (((2 : Int32) * (nI e1)) + (1 : Int32)), .ref (α 22)]) ⟨hx, hb, hml, hown, hts⟩ (c_M_mix l (g_mix (g_mix (g_mix (0 : Int64) x2) x3) (2 : Int64)) x3) (cwS 2 hts (xa_S xw1091 xw1092 xw11 xw1093) rfl rfl rfl (by decide +kernel) ⟨Nat.le_of_ble_eq_true rfl, Nat.le_of_ble_eq_true rfl⟩) preEq rfl rfl hl.1 rfl (lv_room (Nat.le_of_ble_eq_true rfl)) d_M_agree_84 ⟨Nat.le_of_ble_eq_true rfl, Nat.le_of_ble_eq_true rfl⟩) (fun r_ e_ => ?_)
        subst e_
        refine sm_paJ (L := 4) (n := ((2 * e1) + 1)) (x := (g_mix (g_mix (g_mix (g_mix (0 : Int64) x2) x3) (2 : Int64)) x3)) hx hb hK hP 22 21 rfl rfl hD hS (xb_in (xb_na (xb_nm (xb_lit (x := (2 : Int32)) 2 rfl) (xb_lit e1 rfl)) (xb_lit (x := (1 : Int32)) 1 rfl)) (by omega) (by decide)) (xb_cl (xb_na (xb_nm (xb_lit (x := (2 : Int32)) 2 rfl) (xb_lit e1 rfl)) (xb_lit (x := (1 : Int32)) 1 rfl)) (by omega)) sm_s_22 d_M_agree_87 (fun H locs hP hS => ?_)
        refine lv_aload_n hx hb d_M_agree_88 rfl (lv_at hl 3 rfl) ?_
        refine sm_g (v := .ref (α 23)) hx hb ht hown hK hP 25 (by decide) (ht _ xw977) (fun _ h_ => h_) rfl d_M_agree_89 ?_
        refine lv_iload hx hb d_M_agree_92 (lv_at hl 1 rfl) ?_
        refine lv_lload hx hb d_M_agree_94 (lv_at hl 0 rfl) ?_
        refine lv_iload hx hb d_M_agree_96 (lv_at hl 2 rfl) ?_
        refine lv_iconst (v := 3) hx hb d_M_agree_98 (by decide) ?_
        refine lv_iadd hx hb d_M_agree_99 ?_
        refine xb_ti (y := (4 : Int32)) (by decide) ?_
        refine lv_i2l (v := (4 : Int64)) hx hb d_M_agree_100 (by decide) ?_
        refine vp_callSl (W.runS (As := [.long (g_mix (g_mix (0 : Int64) x2) x3), .long (4 : Int64)]) (rest := [.int (((2 : Int32) * (nI e1)) + (1 : Int32)), .ref (α 23)]) ⟨hx, hb, hml, hown, hts⟩ (c_M_mix l (g_mix (g_mix (0 : Int64) x2) x3) (4 : Int64)) (cwS 2 hts (xa_S xw1091 xw1092 xw11 xw1093) rfl rfl rfl (by decide +kernel) ⟨Nat.le_of_ble_eq_true rfl, Nat.le_of_ble_eq_true rfl⟩) preEq rfl rfl hl.1 rfl (lv_room (Nat.le_of_ble_eq_true rfl)) d_M_agree_101 ⟨Nat.le_of_ble_eq_true rfl, Nat.le_of_ble_eq_true rfl⟩) (fun r_ e_ => ?_)
        subst e_
        refine lv_aload_n hx hb d_M_agree_104 rfl (lv_at hl 3 rfl) ?_
        refine sm_g (v := .ref (α 9)) hx hb ht hown hK hP 11 (by decide) (ht _ xw963) (fun _ h_ => h_) rfl d_M_agree_105 ?_
        refine lv_iload_n hx hb d_M_agree_108 rfl (lv_at hl 4 rfl) ?_
        refine sm_gaJ (L := 2) (n := e1) (v := x3) hx hb hK hP 9 8 rfl rfl (xb_in (xb_lit e1 rfl) (by omega) (by decide)) (xb_cl (xb_lit e1 rfl) (by omega)) (((xb_l_nk (by decide))).trans (((xb_l_nk (by decide))).trans (((xb_l_nk (by decide))).trans (xb_l_hit)))) d_M_agree_109 ?_
        refine vp_callSl (W.runS (As := [.long (g_mix (g_mix (g_mix (0 : Int64) x2) x3) (4 : Int64)), .long x3]) (rest := [.int (((2 : Int32) * (nI e1)) + (1 : Int32)), .ref (α 23)]) ⟨hx, hb, hml, hown, hts⟩ (c_M_mix l (g_mix (g_mix (g_mix (0 : Int64) x2) x3) (4 : Int64)) x3) (cwS 2 hts (xa_S xw1091 xw1092 xw11 xw1093) rfl rfl rfl (by decide +kernel) ⟨Nat.le_of_ble_eq_true rfl, Nat.le_of_ble_eq_true rfl⟩) preEq rfl rfl hl.1 rfl (lv_room (Nat.le_of_ble_eq_true rfl)) d_M_agree_110 ⟨Nat.le_of_ble_eq_true rfl, Nat.le_of_ble_eq_true rfl⟩) (fun r_ e_ => ?_)
        subst e_
        refine sm_paJ (L := 4) (n := ((2 * e1) + 1)) (x := (g_mix (g_mix (g_mix (g_mix (0 : Int64) x2) x3) (4 : Int64)) x3)) hx hb hK hP 23 22 rfl rfl hD hS (xb_in (xb_na (xb_nm (xb_lit (x := (2 : Int32)) 2 rfl) (xb_lit e1 rfl)) (xb_lit (x := (1 : Int32)) 1 rfl)) (by omega) (by decide)) (xb_cl (xb_na (xb_nm (xb_lit (x := (2 : Int32)) 2 rfl) (xb_lit e1 rfl)) (xb_lit (x := (1 : Int32)) 1 rfl)) (by omega)) sm_s_23 d_M_agree_113 (fun H locs hP hS => ?_)
        refine lv_iinc (v := (2 : Int32)) (k := 2) (lv' := [(6, .int (2 : Int32)), (8, .long (g_mix (g_mix (0 : Int64) x2) x3)), (7, .int (((2 : Int32) * (nI e1)) + (1 : Int32))), (0, .ref (α 0)), (1, .int (nI e1)), (2, .long x2), (4, .long x3)]) hx hb d_M_agree_114 hl rfl (by decide) (by decide) rfl (fun ls hl => ?_)
        refine lv_goto (tgt := 27) hx hb d_M_agree_117 (by decide) ?_
        refine lv_iload hx hb d_M_agree_27 (lv_at hl 0 rfl) ?_
        refine lv_iconst (v := 2) hx hb d_M_agree_29 (by decide) ?_
        refine lv_icmp_ge (tgt := 120) hx hb d_M_agree_30 (by decide) (fun _ => ?_) (fun h_ => absurd h_ (by decide))
        exact W.vret hx hb hr (fun t ht_ hW => ⟨⟨(xb_sl (xb_sl (xb_sl (xb_sl (xb_sl (xb_si σ 10 e1 (1 : Int32)) 9 e1 x3) 22 ((2 * e1) + 0) (g_mix (g_mix (g_mix (g_mix (0 : Int64) x2) x3) (1 : Int64)) x3)) 23 ((2 * e1) + 0) (g_mix (g_mix (g_mix (g_mix (0 : Int64) x2) x3) (3 : Int64)) x3)) 22 ((2 * e1) + 1) (g_mix (g_mix (g_mix (g_mix (0 : Int64) x2) x3) (2 : Int64)) x3)) 23 ((2 * e1) + 1) (g_mix (g_mix (g_mix (g_mix (0 : Int64) x2) x3) (4 : Int64)) x3)), rfl, ((if_pos c1).trans ((if_pos c5).trans ((if_neg c7)))).symm, by rw [sm_B, ht_]; exact hP⟩, hS.F ht_⟩) hS.2.2 d_M_agree_120
      · skip
        have nc7 := (xb_eqN (xb_lit (x := (1 : Int32)) 1 rfl) (xb_lit e1 rfl) (by omega) (by omega)).mp c7
        refine lv_iconst (v := 0) hx hb d_M_agree_42 (by decide) ?_
        refine lv_goto (tgt := 47) hx hb d_M_agree_43 (by decide) ?_
        refine lv_iadd hx hb d_M_agree_47 ?_
        refine lv_istore (lv' := [(7, .int (((2 : Int32) * (nI e1)) + (0 : Int32))), (6, .int (1 : Int32)), (8, .long (g_mix (g_mix (0 : Int64) x2) x3)), (0, .ref (α 0)), (1, .int (nI e1)), (2, .long x2), (4, .long x3)]) hx hb d_M_agree_48 hl (by decide) rfl (fun ls hl => ?_)
        refine lv_lconst (v := 0) hx hb d_M_agree_50 (by decide) ?_
        refine lv_lload_n hx hb d_M_agree_51 rfl (lv_at hl 5 rfl) ?_
        refine vp_callSl (W.runS (As := [.long (0 : Int64), .long x2]) (rest := []) ⟨hx, hb, hml, hown, hts⟩ (c_M_mix l (0 : Int64) x2) (cwS 2 hts (xa_S xw1091 xw1092 xw11 xw1093) rfl rfl rfl (by decide +kernel) ⟨Nat.le_of_ble_eq_true rfl, Nat.le_of_ble_eq_true rfl⟩) preEq rfl rfl hl.1 rfl (lv_room (Nat.le_of_ble_eq_true rfl)) d_M_agree_52 ⟨Nat.le_of_ble_eq_true rfl, Nat.le_of_ble_eq_true rfl⟩) (fun r_ e_ => ?_)
        subst e_
        refine lv_lload hx hb d_M_agree_55 (lv_at hl 6 rfl) ?_
        refine vp_callSl (W.runS (As := [.long (g_mix (0 : Int64) x2), .long x3]) (rest := []) ⟨hx, hb, hml, hown, hts⟩ (c_M_mix l (g_mix (0 : Int64) x2) x3) (cwS 2 hts (xa_S xw1091 xw1092 xw11 xw1093) rfl rfl rfl (by decide +kernel) ⟨Nat.le_of_ble_eq_true rfl, Nat.le_of_ble_eq_true rfl⟩) preEq rfl rfl hl.1 rfl (lv_room (Nat.le_of_ble_eq_true rfl)) d_M_agree_57 ⟨Nat.le_of_ble_eq_true rfl, Nat.le_of_ble_eq_true rfl⟩) (fun r_ e_ => ?_)
        subst e_
        refine lv_lstore (lv' := [(8, .long (g_mix (g_mix (0 : Int64) x2) x3)), (7, .int (((2 : Int32) * (nI e1)) + (0 : Int32))), (6, .int (1 : Int32)), (0, .ref (α 0)), (1, .int (nI e1)), (2, .long x2), (4, .long x3)]) hx hb d_M_agree_60 hl (by decide) rfl (fun ls hl => ?_)
        refine lv_aload_n hx hb d_M_agree_62 rfl (lv_at hl 3 rfl) ?_
        refine sm_g (v := .ref (α 22)) hx hb ht hown hK hP 24 (by decide) (ht _ xw976) (fun _ h_ => h_) rfl d_M_agree_63 ?_
        refine lv_iload hx hb d_M_agree_66 (lv_at hl 1 rfl) ?_
        refine lv_lload hx hb d_M_agree_68 (lv_at hl 0 rfl) ?_
        refine lv_iload hx hb d_M_agree_70 (lv_at hl 2 rfl) ?_
        refine lv_iconst (v := 1) hx hb d_M_agree_72 (by decide) ?_
        refine lv_iadd hx hb d_M_agree_73 ?_
        refine xb_ti (y := (2 : Int32)) (by decide) ?_
        refine lv_i2l (v := (2 : Int64)) hx hb d_M_agree_74 (by decide) ?_
        refine vp_callSl (W.runS (As := [.long (g_mix (g_mix (0 : Int64) x2) x3), .long (2 : Int64)]) (rest := [.int (((2 : Int32) * (nI e1)) + (0 : Int32)), .ref (α 22)]) ⟨hx, hb, hml, hown, hts⟩ (c_M_mix l (g_mix (g_mix (0 : Int64) x2) x3) (2 : Int64)) (cwS 2 hts (xa_S xw1091 xw1092 xw11 xw1093) rfl rfl rfl (by decide +kernel) ⟨Nat.le_of_ble_eq_true rfl, Nat.le_of_ble_eq_true rfl⟩) preEq rfl rfl hl.1 rfl (lv_room (Nat.le_of_ble_eq_true rfl)) d_M_agree_75 ⟨Nat.le_of_ble_eq_true rfl, Nat.le_of_ble_eq_true rfl⟩) (fun r_ e_ => ?_)
        subst e_
        refine lv_aload_n hx hb d_M_agree_78 rfl (lv_at hl 3 rfl) ?_
        refine sm_g (v := .ref (α 9)) hx hb ht hown hK hP 11 (by decide) (ht _ xw963) (fun _ h_ => h_) rfl d_M_agree_79 ?_
        refine lv_iload_n hx hb d_M_agree_82 rfl (lv_at hl 4 rfl) ?_
        refine sm_gaJ (L := 2) (n := e1) (v := x3) hx hb hK hP 9 8 rfl rfl (xb_in (xb_lit e1 rfl) (by omega) (by decide)) (xb_cl (xb_lit e1 rfl) (by omega)) (((xb_l_nk (by decide))).trans (((xb_l_nk (by decide))).trans (xb_l_hit))) d_M_agree_83 ?_
        refine vp_callSl (W.runS (As := [.long (g_mix (g_mix (g_mix (0 : Int64) x2) x3) (2 : Int64)), .long x3]) (rest := [.int (((2 : Int32) * (nI e1)) + (0 : Int32)), .ref (α 22)]) ⟨hx, hb, hml, hown, hts⟩ (c_M_mix l (g_mix (g_mix (g_mix (0 : Int64) x2) x3) (2 : Int64)) x3) (cwS 2 hts (xa_S xw1091 xw1092 xw11 xw1093) rfl rfl rfl (by decide +kernel) ⟨Nat.le_of_ble_eq_true rfl, Nat.le_of_ble_eq_true rfl⟩) preEq rfl rfl hl.1 rfl (lv_room (Nat.le_of_ble_eq_true rfl)) d_M_agree_84 ⟨Nat.le_of_ble_eq_true rfl, Nat.le_of_ble_eq_true rfl⟩) (fun r_ e_ => ?_)
        subst e_
        refine sm_paJ (L := 4) (n := ((2 * e1) + 0)) (x := (g_mix (g_mix (g_mix (g_mix (0 : Int64) x2) x3) (2 : Int64)) x3)) hx hb hK hP 22 21 rfl rfl hD hS (xb_in (xb_na (xb_nm (xb_lit (x := (2 : Int32)) 2 rfl) (xb_lit e1 rfl)) (xb_lit (x := (0 : Int32)) 0 rfl)) (by omega) (by decide)) (xb_cl (xb_na (xb_nm (xb_lit (x := (2 : Int32)) 2 rfl) (xb_lit e1 rfl)) (xb_lit (x := (0 : Int32)) 0 rfl)) (by omega)) sm_s_22 d_M_agree_87 (fun H locs hP hS => ?_)
        refine lv_aload_n hx hb d_M_agree_88 rfl (lv_at hl 3 rfl) ?_
        refine sm_g (v := .ref (α 23)) hx hb ht hown hK hP 25 (by decide) (ht _ xw977) (fun _ h_ => h_) rfl d_M_agree_89 ?_
        refine lv_iload hx hb d_M_agree_92 (lv_at hl 1 rfl) ?_
        refine lv_lload hx hb d_M_agree_94 (lv_at hl 0 rfl) ?_
        refine lv_iload hx hb d_M_agree_96 (lv_at hl 2 rfl) ?_
        refine lv_iconst (v := 3) hx hb d_M_agree_98 (by decide) ?_
        refine lv_iadd hx hb d_M_agree_99 ?_
        refine xb_ti (y := (4 : Int32)) (by decide) ?_
        refine lv_i2l (v := (4 : Int64)) hx hb d_M_agree_100 (by decide) ?_
        refine vp_callSl (W.runS (As := [.long (g_mix (g_mix (0 : Int64) x2) x3), .long (4 : Int64)]) (rest := [.int (((2 : Int32) * (nI e1)) + (0 : Int32)), .ref (α 23)]) ⟨hx, hb, hml, hown, hts⟩ (c_M_mix l (g_mix (g_mix (0 : Int64) x2) x3) (4 : Int64)) (cwS 2 hts (xa_S xw1091 xw1092 xw11 xw1093) rfl rfl rfl (by decide +kernel) ⟨Nat.le_of_ble_eq_true rfl, Nat.le_of_ble_eq_true rfl⟩) preEq rfl rfl hl.1 rfl (lv_room (Nat.le_of_ble_eq_true rfl)) d_M_agree_101 ⟨Nat.le_of_ble_eq_true rfl, Nat.le_of_ble_eq_true rfl⟩) (fun r_ e_ => ?_)
        subst e_
        refine lv_aload_n hx hb d_M_agree_104 rfl (lv_at hl 3 rfl) ?_
        refine sm_g (v := .ref (α 9)) hx hb ht hown hK hP 11 (by decide) (ht _ xw963) (fun _ h_ => h_) rfl d_M_agree_105 ?_
        refine lv_iload_n hx hb d_M_agree_108 rfl (lv_at hl 4 rfl) ?_
        refine sm_gaJ (L := 2) (n := e1) (v := x3) hx hb hK hP 9 8 rfl rfl (xb_in (xb_lit e1 rfl) (by omega) (by decide)) (xb_cl (xb_lit e1 rfl) (by omega)) (((xb_l_nk (by decide))).trans (((xb_l_nk (by decide))).trans (((xb_l_nk (by decide))).trans (xb_l_hit)))) d_M_agree_109 ?_
        refine vp_callSl (W.runS (As := [.long (g_mix (g_mix (g_mix (0 : Int64) x2) x3) (4 : Int64)), .long x3]) (rest := [.int (((2 : Int32) * (nI e1)) + (0 : Int32)), .ref (α 23)]) ⟨hx, hb, hml, hown, hts⟩ (c_M_mix l (g_mix (g_mix (g_mix (0 : Int64) x2) x3) (4 : Int64)) x3) (cwS 2 hts (xa_S xw1091 xw1092 xw11 xw1093) rfl rfl rfl (by decide +kernel) ⟨Nat.le_of_ble_eq_true rfl, Nat.le_of_ble_eq_true rfl⟩) preEq rfl rfl hl.1 rfl (lv_room (Nat.le_of_ble_eq_true rfl)) d_M_agree_110 ⟨Nat.le_of_ble_eq_true rfl, Nat.le_of_ble_eq_true rfl⟩) (fun r_ e_ => ?_)
        subst e_
        refine sm_paJ (L := 4) (n := ((2 * e1) + 0)) (x := (g_mix (g_mix (g_mix (g_mix (0 : Int64) x2) x3) (4 : Int64)) x3)) hx hb hK hP 23 22 rfl rfl hD hS (xb_in (xb_na (xb_nm (xb_lit (x := (2 : Int32)) 2 rfl) (xb_lit e1 rfl)) (xb_lit (x := (0 : Int32)) 0 rfl)) (by omega) (by decide)) (xb_cl (xb_na (xb_nm (xb_lit (x := (2 : Int32)) 2 rfl) (xb_lit e1 rfl)) (xb_lit (x := (0 : Int32)) 0 rfl)) (by omega)) sm_s_23 d_M_agree_113 (fun H locs hP hS => ?_)
        refine lv_iinc (v := (2 : Int32)) (k := 2) (lv' := [(6, .int (2 : Int32)), (8, .long (g_mix (g_mix (0 : Int64) x2) x3)), (7, .int (((2 : Int32) * (nI e1)) + (0 : Int32))), (0, .ref (α 0)), (1, .int (nI e1)), (2, .long x2), (4, .long x3)]) hx hb d_M_agree_114 hl rfl (by decide) (by decide) rfl (fun ls hl => ?_)
        refine lv_goto (tgt := 27) hx hb d_M_agree_117 (by decide) ?_
        refine lv_iload hx hb d_M_agree_27 (lv_at hl 0 rfl) ?_
        refine lv_iconst (v := 2) hx hb d_M_agree_29 (by decide) ?_
        refine lv_icmp_ge (tgt := 120) hx hb d_M_agree_30 (by decide) (fun _ => ?_) (fun h_ => absurd h_ (by decide))
        exact W.vret hx hb hr (fun t ht_ hW => ⟨⟨(xb_sl (xb_sl (xb_sl (xb_sl (xb_sl (xb_si σ 10 e1 (1 : Int32)) 9 e1 x3) 22 ((2 * e1) + 0) (g_mix (g_mix (g_mix (g_mix (0 : Int64) x2) x3) (1 : Int64)) x3)) 23 ((2 * e1) + 0) (g_mix (g_mix (g_mix (g_mix (0 : Int64) x2) x3) (3 : Int64)) x3)) 22 ((2 * e1) + 0) (g_mix (g_mix (g_mix (g_mix (0 : Int64) x2) x3) (2 : Int64)) x3)) 23 ((2 * e1) + 0) (g_mix (g_mix (g_mix (g_mix (0 : Int64) x2) x3) (4 : Int64)) x3)), rfl, ((if_pos c1).trans ((if_pos c5).trans ((if_pos c7)))).symm, by rw [sm_B, ht_]; exact hP⟩, hS.F ht_⟩) hS.2.2 d_M_agree_120
theorem ok_q_agree {σ : xb_St} (e1 : Nat) (x2 : Int64) (x3 : Int64) (b_e1 : e1 < 2) (ok : sm_ok σ) : sm_ok (q_agree e1 x2 x3 σ) := by
  unfold q_agree
  by_cases c1 : (σ.1 10 e1) = 0
  · rw [if_pos c1]
    by_cases c5 : (0 : Int32) = (nI e1)
    · rw [if_pos c5]
      by_cases c7 : (1 : Int32) = (nI e1)
      · rw [if_pos c7]
        exact (mk_sl (mk_sl (mk_sl (mk_sl (mk_sl (mk_si ok (by decide)))))))
      · rw [if_neg c7]
        exact (mk_sl (mk_sl (mk_sl (mk_sl (mk_sl (mk_si ok (by decide)))))))
    · rw [if_neg c5]
      by_cases c6 : (1 : Int32) = (nI e1)
      · rw [if_pos c6]
        exact (mk_sl (mk_sl (mk_sl (mk_sl (mk_sl (mk_si ok (by decide)))))))
      · rw [if_neg c6]
        exact (mk_sl (mk_sl (mk_sl (mk_sl (mk_sl (mk_si ok (by decide)))))))
  · rw [if_neg c1]
    by_cases c2 : (0 : Int32) = (nI e1)
    · rw [if_pos c2]
      by_cases c4 : (1 : Int32) = (nI e1)
      · rw [if_pos c4]
        exact (mk_sl (mk_sl (mk_sl (mk_sl ok))))
      · rw [if_neg c4]
        exact (mk_sl (mk_sl (mk_sl (mk_sl ok))))
    · rw [if_neg c2]
      by_cases c3 : (1 : Int32) = (nI e1)
      · rw [if_pos c3]
        exact (mk_sl (mk_sl (mk_sl (mk_sl ok))))
      · rw [if_neg c3]
        exact (mk_sl (mk_sl (mk_sl (mk_sl ok))))
abbrev b_M_turn : ByteArray := prog_12_method_24_code
def y_M_turn : MethodName := ⟨"SecurePairModel", "turn", "(I)V"⟩
abbrev w_M_turn : List Cond := .code y_M_turn b_M_turn 2 none :: xa
theorem d_M_turn_0 : decode b_M_turn 0 = .ok (.aload_n 0, 1) := by decide +kernel
theorem d_M_turn_1 : decode b_M_turn 1 = .ok (.iload_n 1, 1) := by decide +kernel
theorem d_M_turn_2 : decode b_M_turn 2 = .ok (.bipush 21, 2) := by decide +kernel
theorem d_M_turn_4 : decode b_M_turn 4 = .ok (.lconst 0, 1) := by decide +kernel
theorem d_M_turn_5 : decode b_M_turn 5 = .ok (.lconst 0, 1) := by decide +kernel
theorem d_M_turn_6 : decode b_M_turn 6 = .ok (.lconst 0, 1) := by decide +kernel
theorem d_M_turn_7 : decode b_M_turn 7 = .ok (.lconst 0, 1) := by decide +kernel
theorem d_M_turn_8 : decode b_M_turn 8 = .ok (.invokevirtual 165, 3) := by decide +kernel
theorem d_M_turn_11 : decode b_M_turn 11 = .ok (.aload_n 0, 1) := by decide +kernel
theorem d_M_turn_12 : decode b_M_turn 12 = .ok (.iload_n 1, 1) := by decide +kernel
theorem d_M_turn_13 : decode b_M_turn 13 = .ok (.iconst 0, 1) := by decide +kernel
theorem d_M_turn_14 : decode b_M_turn 14 = .ok (.invokevirtual 194, 3) := by decide +kernel
theorem d_M_turn_17 : decode b_M_turn 17 = .ok (.aload_n 0, 1) := by decide +kernel
theorem d_M_turn_18 : decode b_M_turn 18 = .ok (.getfield 35, 3) := by decide +kernel
theorem d_M_turn_21 : decode b_M_turn 21 = .ok (.iload_n 1, 1) := by decide +kernel
theorem d_M_turn_22 : decode b_M_turn 22 = .ok (.iconst 0, 1) := by decide +kernel
theorem d_M_turn_23 : decode b_M_turn 23 = .ok (.iastore, 1) := by decide +kernel
theorem d_M_turn_24 : decode b_M_turn 24 = .ok (.aload_n 0, 1) := by decide +kernel
theorem d_M_turn_25 : decode b_M_turn 25 = .ok (.getfield 25, 3) := by decide +kernel
theorem d_M_turn_28 : decode b_M_turn 28 = .ok (.iload_n 1, 1) := by decide +kernel
theorem d_M_turn_29 : decode b_M_turn 29 = .ok (.iconst 3, 1) := by decide +kernel
theorem d_M_turn_30 : decode b_M_turn 30 = .ok (.iastore, 1) := by decide +kernel
theorem d_M_turn_31 : decode b_M_turn 31 = .ok (.return_, 1) := by decide +kernel
theorem xw1160 : (Cond.methodLink "SecurePairModel" (194 : Nat) ({ cls := "SecurePairModel", name := "change", desc := "(II)V" } : MethodName)) ∈ xa := xa_t 1160 (by decide +kernel) (by decide +kernel)
theorem xw1162 : (Cond.instanceMethod ({ cls := "SecurePairModel", name := "change", desc := "(II)V" } : MethodName)) ∈ xa := xa_t 1162 (by decide +kernel) (by decide +kernel)
theorem xw1163 : (Cond.code ({ cls := "SecurePairModel", name := "change", desc := "(II)V" } : MethodName) prog_12_method_23_code (4 : Nat) (Option.none : Option ClassFile.FieldType)) ∈ xa := xa_t 1163 (by decide +kernel) (by decide +kernel)
theorem xs16 : (Cond.selects "SecurePairModel" ⟨"SecurePairModel", "change", "(II)V"⟩ ⟨"SecurePairModel", "change", "(II)V"⟩) ∈ xa := xa_s 16 (by decide +kernel) (by decide +kernel)
def q_turn (e1 : Nat) (σ : xb_St) : xb_St := (xb_si (xb_si (q_change e1 0 (q_send e1 (21 : Int32) (0 : Int64) (0 : Int64) (0 : Int64) (0 : Int64) σ)) 7 e1 (0 : Int32)) 4 e1 (3 : Int32))
set_option maxHeartbeats 4000000 in
set_option maxRecDepth 100000 in
theorem c_M_turn (l : Launch) (D : va_G) (α : Nat → Nat) (κ : Nat → ClassId) (hα : xb_inj α 35) (σ : xb_St) (x_e1 : Int32) (e1 : Nat) (e_e1 : x_e1 = nI e1) (b_e1 : e1 < 2) (ok : sm_ok σ) : Met l y_M_turn w_M_turn ({ frames := 3, cells := 0, slots := 0, locals := 92 }) (va_Pc ([.ref (α 0), .int x_e1]) (sm_Pre D α κ σ)) (va_Qv (fun u : xb_St => u = q_turn e1 σ) (sm_B D α κ) (xb_A α 35)) 0 0 (xb_A α 35) := by
  subst e_e1
  refine Met.ofW (cc := b_M_turn) (maxL := 2) (ret := none) (by decide) rfl ?_
  intro p e s m args below meth c s₁ B_ hml hv
  obtain ⟨rfl, hP, hK, hN⟩ := hv
  have hx := B_.exec
  have hb := B_.bytes
  have hr := B_.returns
  have hts := atoms_spec (ws := w_M_turn) B_.pre
  have ht : ∀ w ∈ xa, w.before _ s = true := fun w h => hts w (List.mem_cons_of_mem _ h)
  have hown : s.vm.findClass "SecurePairModel" = some m.cls := findClass_of_methodNamed B_.named
  have hlocks := B_.notSynchronized
  have hD := sm_D hα κ
  have hS : va_S (xb_A α 35) s.heap s.heap [] := va_S.rf
  have hl := lv_entry ([.ref (α 0), .int (nI e1)]) (n := 2) (Nat.le_of_ble_eq_true rfl)
  rw [lg_entry_eq]
  generalize (lg_sl ([.ref (α 0), .int (nI e1)]) ++ List.replicate (2 - (lg_sl ([.ref (α 0), .int (nI e1)])).length) Slot.unset).toArray = ls at hl ⊢
  have hl : lv_has ls 2 [(0, .ref (α 0)), (1, .int (nI e1))] := hl
  refine lv_aload_n hx hb d_M_turn_0 rfl (lv_at hl 0 rfl) ?_
  refine lv_iload_n hx hb d_M_turn_1 rfl (lv_at hl 1 rfl) ?_
  refine lv_bipush (v := 21) hx hb d_M_turn_2 (by decide) ?_
  refine lv_lconst (v := 0) hx hb d_M_turn_4 (by decide) ?_
  refine lv_lconst (v := 0) hx hb d_M_turn_5 (by decide) ?_
  refine lv_lconst (v := 0) hx hb d_M_turn_6 (by decide) ?_
  refine lv_lconst (v := 0) hx hb d_M_turn_7 (by decide) ?_
  refine sm_cv (va_runV (As := [.int (nI e1), .int (21 : Int32), .long (0 : Int64), .long (0 : Int64), .long (0 : Int64), .long (0 : Int64)]) (rest := []) ⟨hx, hb, hml, hown, hts⟩ (c_M_send l D α κ hα σ (nI e1) e1 (xb_lit e1 rfl) (by omega) (21 : Int32) (0 : Int64) (0 : Int64) (0 : Int64) (0 : Int64) ok) (cwV 6 hts (xa_V xw1084 xw1086 xs6 xw11 xw1087) rfl rfl rfl (by decide +kernel) ⟨Nat.le_of_ble_eq_true rfl, Nat.le_of_ble_eq_true rfl⟩) ⟨sm_blind, va_recv (q0 := 0) (ci := 9) hK hP rfl rfl, sm_pre hP hK hN _⟩ rfl rfl hl.1 rfl (lv_room (Nat.le_of_ble_eq_true rfl)) d_M_turn_8 ⟨Nat.le_of_ble_eq_true rfl, Nat.le_of_ble_eq_true rfl⟩) hS (fun _ h_ => h_) (fun H locs hP hS => ?_)
  obtain ⟨τ1, hτ1⟩ : ∃ t_, t_ = (q_send e1 (21 : Int32) (0 : Int64) (0 : Int64) (0 : Int64) (0 : Int64) σ) := ⟨_, rfl⟩
  rw [← hτ1] at hP
  have okτ1 : sm_ok τ1 := by rw [hτ1]; exact (ok_q_send e1 (21 : Int32) (0 : Int64) (0 : Int64) (0 : Int64) (0 : Int64) (by omega) ok)
  refine lv_aload_n hx hb d_M_turn_11 rfl (lv_at hl 0 rfl) ?_
  refine lv_iload_n hx hb d_M_turn_12 rfl (lv_at hl 1 rfl) ?_
  refine lv_iconst (v := 0) hx hb d_M_turn_13 (by decide) ?_
  refine sm_cv (va_runV (As := [.int (nI e1), .int (0 : Int32)]) (rest := []) ⟨hx, hb, hml, hown, hts⟩ (c_M_change l D α κ hα τ1 (nI e1) e1 (xb_lit e1 rfl) (by omega) (0 : Int32) 0 (xb_lit (x := (0 : Int32)) 0 rfl) (by omega)) (cwV 2 hts (xa_V xw1160 xw1162 xs16 xw11 xw1163) rfl rfl rfl (by decide +kernel) ⟨Nat.le_of_ble_eq_true rfl, Nat.le_of_ble_eq_true rfl⟩) ⟨sm_blind, va_recv (q0 := 0) (ci := 9) hK hP rfl rfl, sm_pre hP hK hN _⟩ rfl rfl hl.1 rfl (lv_room (Nat.le_of_ble_eq_true rfl)) d_M_turn_14 ⟨Nat.le_of_ble_eq_true rfl, Nat.le_of_ble_eq_true rfl⟩) hS (fun _ h_ => h_) (fun H locs hP hS => ?_)
  obtain ⟨τ2, hτ2⟩ : ∃ t_, t_ = (q_change e1 0 τ1) := ⟨_, rfl⟩
  rw [← hτ2] at hP
  have okτ2 : sm_ok τ2 := by rw [hτ2]; exact (ok_q_change e1 0 (by omega) (by omega) okτ1)
  refine lv_aload_n hx hb d_M_turn_17 rfl (lv_at hl 0 rfl) ?_
  refine sm_g (v := .ref (α 7)) hx hb ht hown hK hP 9 (by decide) (ht _ xw961) (fun _ h_ => h_) rfl d_M_turn_18 ?_
  refine lv_iload_n hx hb d_M_turn_21 rfl (lv_at hl 1 rfl) ?_
  refine lv_iconst (v := 0) hx hb d_M_turn_22 (by decide) ?_
  refine sm_paI (L := 2) (n := e1) (x := (0 : Int32)) hx hb hK hP 7 6 rfl rfl hD hS (xb_in (xb_lit e1 rfl) (by omega) (by decide)) (xb_cl (xb_lit e1 rfl) (by omega)) sm_s_7 d_M_turn_23 (fun H locs hP hS => ?_)
  refine lv_aload_n hx hb d_M_turn_24 rfl (lv_at hl 0 rfl) ?_
  refine sm_g (v := .ref (α 4)) hx hb ht hown hK hP 6 (by decide) (ht _ xw958) (fun _ h_ => h_) rfl d_M_turn_25 ?_
  refine lv_iload_n hx hb d_M_turn_28 rfl (lv_at hl 1 rfl) ?_
  refine lv_iconst (v := 3) hx hb d_M_turn_29 (by decide) ?_
  refine sm_paI (L := 2) (n := e1) (x := (3 : Int32)) hx hb hK hP 4 3 rfl rfl hD hS (xb_in (xb_lit e1 rfl) (by omega) (by decide)) (xb_cl (xb_lit e1 rfl) (by omega)) sm_s_4 d_M_turn_30 (fun H locs hP hS => ?_)
  exact W.vret hx hb hr (fun t ht_ hW => ⟨⟨(xb_si (xb_si τ2 7 e1 (0 : Int32)) 4 e1 (3 : Int32)), rfl, (by subst hτ2; subst hτ1; exact rfl), by rw [sm_B, ht_]; exact hP⟩, hS.F ht_⟩) hS.2.2 d_M_turn_31
theorem ok_q_turn {σ : xb_St} (e1 : Nat) (b_e1 : e1 < 2) (ok : sm_ok σ) : sm_ok (q_turn e1 σ) := by
  unfold q_turn
  exact (mk_si (mk_si (ok_q_change e1 0 (by omega) (by omega) (ok_q_send e1 (21 : Int32) (0 : Int64) (0 : Int64) (0 : Int64) (0 : Int64) (by omega) ok)) (by decide)) (by decide))
