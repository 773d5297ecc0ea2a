abbrev b_M_initTaken : ByteArray := prog_12_method_20_code
def y_M_initTaken : MethodName := ⟨"SecurePairModel", "initTaken", "(IJJJ)V"⟩
abbrev w_M_initTaken : List Cond := .code y_M_initTaken b_M_initTaken 10 none :: xa
theorem d_M_initTaken_0 : decode b_M_initTaken 0 = .ok (.aload_n 0, 1) := by decide +kernel
theorem d_M_initTaken_1 : decode b_M_initTaken 1 = .ok (.getfield 25, 3) := by decide +kernel
theorem d_M_initTaken_4 : decode b_M_initTaken 4 = .ok (.iload_n 1, 1) := by decide +kernel
theorem d_M_initTaken_5 : decode b_M_initTaken 5 = .ok (.iaload, 1) := by decide +kernel
theorem d_M_initTaken_6 : decode b_M_initTaken 6 = .ok (.ifCond .eq 32, 3) := by decide +kernel
theorem d_M_initTaken_9 : decode b_M_initTaken 9 = .ok (.aload_n 0, 1) := by decide +kernel
theorem d_M_initTaken_10 : decode b_M_initTaken 10 = .ok (.getfield 25, 3) := by decide +kernel
theorem d_M_initTaken_13 : decode b_M_initTaken 13 = .ok (.iload_n 1, 1) := by decide +kernel
theorem d_M_initTaken_14 : decode b_M_initTaken 14 = .ok (.iaload, 1) := by decide +kernel
theorem d_M_initTaken_15 : decode b_M_initTaken 15 = .ok (.iconst 4, 1) := by decide +kernel
theorem d_M_initTaken_16 : decode b_M_initTaken 16 = .ok (.if_icmp .eq 22, 3) := by decide +kernel
theorem d_M_initTaken_19 : decode b_M_initTaken 19 = .ok (.aload_n 0, 1) := by decide +kernel
theorem d_M_initTaken_20 : decode b_M_initTaken 20 = .ok (.getfield 25, 3) := by decide +kernel
theorem d_M_initTaken_23 : decode b_M_initTaken 23 = .ok (.iload_n 1, 1) := by decide +kernel
theorem d_M_initTaken_24 : decode b_M_initTaken 24 = .ok (.iaload, 1) := by decide +kernel
theorem d_M_initTaken_25 : decode b_M_initTaken 25 = .ok (.iconst 1, 1) := by decide +kernel
theorem d_M_initTaken_26 : decode b_M_initTaken 26 = .ok (.if_icmp .eq 12, 3) := by decide +kernel
theorem d_M_initTaken_29 : decode b_M_initTaken 29 = .ok (.aload_n 0, 1) := by decide +kernel
theorem d_M_initTaken_30 : decode b_M_initTaken 30 = .ok (.iload_n 1, 1) := by decide +kernel
theorem d_M_initTaken_31 : decode b_M_initTaken 31 = .ok (.ldc2_w 134, 3) := by decide +kernel
theorem d_M_initTaken_34 : decode b_M_initTaken 34 = .ok (.invokevirtual 181, 3) := by decide +kernel
theorem d_M_initTaken_37 : decode b_M_initTaken 37 = .ok (.return_, 1) := by decide +kernel
theorem d_M_initTaken_38 : decode b_M_initTaken 38 = .ok (.aload_n 0, 1) := by decide +kernel
theorem d_M_initTaken_39 : decode b_M_initTaken 39 = .ok (.getfield 25, 3) := by decide +kernel
theorem d_M_initTaken_42 : decode b_M_initTaken 42 = .ok (.iload_n 1, 1) := by decide +kernel
theorem d_M_initTaken_43 : decode b_M_initTaken 43 = .ok (.iaload, 1) := by decide +kernel
theorem d_M_initTaken_44 : decode b_M_initTaken 44 = .ok (.iconst 1, 1) := by decide +kernel
theorem d_M_initTaken_45 : decode b_M_initTaken 45 = .ok (.if_icmp .eq 8, 3) := by decide +kernel
theorem d_M_initTaken_48 : decode b_M_initTaken 48 = .ok (.aload_n 0, 1) := by decide +kernel
theorem d_M_initTaken_49 : decode b_M_initTaken 49 = .ok (.iload_n 1, 1) := by decide +kernel
theorem d_M_initTaken_50 : decode b_M_initTaken 50 = .ok (.invokevirtual 177, 3) := by decide +kernel
theorem d_M_initTaken_53 : decode b_M_initTaken 53 = .ok (.bipush 6, 2) := by decide +kernel
theorem d_M_initTaken_55 : decode b_M_initTaken 55 = .ok (.iload_n 1, 1) := by decide +kernel
theorem d_M_initTaken_56 : decode b_M_initTaken 56 = .ok (.imul, 1) := by decide +kernel
theorem d_M_initTaken_57 : decode b_M_initTaken 57 = .ok (.iconst 3, 1) := by decide +kernel
theorem d_M_initTaken_58 : decode b_M_initTaken 58 = .ok (.iconst 1, 1) := by decide +kernel
theorem d_M_initTaken_59 : decode b_M_initTaken 59 = .ok (.iload_n 1, 1) := by decide +kernel
theorem d_M_initTaken_60 : decode b_M_initTaken 60 = .ok (.isub, 1) := by decide +kernel
theorem d_M_initTaken_61 : decode b_M_initTaken 61 = .ok (.imul, 1) := by decide +kernel
theorem d_M_initTaken_62 : decode b_M_initTaken 62 = .ok (.iadd, 1) := by decide +kernel
theorem d_M_initTaken_63 : decode b_M_initTaken 63 = .ok (.istore 8, 2) := by decide +kernel
theorem d_M_initTaken_65 : decode b_M_initTaken 65 = .ok (.aload_n 0, 1) := by decide +kernel
theorem d_M_initTaken_66 : decode b_M_initTaken 66 = .ok (.getfield 51, 3) := by decide +kernel
theorem d_M_initTaken_69 : decode b_M_initTaken 69 = .ok (.iload 8, 2) := by decide +kernel
theorem d_M_initTaken_71 : decode b_M_initTaken 71 = .ok (.lload_n 2, 1) := by decide +kernel
theorem d_M_initTaken_72 : decode b_M_initTaken 72 = .ok (.lastore, 1) := by decide +kernel
theorem d_M_initTaken_73 : decode b_M_initTaken 73 = .ok (.aload_n 0, 1) := by decide +kernel
theorem d_M_initTaken_74 : decode b_M_initTaken 74 = .ok (.getfield 51, 3) := by decide +kernel
theorem d_M_initTaken_77 : decode b_M_initTaken 77 = .ok (.iload 8, 2) := by decide +kernel
theorem d_M_initTaken_79 : decode b_M_initTaken 79 = .ok (.iconst 1, 1) := by decide +kernel
theorem d_M_initTaken_80 : decode b_M_initTaken 80 = .ok (.iadd, 1) := by decide +kernel
theorem d_M_initTaken_81 : decode b_M_initTaken 81 = .ok (.lload 4, 2) := by decide +kernel
theorem d_M_initTaken_83 : decode b_M_initTaken 83 = .ok (.lastore, 1) := by decide +kernel
theorem d_M_initTaken_84 : decode b_M_initTaken 84 = .ok (.aload_n 0, 1) := by decide +kernel
theorem d_M_initTaken_85 : decode b_M_initTaken 85 = .ok (.getfield 51, 3) := by decide +kernel
theorem d_M_initTaken_88 : decode b_M_initTaken 88 = .ok (.iload 8, 2) := by decide +kernel
theorem d_M_initTaken_90 : decode b_M_initTaken 90 = .ok (.iconst 2, 1) := by decide +kernel
theorem d_M_initTaken_91 : decode b_M_initTaken 91 = .ok (.iadd, 1) := by decide +kernel
theorem d_M_initTaken_92 : decode b_M_initTaken 92 = .ok (.lload 6, 2) := by decide +kernel
theorem d_M_initTaken_94 : decode b_M_initTaken 94 = .ok (.lastore, 1) := by decide +kernel
theorem d_M_initTaken_95 : decode b_M_initTaken 95 = .ok (.lload 4, 2) := by decide +kernel
theorem d_M_initTaken_97 : decode b_M_initTaken 97 = .ok (.invokestatic 185, 3) := by decide +kernel
theorem d_M_initTaken_100 : decode b_M_initTaken 100 = .ok (.ifCond .eq 15, 3) := by decide +kernel
theorem d_M_initTaken_103 : decode b_M_initTaken 103 = .ok (.lload 6, 2) := by decide +kernel
theorem d_M_initTaken_105 : decode b_M_initTaken 105 = .ok (.invokestatic 185, 3) := by decide +kernel
theorem d_M_initTaken_108 : decode b_M_initTaken 108 = .ok (.ifCond .eq 7, 3) := by decide +kernel
theorem d_M_initTaken_111 : decode b_M_initTaken 111 = .ok (.iconst 1, 1) := by decide +kernel
theorem d_M_initTaken_112 : decode b_M_initTaken 112 = .ok (.goto 4, 3) := by decide +kernel
theorem d_M_initTaken_115 : decode b_M_initTaken 115 = .ok (.iconst 0, 1) := by decide +kernel
theorem d_M_initTaken_116 : decode b_M_initTaken 116 = .ok (.istore 9, 2) := by decide +kernel
theorem d_M_initTaken_118 : decode b_M_initTaken 118 = .ok (.aload_n 0, 1) := by decide +kernel
theorem d_M_initTaken_119 : decode b_M_initTaken 119 = .ok (.getfield 60, 3) := by decide +kernel
theorem d_M_initTaken_122 : decode b_M_initTaken 122 = .ok (.iload_n 1, 1) := by decide +kernel
theorem d_M_initTaken_123 : decode b_M_initTaken 123 = .ok (.iload 9, 2) := by decide +kernel
theorem d_M_initTaken_125 : decode b_M_initTaken 125 = .ok (.ifCond .eq 31, 3) := by decide +kernel
theorem d_M_initTaken_128 : decode b_M_initTaken 128 = .ok (.aload_n 0, 1) := by decide +kernel
theorem d_M_initTaken_129 : decode b_M_initTaken 129 = .ok (.getfield 51, 3) := by decide +kernel
theorem d_M_initTaken_132 : decode b_M_initTaken 132 = .ok (.bipush 6, 2) := by decide +kernel
theorem d_M_initTaken_134 : decode b_M_initTaken 134 = .ok (.iload_n 1, 1) := by decide +kernel
theorem d_M_initTaken_135 : decode b_M_initTaken 135 = .ok (.imul, 1) := by decide +kernel
theorem d_M_initTaken_136 : decode b_M_initTaken 136 = .ok (.iconst 1, 1) := by decide +kernel
theorem d_M_initTaken_137 : decode b_M_initTaken 137 = .ok (.iadd, 1) := by decide +kernel
theorem d_M_initTaken_138 : decode b_M_initTaken 138 = .ok (.laload, 1) := by decide +kernel
theorem d_M_initTaken_139 : decode b_M_initTaken 139 = .ok (.aload_n 0, 1) := by decide +kernel
theorem d_M_initTaken_140 : decode b_M_initTaken 140 = .ok (.getfield 51, 3) := by decide +kernel
theorem d_M_initTaken_143 : decode b_M_initTaken 143 = .ok (.bipush 6, 2) := by decide +kernel
theorem d_M_initTaken_145 : decode b_M_initTaken 145 = .ok (.iload_n 1, 1) := by decide +kernel
theorem d_M_initTaken_146 : decode b_M_initTaken 146 = .ok (.imul, 1) := by decide +kernel
theorem d_M_initTaken_147 : decode b_M_initTaken 147 = .ok (.iconst 4, 1) := by decide +kernel
theorem d_M_initTaken_148 : decode b_M_initTaken 148 = .ok (.iadd, 1) := by decide +kernel
theorem d_M_initTaken_149 : decode b_M_initTaken 149 = .ok (.laload, 1) := by decide +kernel
theorem d_M_initTaken_150 : decode b_M_initTaken 150 = .ok (.invokestatic 188, 3) := by decide +kernel
theorem d_M_initTaken_153 : decode b_M_initTaken 153 = .ok (.goto 4, 3) := by decide +kernel
theorem d_M_initTaken_156 : decode b_M_initTaken 156 = .ok (.iconst 0, 1) := by decide +kernel
theorem d_M_initTaken_157 : decode b_M_initTaken 157 = .ok (.iastore, 1) := by decide +kernel
theorem d_M_initTaken_158 : decode b_M_initTaken 158 = .ok (.aload_n 0, 1) := by decide +kernel
theorem d_M_initTaken_159 : decode b_M_initTaken 159 = .ok (.getfield 63, 3) := by decide +kernel
theorem d_M_initTaken_162 : decode b_M_initTaken 162 = .ok (.iload_n 1, 1) := by decide +kernel
theorem d_M_initTaken_163 : decode b_M_initTaken 163 = .ok (.iload 9, 2) := by decide +kernel
theorem d_M_initTaken_165 : decode b_M_initTaken 165 = .ok (.ifCond .eq 31, 3) := by decide +kernel
theorem d_M_initTaken_168 : decode b_M_initTaken 168 = .ok (.aload_n 0, 1) := by decide +kernel
theorem d_M_initTaken_169 : decode b_M_initTaken 169 = .ok (.getfield 51, 3) := by decide +kernel
theorem d_M_initTaken_172 : decode b_M_initTaken 172 = .ok (.bipush 6, 2) := by decide +kernel
theorem d_M_initTaken_174 : decode b_M_initTaken 174 = .ok (.iload_n 1, 1) := by decide +kernel
theorem d_M_initTaken_175 : decode b_M_initTaken 175 = .ok (.imul, 1) := by decide +kernel
theorem d_M_initTaken_176 : decode b_M_initTaken 176 = .ok (.iconst 2, 1) := by decide +kernel
theorem d_M_initTaken_177 : decode b_M_initTaken 177 = .ok (.iadd, 1) := by decide +kernel
theorem d_M_initTaken_178 : decode b_M_initTaken 178 = .ok (.laload, 1) := by decide +kernel
theorem d_M_initTaken_179 : decode b_M_initTaken 179 = .ok (.aload_n 0, 1) := by decide +kernel
theorem d_M_initTaken_180 : decode b_M_initTaken 180 = .ok (.getfield 51, 3) := by decide +kernel
theorem d_M_initTaken_183 : decode b_M_initTaken 183 = .ok (.bipush 6, 2) := by decide +kernel
theorem d_M_initTaken_185 : decode b_M_initTaken 185 = .ok (.iload_n 1, 1) := by decide +kernel
theorem d_M_initTaken_186 : decode b_M_initTaken 186 = .ok (.imul, 1) := by decide +kernel
theorem d_M_initTaken_187 : decode b_M_initTaken 187 = .ok (.iconst 5, 1) := by decide +kernel
theorem d_M_initTaken_188 : decode b_M_initTaken 188 = .ok (.iadd, 1) := by decide +kernel
theorem d_M_initTaken_189 : decode b_M_initTaken 189 = .ok (.laload, 1) := by decide +kernel
theorem d_M_initTaken_190 : decode b_M_initTaken 190 = .ok (.invokestatic 188, 3) := by decide +kernel
theorem d_M_initTaken_193 : decode b_M_initTaken 193 = .ok (.goto 4, 3) := by decide +kernel
theorem d_M_initTaken_196 : decode b_M_initTaken 196 = .ok (.iconst 0, 1) := by decide +kernel
theorem d_M_initTaken_197 : decode b_M_initTaken 197 = .ok (.iastore, 1) := by decide +kernel
theorem d_M_initTaken_198 : decode b_M_initTaken 198 = .ok (.aload_n 0, 1) := by decide +kernel
theorem d_M_initTaken_199 : decode b_M_initTaken 199 = .ok (.getfield 60, 3) := by decide +kernel
theorem d_M_initTaken_202 : decode b_M_initTaken 202 = .ok (.iload_n 1, 1) := by decide +kernel
theorem d_M_initTaken_203 : decode b_M_initTaken 203 = .ok (.iaload, 1) := by decide +kernel
theorem d_M_initTaken_204 : decode b_M_initTaken 204 = .ok (.ifCond .eq 12, 3) := by decide +kernel
theorem d_M_initTaken_207 : decode b_M_initTaken 207 = .ok (.aload_n 0, 1) := by decide +kernel
theorem d_M_initTaken_208 : decode b_M_initTaken 208 = .ok (.getfield 63, 3) := by decide +kernel
theorem d_M_initTaken_211 : decode b_M_initTaken 211 = .ok (.iload_n 1, 1) := by decide +kernel
theorem d_M_initTaken_212 : decode b_M_initTaken 212 = .ok (.iaload, 1) := by decide +kernel
theorem d_M_initTaken_213 : decode b_M_initTaken 213 = .ok (.ifCond .ne 12, 3) := by decide +kernel
theorem d_M_initTaken_216 : decode b_M_initTaken 216 = .ok (.aload_n 0, 1) := by decide +kernel
theorem d_M_initTaken_217 : decode b_M_initTaken 217 = .ok (.iload_n 1, 1) := by decide +kernel
theorem d_M_initTaken_218 : decode b_M_initTaken 218 = .ok (.ldc2_w 192, 3) := by decide +kernel
theorem d_M_initTaken_221 : decode b_M_initTaken 221 = .ok (.invokevirtual 181, 3) := by decide +kernel
theorem d_M_initTaken_224 : decode b_M_initTaken 224 = .ok (.return_, 1) := by decide +kernel
theorem d_M_initTaken_225 : decode b_M_initTaken 225 = .ok (.aload_n 0, 1) := by decide +kernel
theorem d_M_initTaken_226 : decode b_M_initTaken 226 = .ok (.getfield 25, 3) := by decide +kernel
theorem d_M_initTaken_229 : decode b_M_initTaken 229 = .ok (.iload_n 1, 1) := by decide +kernel
theorem d_M_initTaken_230 : decode b_M_initTaken 230 = .ok (.iconst 2, 1) := by decide +kernel
theorem d_M_initTaken_231 : decode b_M_initTaken 231 = .ok (.iastore, 1) := by decide +kernel
theorem d_M_initTaken_232 : decode b_M_initTaken 232 = .ok (.iload_n 1, 1) := by decide +kernel
theorem d_M_initTaken_233 : decode b_M_initTaken 233 = .ok (.ifCond .ne 37, 3) := by decide +kernel
theorem d_M_initTaken_236 : decode b_M_initTaken 236 = .ok (.aload_n 0, 1) := by decide +kernel
theorem d_M_initTaken_237 : decode b_M_initTaken 237 = .ok (.getfield 57, 3) := by decide +kernel
theorem d_M_initTaken_240 : decode b_M_initTaken 240 = .ok (.iconst 0, 1) := by decide +kernel
theorem d_M_initTaken_241 : decode b_M_initTaken 241 = .ok (.ldc2_w 146, 3) := by decide +kernel
theorem d_M_initTaken_244 : decode b_M_initTaken 244 = .ok (.aload_n 0, 1) := by decide +kernel
theorem d_M_initTaken_245 : decode b_M_initTaken 245 = .ok (.getfield 54, 3) := by decide +kernel
theorem d_M_initTaken_248 : decode b_M_initTaken 248 = .ok (.iconst 0, 1) := by decide +kernel
theorem d_M_initTaken_249 : decode b_M_initTaken 249 = .ok (.laload, 1) := by decide +kernel
theorem d_M_initTaken_250 : decode b_M_initTaken 250 = .ok (.invokestatic 148, 3) := by decide +kernel
theorem d_M_initTaken_253 : decode b_M_initTaken 253 = .ok (.lastore, 1) := by decide +kernel
theorem d_M_initTaken_254 : decode b_M_initTaken 254 = .ok (.aload_n 0, 1) := by decide +kernel
theorem d_M_initTaken_255 : decode b_M_initTaken 255 = .ok (.iconst 0, 1) := by decide +kernel
theorem d_M_initTaken_256 : decode b_M_initTaken 256 = .ok (.bipush 30, 2) := by decide +kernel
theorem d_M_initTaken_258 : decode b_M_initTaken 258 = .ok (.aload_n 0, 1) := by decide +kernel
theorem d_M_initTaken_259 : decode b_M_initTaken 259 = .ok (.getfield 57, 3) := by decide +kernel
theorem d_M_initTaken_262 : decode b_M_initTaken 262 = .ok (.iconst 0, 1) := by decide +kernel
theorem d_M_initTaken_263 : decode b_M_initTaken 263 = .ok (.laload, 1) := by decide +kernel
theorem d_M_initTaken_264 : decode b_M_initTaken 264 = .ok (.lconst 0, 1) := by decide +kernel
theorem d_M_initTaken_265 : decode b_M_initTaken 265 = .ok (.lconst 0, 1) := by decide +kernel
theorem d_M_initTaken_266 : decode b_M_initTaken 266 = .ok (.lconst 0, 1) := by decide +kernel
theorem d_M_initTaken_267 : decode b_M_initTaken 267 = .ok (.invokevirtual 165, 3) := by decide +kernel
theorem d_M_initTaken_270 : decode b_M_initTaken 270 = .ok (.return_, 1) := by decide +kernel
theorem xw1080 : (Cond.methodLink "SecurePairModel" (177 : Nat) ({ cls := "SecurePairModel", name := "start", desc := "(I)V" } : MethodName)) ∈ xa := xa_t 1080 (by decide +kernel) (by decide +kernel)
theorem xw1082 : (Cond.instanceMethod ({ cls := "SecurePairModel", name := "start", desc := "(I)V" } : MethodName)) ∈ xa := xa_t 1082 (by decide +kernel) (by decide +kernel)
theorem xw1083 : (Cond.code ({ cls := "SecurePairModel", name := "start", desc := "(I)V" } : MethodName) prog_12_method_18_code (3 : Nat) (Option.none : Option ClassFile.FieldType)) ∈ xa := xa_t 1083 (by decide +kernel) (by decide +kernel)
theorem xw1129 : (Cond.methodLink "SecurePairModel" (188 : Nat) ({ cls := "SecurePairModel", name := "common", desc := "(JJ)I" } : MethodName)) ∈ xa := xa_t 1129 (by decide +kernel) (by decide +kernel)
theorem xw1130 : (Cond.static ({ cls := "SecurePairModel", name := "common", desc := "(JJ)I" } : MethodName)) ∈ xa := xa_t 1130 (by decide +kernel) (by decide +kernel)
theorem xw1131 : (Cond.code ({ cls := "SecurePairModel", name := "common", desc := "(JJ)I" } : MethodName) prog_12_method_11_code (7 : Nat) (Option.some ClassFile.FieldType.int)) ∈ xa := xa_t 1131 (by decide +kernel) (by decide +kernel)
theorem xw1132 : (Cond.constantLong "SecurePairModel" (192 : Nat) (3 : Int64)) ∈ xa := xa_t 1132 (by decide +kernel) (by decide +kernel)
theorem xs5 : (Cond.selects "SecurePairModel" ⟨"SecurePairModel", "start", "(I)V"⟩ ⟨"SecurePairModel", "start", "(I)V"⟩) ∈ xa := xa_s 5 (by decide +kernel) (by decide +kernel)
def q_init (e1 : Nat) (x2 : Int64) (x3 : Int64) (x4 : Int64) (σ : xb_St) : xb_St := (if (σ.1 4 e1) = 0 then (if (σ.1 4 e1) = (1 : Int32) then (if (g_isList x3) = 0 then (q_fail e1 (3 : Int64) (xb_si (xb_si (xb_sl (xb_sl (xb_sl σ 12 ((6 * e1) + (3 * (1 - e1))) x2) 12 (((6 * e1) + (3 * (1 - e1))) + 1) x3) 12 (((6 * e1) + (3 * (1 - e1))) + 2) x4) 15 e1 (0 : Int32)) 16 e1 (0 : Int32))) else (if (g_isList x4) = 0 then (q_fail e1 (3 : Int64) (xb_si (xb_si (xb_sl (xb_sl (xb_sl σ 12 ((6 * e1) + (3 * (1 - e1))) x2) 12 (((6 * e1) + (3 * (1 - e1))) + 1) x3) 12 (((6 * e1) + (3 * (1 - e1))) + 2) x4) 15 e1 (0 : Int32)) 16 e1 (0 : Int32))) else (if (g_common ((xb_sl (xb_sl (xb_sl σ 12 ((6 * e1) + (3 * (1 - e1))) x2) 12 (((6 * e1) + (3 * (1 - e1))) + 1) x3) 12 (((6 * e1) + (3 * (1 - e1))) + 2) x4).2 12 ((6 * e1) + 1)) ((xb_sl (xb_sl (xb_sl σ 12 ((6 * e1) + (3 * (1 - e1))) x2) 12 (((6 * e1) + (3 * (1 - e1))) + 1) x3) 12 (((6 * e1) + (3 * (1 - e1))) + 2) x4).2 12 ((6 * e1) + 4))) = 0 then (q_fail e1 (3 : Int64) (xb_si (xb_si (xb_sl (xb_sl (xb_sl σ 12 ((6 * e1) + (3 * (1 - e1))) x2) 12 (((6 * e1) + (3 * (1 - e1))) + 1) x3) 12 (((6 * e1) + (3 * (1 - e1))) + 2) x4) 15 e1 (g_common ((xb_sl (xb_sl (xb_sl σ 12 ((6 * e1) + (3 * (1 - e1))) x2) 12 (((6 * e1) + (3 * (1 - e1))) + 1) x3) 12 (((6 * e1) + (3 * (1 - e1))) + 2) x4).2 12 ((6 * e1) + 1)) ((xb_sl (xb_sl (xb_sl σ 12 ((6 * e1) + (3 * (1 - e1))) x2) 12 (((6 * e1) + (3 * (1 - e1))) + 1) x3) 12 (((6 * e1) + (3 * (1 - e1))) + 2) x4).2 12 ((6 * e1) + 4)))) 16 e1 (g_common ((xb_sl (xb_sl (xb_sl σ 12 ((6 * e1) + (3 * (1 - e1))) x2) 12 (((6 * e1) + (3 * (1 - e1))) + 1) x3) 12 (((6 * e1) + (3 * (1 - e1))) + 2) x4).2 12 ((6 * e1) + 2)) ((xb_sl (xb_sl (xb_sl σ 12 ((6 * e1) + (3 * (1 - e1))) x2) 12 (((6 * e1) + (3 * (1 - e1))) + 1) x3) 12 (((6 * e1) + (3 * (1 - e1))) + 2) x4).2 12 ((6 * e1) + 5))))) else (if (g_common ((xb_sl (xb_sl (xb_sl σ 12 ((6 * e1) + (3 * (1 - e1))) x2) 12 (((6 * e1) + (3 * (1 - e1))) + 1) x3) 12 (((6 * e1) + (3 * (1 - e1))) + 2) x4).2 12 ((6 * e1) + 2)) ((xb_sl (xb_sl (xb_sl σ 12 ((6 * e1) + (3 * (1 - e1))) x2) 12 (((6 * e1) + (3 * (1 - e1))) + 1) x3) 12 (((6 * e1) + (3 * (1 - e1))) + 2) x4).2 12 ((6 * e1) + 5))) = 0 then (q_fail e1 (3 : Int64) (xb_si (xb_si (xb_sl (xb_sl (xb_sl σ 12 ((6 * e1) + (3 * (1 - e1))) x2) 12 (((6 * e1) + (3 * (1 - e1))) + 1) x3) 12 (((6 * e1) + (3 * (1 - e1))) + 2) x4) 15 e1 (g_common ((xb_sl (xb_sl (xb_sl σ 12 ((6 * e1) + (3 * (1 - e1))) x2) 12 (((6 * e1) + (3 * (1 - e1))) + 1) x3) 12 (((6 * e1) + (3 * (1 - e1))) + 2) x4).2 12 ((6 * e1) + 1)) ((xb_sl (xb_sl (xb_sl σ 12 ((6 * e1) + (3 * (1 - e1))) x2) 12 (((6 * e1) + (3 * (1 - e1))) + 1) x3) 12 (((6 * e1) + (3 * (1 - e1))) + 2) x4).2 12 ((6 * e1) + 4)))) 16 e1 (g_common ((xb_sl (xb_sl (xb_sl σ 12 ((6 * e1) + (3 * (1 - e1))) x2) 12 (((6 * e1) + (3 * (1 - e1))) + 1) x3) 12 (((6 * e1) + (3 * (1 - e1))) + 2) x4).2 12 ((6 * e1) + 2)) ((xb_sl (xb_sl (xb_sl σ 12 ((6 * e1) + (3 * (1 - e1))) x2) 12 (((6 * e1) + (3 * (1 - e1))) + 1) x3) 12 (((6 * e1) + (3 * (1 - e1))) + 2) x4).2 12 ((6 * e1) + 5))))) else (if (nI e1) = 0 then (q_send 0 (30 : Int32) (g_power (7 : Int64) (σ.2 13 0)) (0 : Int64) (0 : Int64) (0 : Int64) (xb_sl (xb_si (xb_si (xb_si (xb_sl (xb_sl (xb_sl σ 12 ((6 * e1) + (3 * (1 - e1))) x2) 12 (((6 * e1) + (3 * (1 - e1))) + 1) x3) 12 (((6 * e1) + (3 * (1 - e1))) + 2) x4) 15 e1 (g_common ((xb_sl (xb_sl (xb_sl σ 12 ((6 * e1) + (3 * (1 - e1))) x2) 12 (((6 * e1) + (3 * (1 - e1))) + 1) x3) 12 (((6 * e1) + (3 * (1 - e1))) + 2) x4).2 12 ((6 * e1) + 1)) ((xb_sl (xb_sl (xb_sl σ 12 ((6 * e1) + (3 * (1 - e1))) x2) 12 (((6 * e1) + (3 * (1 - e1))) + 1) x3) 12 (((6 * e1) + (3 * (1 - e1))) + 2) x4).2 12 ((6 * e1) + 4)))) 16 e1 (g_common ((xb_sl (xb_sl (xb_sl σ 12 ((6 * e1) + (3 * (1 - e1))) x2) 12 (((6 * e1) + (3 * (1 - e1))) + 1) x3) 12 (((6 * e1) + (3 * (1 - e1))) + 2) x4).2 12 ((6 * e1) + 2)) ((xb_sl (xb_sl (xb_sl σ 12 ((6 * e1) + (3 * (1 - e1))) x2) 12 (((6 * e1) + (3 * (1 - e1))) + 1) x3) 12 (((6 * e1) + (3 * (1 - e1))) + 2) x4).2 12 ((6 * e1) + 5)))) 4 e1 (2 : Int32)) 14 0 (g_power (7 : Int64) (σ.2 13 0)))) else (xb_si (xb_si (xb_si (xb_sl (xb_sl (xb_sl σ 12 ((6 * e1) + (3 * (1 - e1))) x2) 12 (((6 * e1) + (3 * (1 - e1))) + 1) x3) 12 (((6 * e1) + (3 * (1 - e1))) + 2) x4) 15 e1 (g_common ((xb_sl (xb_sl (xb_sl σ 12 ((6 * e1) + (3 * (1 - e1))) x2) 12 (((6 * e1) + (3 * (1 - e1))) + 1) x3) 12 (((6 * e1) + (3 * (1 - e1))) + 2) x4).2 12 ((6 * e1) + 1)) ((xb_sl (xb_sl (xb_sl σ 12 ((6 * e1) + (3 * (1 - e1))) x2) 12 (((6 * e1) + (3 * (1 - e1))) + 1) x3) 12 (((6 * e1) + (3 * (1 - e1))) + 2) x4).2 12 ((6 * e1) + 4)))) 16 e1 (g_common ((xb_sl (xb_sl (xb_sl σ 12 ((6 * e1) + (3 * (1 - e1))) x2) 12 (((6 * e1) + (3 * (1 - e1))) + 1) x3) 12 (((6 * e1) + (3 * (1 - e1))) + 2) x4).2 12 ((6 * e1) + 2)) ((xb_sl (xb_sl (xb_sl σ 12 ((6 * e1) + (3 * (1 - e1))) x2) 12 (((6 * e1) + (3 * (1 - e1))) + 1) x3) 12 (((6 * e1) + (3 * (1 - e1))) + 2) x4).2 12 ((6 * e1) + 5)))) 4 e1 (2 : Int32))))))) else (if (g_isList x3) = 0 then (q_fail e1 (3 : Int64) (xb_si (xb_si (xb_sl (xb_sl (xb_sl (q_start e1 σ) 12 ((6 * e1) + (3 * (1 - e1))) x2) 12 (((6 * e1) + (3 * (1 - e1))) + 1) x3) 12 (((6 * e1) + (3 * (1 - e1))) + 2) x4) 15 e1 (0 : Int32)) 16 e1 (0 : Int32))) else (if (g_isList x4) = 0 then (q_fail e1 (3 : Int64) (xb_si (xb_si (xb_sl (xb_sl (xb_sl (q_start e1 σ) 12 ((6 * e1) + (3 * (1 - e1))) x2) 12 (((6 * e1) + (3 * (1 - e1))) + 1) x3) 12 (((6 * e1) + (3 * (1 - e1))) + 2) x4) 15 e1 (0 : Int32)) 16 e1 (0 : Int32))) else (if (g_common ((xb_sl (xb_sl (xb_sl (q_start e1 σ) 12 ((6 * e1) + (3 * (1 - e1))) x2) 12 (((6 * e1) + (3 * (1 - e1))) + 1) x3) 12 (((6 * e1) + (3 * (1 - e1))) + 2) x4).2 12 ((6 * e1) + 1)) ((xb_sl (xb_sl (xb_sl (q_start e1 σ) 12 ((6 * e1) + (3 * (1 - e1))) x2) 12 (((6 * e1) + (3 * (1 - e1))) + 1) x3) 12 (((6 * e1) + (3 * (1 - e1))) + 2) x4).2 12 ((6 * e1) + 4))) = 0 then (q_fail e1 (3 : Int64) (xb_si (xb_si (xb_sl (xb_sl (xb_sl (q_start e1 σ) 12 ((6 * e1) + (3 * (1 - e1))) x2) 12 (((6 * e1) + (3 * (1 - e1))) + 1) x3) 12 (((6 * e1) + (3 * (1 - e1))) + 2) x4) 15 e1 (g_common ((xb_sl (xb_sl (xb_sl (q_start e1 σ) 12 ((6 * e1) + (3 * (1 - e1))) x2) 12 (((6 * e1) + (3 * (1 - e1))) + 1) x3) 12 (((6 * e1) + (3 * (1 - e1))) + 2) x4).2 12 ((6 * e1) + 1)) ((xb_sl (xb_sl (xb_sl (q_start e1 σ) 12 ((6 * e1) + (3 * (1 - e1))) x2) 12 (((6 * e1) + (3 * (1 - e1))) + 1) x3) 12 (((6 * e1) + (3 * (1 - e1))) + 2) x4).2 12 ((6 * e1) + 4)))) 16 e1 (g_common ((xb_sl (xb_sl (xb_sl (q_start e1 σ) 12 ((6 * e1) + (3 * (1 - e1))) x2) 12 (((6 * e1) + (3 * (1 - e1))) + 1) x3) 12 (((6 * e1) + (3 * (1 - e1))) + 2) x4).2 12 ((6 * e1) + 2)) ((xb_sl (xb_sl (xb_sl (q_start e1 σ) 12 ((6 * e1) + (3 * (1 - e1))) x2) 12 (((6 * e1) + (3 * (1 - e1))) + 1) x3) 12 (((6 * e1) + (3 * (1 - e1))) + 2) x4).2 12 ((6 * e1) + 5))))) else (if (g_common ((xb_sl (xb_sl (xb_sl (q_start e1 σ) 12 ((6 * e1) + (3 * (1 - e1))) x2) 12 (((6 * e1) + (3 * (1 - e1))) + 1) x3) 12 (((6 * e1) + (3 * (1 - e1))) + 2) x4).2 12 ((6 * e1) + 2)) ((xb_sl (xb_sl (xb_sl (q_start e1 σ) 12 ((6 * e1) + (3 * (1 - e1))) x2) 12 (((6 * e1) + (3 * (1 - e1))) + 1) x3) 12 (((6 * e1) + (3 * (1 - e1))) + 2) x4).2 12 ((6 * e1) + 5))) = 0 then (q_fail e1 (3 : Int64) (xb_si (xb_si (xb_sl (xb_sl (xb_sl (q_start e1 σ) 12 ((6 * e1) + (3 * (1 - e1))) x2) 12 (((6 * e1) + (3 * (1 - e1))) + 1) x3) 12 (((6 * e1) + (3 * (1 - e1))) + 2) x4) 15 e1 (g_common ((xb_sl (xb_sl (xb_sl (q_start e1 σ) 12 ((6 * e1) + (3 * (1 - e1))) x2) 12 (((6 * e1) + (3 * (1 - e1))) + 1) x3) 12 (((6 * e1) + (3 * (1 - e1))) + 2) x4).2 12 ((6 * e1) + 1)) ((xb_sl (xb_sl (xb_sl (q_start e1 σ) 12 ((6 * e1) + (3 * (1 - e1))) x2) 12 (((6 * e1) + (3 * (1 - e1))) + 1) x3) 12 (((6 * e1) + (3 * (1 - e1))) + 2) x4).2 12 ((6 * e1) + 4)))) 16 e1 (g_common ((xb_sl (xb_sl (xb_sl (q_start e1 σ) 12 ((6 * e1) + (3 * (1 - e1))) x2) 12 (((6 * e1) + (3 * (1 - e1))) + 1) x3) 12 (((6 * e1) + (3 * (1 - e1))) + 2) x4).2 12 ((6 * e1) + 2)) ((xb_sl (xb_sl (xb_sl (q_start e1 σ) 12 ((6 * e1) + (3 * (1 - e1))) x2) 12 (((6 * e1) + (3 * (1 - e1))) + 1) x3) 12 (((6 * e1) + (3 * (1 - e1))) + 2) x4).2 12 ((6 * e1) + 5))))) else (if (nI e1) = 0 then (q_send 0 (30 : Int32) (g_power (7 : Int64) ((q_start e1 σ).2 13 0)) (0 : Int64) (0 : Int64) (0 : Int64) (xb_sl (xb_si (xb_si (xb_si (xb_sl (xb_sl (xb_sl (q_start e1 σ) 12 ((6 * e1) + (3 * (1 - e1))) x2) 12 (((6 * e1) + (3 * (1 - e1))) + 1) x3) 12 (((6 * e1) + (3 * (1 - e1))) + 2) x4) 15 e1 (g_common ((xb_sl (xb_sl (xb_sl (q_start e1 σ) 12 ((6 * e1) + (3 * (1 - e1))) x2) 12 (((6 * e1) + (3 * (1 - e1))) + 1) x3) 12 (((6 * e1) + (3 * (1 - e1))) + 2) x4).2 12 ((6 * e1) + 1)) ((xb_sl (xb_sl (xb_sl (q_start e1 σ) 12 ((6 * e1) + (3 * (1 - e1))) x2) 12 (((6 * e1) + (3 * (1 - e1))) + 1) x3) 12 (((6 * e1) + (3 * (1 - e1))) + 2) x4).2 12 ((6 * e1) + 4)))) 16 e1 (g_common ((xb_sl (xb_sl (xb_sl (q_start e1 σ) 12 ((6 * e1) + (3 * (1 - e1))) x2) 12 (((6 * e1) + (3 * (1 - e1))) + 1) x3) 12 (((6 * e1) + (3 * (1 - e1))) + 2) x4).2 12 ((6 * e1) + 2)) ((xb_sl (xb_sl (xb_sl (q_start e1 σ) 12 ((6 * e1) + (3 * (1 - e1))) x2) 12 (((6 * e1) + (3 * (1 - e1))) + 1) x3) 12 (((6 * e1) + (3 * (1 - e1))) + 2) x4).2 12 ((6 * e1) + 5)))) 4 e1 (2 : Int32)) 14 0 (g_power (7 : Int64) ((q_start e1 σ).2 13 0)))) else (xb_si (xb_si (xb_si (xb_sl (xb_sl (xb_sl (q_start e1 σ) 12 ((6 * e1) + (3 * (1 - e1))) x2) 12 (((6 * e1) + (3 * (1 - e1))) + 1) x3) 12 (((6 * e1) + (3 * (1 - e1))) + 2) x4) 15 e1 (g_common ((xb_sl (xb_sl (xb_sl (q_start e1 σ) 12 ((6 * e1) + (3 * (1 - e1))) x2) 12 (((6 * e1) + (3 * (1 - e1))) + 1) x3) 12 (((6 * e1) + (3 * (1 - e1))) + 2) x4).2 12 ((6 * e1) + 1)) ((xb_sl (xb_sl (xb_sl (q_start e1 σ) 12 ((6 * e1) + (3 * (1 - e1))) x2) 12 (((6 * e1) + (3 * (1 - e1))) + 1) x3) 12 (((6 * e1) + (3 * (1 - e1))) + 2) x4).2 12 ((6 * e1) + 4)))) 16 e1 (g_common ((xb_sl (xb_sl (xb_sl (q_start e1 σ) 12 ((6 * e1) + (3 * (1 - e1))) x2) 12 (((6 * e1) + (3 * (1 - e1))) + 1) x3) 12 (((6 * e1) + (3 * (1 - e1))) + 2) x4).2 12 ((6 * e1) + 2)) ((xb_sl (xb_sl (xb_sl (q_start e1 σ) 12 ((6 * e1) + (3 * (1 - e1))) x2) 12 (((6 * e1) + (3 * (1 - e1))) + 1) x3) 12 (((6 * e1) + (3 * (1 - e1))) + 2) x4).2 12 ((6 * e1) + 5)))) 4 e1 (2 : Int32)))))))) else (if (σ.1 4 e1) = (4 : Int32) then (if (σ.1 4 e1) = (1 : Int32) then (if (g_isList x3) = 0 then (q_fail e1 (3 : Int64) (xb_si (xb_si (xb_sl (xb_sl (xb_sl σ 12 ((6 * e1) + (3 * (1 - e1))) x2) 12 (((6 * e1) + (3 * (1 - e1))) + 1) x3) 12 (((6 * e1) + (3 * (1 - e1))) + 2) x4) 15 e1 (0 : Int32)) 16 e1 (0 : Int32))) else (if (g_isList x4) = 0 then (q_fail e1 (3 : Int64) (xb_si (xb_si (xb_sl (xb_sl (xb_sl σ 12 ((6 * e1) + (3 * (1 - e1))) x2) 12 (((6 * e1) + (3 * (1 - e1))) + 1) x3) 12 (((6 * e1) + (3 * (1 - e1))) + 2) x4) 15 e1 (0 : Int32)) 16 e1 (0 : Int32))) else (if (g_common ((xb_sl (xb_sl (xb_sl σ 12 ((6 * e1) + (3 * (1 - e1))) x2) 12 (((6 * e1) + (3 * (1 - e1))) + 1) x3) 12 (((6 * e1) + (3 * (1 - e1))) + 2) x4).2 12 ((6 * e1) + 1)) ((xb_sl (xb_sl (xb_sl σ 12 ((6 * e1) + (3 * (1 - e1))) x2) 12 (((6 * e1) + (3 * (1 - e1))) + 1) x3) 12 (((6 * e1) + (3 * (1 - e1))) + 2) x4).2 12 ((6 * e1) + 4))) = 0 then (q_fail e1 (3 : Int64) (xb_si (xb_si (xb_sl (xb_sl (xb_sl σ 12 ((6 * e1) + (3 * (1 - e1))) x2) 12 (((6 * e1) + (3 * (1 - e1))) + 1) x3) 12 (((6 * e1) + (3 * (1 - e1))) + 2) x4) 15 e1 (g_common ((xb_sl (xb_sl (xb_sl σ 12 ((6 * e1) + (3 * (1 - e1))) x2) 12 (((6 * e1) + (3 * (1 - e1))) + 1) x3) 12 (((6 * e1) + (3 * (1 - e1))) + 2) x4).2 12 ((6 * e1) + 1)) ((xb_sl (xb_sl (xb_sl σ 12 ((6 * e1) + (3 * (1 - e1))) x2) 12 (((6 * e1) + (3 * (1 - e1))) + 1) x3) 12 (((6 * e1) + (3 * (1 - e1))) + 2) x4).2 12 ((6 * e1) + 4)))) 16 e1 (g_common ((xb_sl (xb_sl (xb_sl σ 12 ((6 * e1) + (3 * (1 - e1))) x2) 12 (((6 * e1) + (3 * (1 - e1))) + 1) x3) 12 (((6 * e1) + (3 * (1 - e1))) + 2) x4).2 12 ((6 * e1) + 2)) ((xb_sl (xb_sl (xb_sl σ 12 ((6 * e1) + (3 * (1 - e1))) x2) 12 (((6 * e1) + (3 * (1 - e1))) + 1) x3) 12 (((6 * e1) + (3 * (1 - e1))) + 2) x4).2 12 ((6 * e1) + 5))))) else (if (g_common ((xb_sl (xb_sl (xb_sl σ 12 ((6 * e1) + (3 * (1 - e1))) x2) 12 (((6 * e1) + (3 * (1 - e1))) + 1) x3) 12 (((6 * e1) + (3 * (1 - e1))) + 2) x4).2 12 ((6 * e1) + 2)) ((xb_sl (xb_sl (xb_sl σ 12 ((6 * e1) + (3 * (1 - e1))) x2) 12 (((6 * e1) + (3 * (1 - e1))) + 1) x3) 12 (((6 * e1) + (3 * (1 - e1))) + 2) x4).2 12 ((6 * e1) + 5))) = 0 then (q_fail e1 (3 : Int64) (xb_si (xb_si (xb_sl (xb_sl (xb_sl σ 12 ((6 * e1) + (3 * (1 - e1))) x2) 12 (((6 * e1) + (3 * (1 - e1))) + 1) x3) 12 (((6 * e1) + (3 * (1 - e1))) + 2) x4) 15 e1 (g_common ((xb_sl (xb_sl (xb_sl σ 12 ((6 * e1) + (3 * (1 - e1))) x2) 12 (((6 * e1) + (3 * (1 - e1))) + 1) x3) 12 (((6 * e1) + (3 * (1 - e1))) + 2) x4).2 12 ((6 * e1) + 1)) ((xb_sl (xb_sl (xb_sl σ 12 ((6 * e1) + (3 * (1 - e1))) x2) 12 (((6 * e1) + (3 * (1 - e1))) + 1) x3) 12 (((6 * e1) + (3 * (1 - e1))) + 2) x4).2 12 ((6 * e1) + 4)))) 16 e1 (g_common ((xb_sl (xb_sl (xb_sl σ 12 ((6 * e1) + (3 * (1 - e1))) x2) 12 (((6 * e1) + (3 * (1 - e1))) + 1) x3) 12 (((6 * e1) + (3 * (1 - e1))) + 2) x4).2 12 ((6 * e1) + 2)) ((xb_sl (xb_sl (xb_sl σ 12 ((6 * e1) + (3 * (1 - e1))) x2) 12 (((6 * e1) + (3 * (1 - e1))) + 1) x3) 12 (((6 * e1) + (3 * (1 - e1))) + 2) x4).2 12 ((6 * e1) + 5))))) else (if (nI e1) = 0 then (q_send 0 (30 : Int32) (g_power (7 : Int64) (σ.2 13 0)) (0 : Int64) (0 : Int64) (0 : Int64) (xb_sl (xb_si (xb_si (xb_si (xb_sl (xb_sl (xb_sl σ 12 ((6 * e1) + (3 * (1 - e1))) x2) 12 (((6 * e1) + (3 * (1 - e1))) + 1) x3) 12 (((6 * e1) + (3 * (1 - e1))) + 2) x4) 15 e1 (g_common ((xb_sl (xb_sl (xb_sl σ 12 ((6 * e1) + (3 * (1 - e1))) x2) 12 (((6 * e1) + (3 * (1 - e1))) + 1) x3) 12 (((6 * e1) + (3 * (1 - e1))) + 2) x4).2 12 ((6 * e1) + 1)) ((xb_sl (xb_sl (xb_sl σ 12 ((6 * e1) + (3 * (1 - e1))) x2) 12 (((6 * e1) + (3 * (1 - e1))) + 1) x3) 12 (((6 * e1) + (3 * (1 - e1))) + 2) x4).2 12 ((6 * e1) + 4)))) 16 e1 (g_common ((xb_sl (xb_sl (xb_sl σ 12 ((6 * e1) + (3 * (1 - e1))) x2) 12 (((6 * e1) + (3 * (1 - e1))) + 1) x3) 12 (((6 * e1) + (3 * (1 - e1))) + 2) x4).2 12 ((6 * e1) + 2)) ((xb_sl (xb_sl (xb_sl σ 12 ((6 * e1) + (3 * (1 - e1))) x2) 12 (((6 * e1) + (3 * (1 - e1))) + 1) x3) 12 (((6 * e1) + (3 * (1 - e1))) + 2) x4).2 12 ((6 * e1) + 5)))) 4 e1 (2 : Int32)) 14 0 (g_power (7 : Int64) (σ.2 13 0)))) else (xb_si (xb_si (xb_si (xb_sl (xb_sl (xb_sl σ 12 ((6 * e1) + (3 * (1 - e1))) x2) 12 (((6 * e1) + (3 * (1 - e1))) + 1) x3) 12 (((6 * e1) + (3 * (1 - e1))) + 2) x4) 15 e1 (g_common ((xb_sl (xb_sl (xb_sl σ 12 ((6 * e1) + (3 * (1 - e1))) x2) 12 (((6 * e1) + (3 * (1 - e1))) + 1) x3) 12 (((6 * e1) + (3 * (1 - e1))) + 2) x4).2 12 ((6 * e1) + 1)) ((xb_sl (xb_sl (xb_sl σ 12 ((6 * e1) + (3 * (1 - e1))) x2) 12 (((6 * e1) + (3 * (1 - e1))) + 1) x3) 12 (((6 * e1) + (3 * (1 - e1))) + 2) x4).2 12 ((6 * e1) + 4)))) 16 e1 (g_common ((xb_sl (xb_sl (xb_sl σ 12 ((6 * e1) + (3 * (1 - e1))) x2) 12 (((6 * e1) + (3 * (1 - e1))) + 1) x3) 12 (((6 * e1) + (3 * (1 - e1))) + 2) x4).2 12 ((6 * e1) + 2)) ((xb_sl (xb_sl (xb_sl σ 12 ((6 * e1) + (3 * (1 - e1))) x2) 12 (((6 * e1) + (3 * (1 - e1))) + 1) x3) 12 (((6 * e1) + (3 * (1 - e1))) + 2) x4).2 12 ((6 * e1) + 5)))) 4 e1 (2 : Int32))))))) else (if (g_isList x3) = 0 then (q_fail e1 (3 : Int64) (xb_si (xb_si (xb_sl (xb_sl (xb_sl (q_start e1 σ) 12 ((6 * e1) + (3 * (1 - e1))) x2) 12 (((6 * e1) + (3 * (1 - e1))) + 1) x3) 12 (((6 * e1) + (3 * (1 - e1))) + 2) x4) 15 e1 (0 : Int32)) 16 e1 (0 : Int32))) else (if (g_isList x4) = 0 then (q_fail e1 (3 : Int64) (xb_si (xb_si (xb_sl (xb_sl (xb_sl (q_start e1 σ) 12 ((6 * e1) + (3 * (1 - e1))) x2) 12 (((6 * e1) + (3 * (1 - e1))) + 1) x3) 12 (((6 * e1) + (3 * (1 - e1))) + 2) x4) 15 e1 (0 : Int32)) 16 e1 (0 : Int32))) else (if (g_common ((xb_sl (xb_sl (xb_sl (q_start e1 σ) 12 ((6 * e1) + (3 * (1 - e1))) x2) 12 (((6 * e1) + (3 * (1 - e1))) + 1) x3) 12 (((6 * e1) + (3 * (1 - e1))) + 2) x4).2 12 ((6 * e1) + 1)) ((xb_sl (xb_sl (xb_sl (q_start e1 σ) 12 ((6 * e1) + (3 * (1 - e1))) x2) 12 (((6 * e1) + (3 * (1 - e1))) + 1) x3) 12 (((6 * e1) + (3 * (1 - e1))) + 2) x4).2 12 ((6 * e1) + 4))) = 0 then (q_fail e1 (3 : Int64) (xb_si (xb_si (xb_sl (xb_sl (xb_sl (q_start e1 σ) 12 ((6 * e1) + (3 * (1 - e1))) x2) 12 (((6 * e1) + (3 * (1 - e1))) + 1) x3) 12 (((6 * e1) + (3 * (1 - e1))) + 2) x4) 15 e1 (g_common ((xb_sl (xb_sl (xb_sl (q_start e1 σ) 12 ((6 * e1) + (3 * (1 - e1))) x2) 12 (((6 * e1) + (3 * (1 - e1))) + 1) x3) 12 (((6 * e1) + (3 * (1 - e1))) + 2) x4).2 12 ((6 * e1) + 1)) ((xb_sl (xb_sl (xb_sl (q_start e1 σ) 12 ((6 * e1) + (3 * (1 - e1))) x2) 12 (((6 * e1) + (3 * (1 - e1))) + 1) x3) 12 (((6 * e1) + (3 * (1 - e1))) + 2) x4).2 12 ((6 * e1) + 4)))) 16 e1 (g_common ((xb_sl (xb_sl (xb_sl (q_start e1 σ) 12 ((6 * e1) + (3 * (1 - e1))) x2) 12 (((6 * e1) + (3 * (1 - e1))) + 1) x3) 12 (((6 * e1) + (3 * (1 - e1))) + 2) x4).2 12 ((6 * e1) + 2)) ((xb_sl (xb_sl (xb_sl (q_start e1 σ) 12 ((6 * e1) + (3 * (1 - e1))) x2) 12 (((6 * e1) + (3 * (1 - e1))) + 1) x3) 12 (((6 * e1) + (3 * (1 - e1))) + 2) x4).2 12 ((6 * e1) + 5))))) else (if (g_common ((xb_sl (xb_sl (xb_sl (q_start e1 σ) 12 ((6 * e1) + (3 * (1 - e1))) x2) 12 (((6 * e1) + (3 * (1 - e1))) + 1) x3) 12 (((6 * e1) + (3 * (1 - e1))) + 2) x4).2 12 ((6 * e1) + 2)) ((xb_sl (xb_sl (xb_sl (q_start e1 σ) 12 ((6 * e1) + (3 * (1 - e1))) x2) 12 (((6 * e1) + (3 * (1 - e1))) + 1) x3) 12 (((6 * e1) + (3 * (1 - e1))) + 2) x4).2 12 ((6 * e1) + 5))) = 0 then (q_fail e1 (3 : Int64) (xb_si (xb_si (xb_sl (xb_sl (xb_sl (q_start e1 σ) 12 ((6 * e1) + (3 * (1 - e1))) x2) 12 (((6 * e1) + (3 * (1 - e1))) + 1) x3) 12 (((6 * e1) + (3 * (1 - e1))) + 2) x4) 15 e1 (g_common ((xb_sl (xb_sl (xb_sl (q_start e1 σ) 12 ((6 * e1) + (3 * (1 - e1))) x2) 12 (((6 * e1) + (3 * (1 - e1))) + 1) x3) 12 (((6 * e1) + (3 * (1 - e1))) + 2) x4).2 12 ((6 * e1) + 1)) ((xb_sl (xb_sl (xb_sl (q_start e1 σ) 12 ((6 * e1) + (3 * (1 - e1))) x2) 12 (((6 * e1) + (3 * (1 - e1))) + 1) x3) 12 (((6 * e1) + (3 * (1 - e1))) + 2) x4).2 12 ((6 * e1) + 4)))) 16 e1 (g_common ((xb_sl (xb_sl (xb_sl (q_start e1 σ) 12 ((6 * e1) + (3 * (1 - e1))) x2) 12 (((6 * e1) + (3 * (1 - e1))) + 1) x3) 12 (((6 * e1) + (3 * (1 - e1))) + 2) x4).2 12 ((6 * e1) + 2)) ((xb_sl (xb_sl (xb_sl (q_start e1 σ) 12 ((6 * e1) + (3 * (1 - e1))) x2) 12 (((6 * e1) + (3 * (1 - e1))) + 1) x3) 12 (((6 * e1) + (3 * (1 - e1))) + 2) x4).2 12 ((6 * e1) + 5))))) else (if (nI e1) = 0 then (q_send 0 (30 : Int32) (g_power (7 : Int64) ((q_start e1 σ).2 13 0)) (0 : Int64) (0 : Int64) (0 : Int64) (xb_sl (xb_si (xb_si (xb_si (xb_sl (xb_sl (xb_sl (q_start e1 σ) 12 ((6 * e1) + (3 * (1 - e1))) x2) 12 (((6 * e1) + (3 * (1 - e1))) + 1) x3) 12 (((6 * e1) + (3 * (1 - e1))) + 2) x4) 15 e1 (g_common ((xb_sl (xb_sl (xb_sl (q_start e1 σ) 12 ((6 * e1) + (3 * (1 - e1))) x2) 12 (((6 * e1) + (3 * (1 - e1))) + 1) x3) 12 (((6 * e1) + (3 * (1 - e1))) + 2) x4).2 12 ((6 * e1) + 1)) ((xb_sl (xb_sl (xb_sl (q_start e1 σ) 12 ((6 * e1) + (3 * (1 - e1))) x2) 12 (((6 * e1) + (3 * (1 - e1))) + 1) x3) 12 (((6 * e1) + (3 * (1 - e1))) + 2) x4).2 12 ((6 * e1) + 4)))) 16 e1 (g_common ((xb_sl (xb_sl (xb_sl (q_start e1 σ) 12 ((6 * e1) + (3 * (1 - e1))) x2) 12 (((6 * e1) + (3 * (1 - e1))) + 1) x3) 12 (((6 * e1) + (3 * (1 - e1))) + 2) x4).2 12 ((6 * e1) + 2)) ((xb_sl (xb_sl (xb_sl (q_start e1 σ) 12 ((6 * e1) + (3 * (1 - e1))) x2) 12 (((6 * e1) + (3 * (1 - e1))) + 1) x3) 12 (((6 * e1) + (3 * (1 - e1))) + 2) x4).2 12 ((6 * e1) + 5)))) 4 e1 (2 : Int32)) 14 0 (g_power (7 : Int64) ((q_start e1 σ).2 13 0)))) else (xb_si (xb_si (xb_si (xb_sl (xb_sl (xb_sl (q_start e1 σ) 12 ((6 * e1) + (3 * (1 - e1))) x2) 12 (((6 * e1) + (3 * (1 - e1))) + 1) x3) 12 (((6 * e1) + (3 * (1 - e1))) + 2) x4) 15 e1 (g_common ((xb_sl (xb_sl (xb_sl (q_start e1 σ) 12 ((6 * e1) + (3 * (1 - e1))) x2) 12 (((6 * e1) + (3 * (1 - e1))) + 1) x3) 12 (((6 * e1) + (3 * (1 - e1))) + 2) x4).2 12 ((6 * e1) + 1)) ((xb_sl (xb_sl (xb_sl (q_start e1 σ) 12 ((6 * e1) + (3 * (1 - e1))) x2) 12 (((6 * e1) + (3 * (1 - e1))) + 1) x3) 12 (((6 * e1) + (3 * (1 - e1))) + 2) x4).2 12 ((6 * e1) + 4)))) 16 e1 (g_common ((xb_sl (xb_sl (xb_sl (q_start e1 σ) 12 ((6 * e1) + (3 * (1 - e1))) x2) 12 (((6 * e1) + (3 * (1 - e1))) + 1) x3) 12 (((6 * e1) + (3 * (1 - e1))) + 2) x4).2 12 ((6 * e1) + 2)) ((xb_sl (xb_sl (xb_sl (q_start e1 σ) 12 ((6 * e1) + (3 * (1 - e1))) x2) 12 (((6 * e1) + (3 * (1 - e1))) + 1) x3) 12 (((6 * e1) + (3 * (1 - e1))) + 2) x4).2 12 ((6 * e1) + 5)))) 4 e1 (2 : Int32)))))))) else (if (σ.1 4 e1) = (1 : Int32) then (if (g_isList x3) = 0 then (q_fail e1 (3 : Int64) (xb_si (xb_si (xb_sl (xb_sl (xb_sl σ 12 ((6 * e1) + (3 * (1 - e1))) x2) 12 (((6 * e1) + (3 * (1 - e1))) + 1) x3) 12 (((6 * e1) + (3 * (1 - e1))) + 2) x4) 15 e1 (0 : Int32)) 16 e1 (0 : Int32))) else (if (g_isList x4) = 0 then (q_fail e1 (3 : Int64) (xb_si (xb_si (xb_sl (xb_sl (xb_sl σ 12 ((6 * e1) + (3 * (1 - e1))) x2) 12 (((6 * e1) + (3 * (1 - e1))) + 1) x3) 12 (((6 * e1) + (3 * (1 - e1))) + 2) x4) 15 e1 (0 : Int32)) 16 e1 (0 : Int32))) else (if (g_common ((xb_sl (xb_sl (xb_sl σ 12 ((6 * e1) + (3 * (1 - e1))) x2) 12 (((6 * e1) + (3 * (1 - e1))) + 1) x3) 12 (((6 * e1) + (3 * (1 - e1))) + 2) x4).2 12 ((6 * e1) + 1)) ((xb_sl (xb_sl (xb_sl σ 12 ((6 * e1) + (3 * (1 - e1))) x2) 12 (((6 * e1) + (3 * (1 - e1))) + 1) x3) 12 (((6 * e1) + (3 * (1 - e1))) + 2) x4).2 12 ((6 * e1) + 4))) = 0 then (q_fail e1 (3 : Int64) (xb_si (xb_si (xb_sl (xb_sl (xb_sl σ 12 ((6 * e1) + (3 * (1 - e1))) x2) 12 (((6 * e1) + (3 * (1 - e1))) + 1) x3) 12 (((6 * e1) + (3 * (1 - e1))) + 2) x4) 15 e1 (g_common ((xb_sl (xb_sl (xb_sl σ 12 ((6 * e1) + (3 * (1 - e1))) x2) 12 (((6 * e1) + (3 * (1 - e1))) + 1) x3) 12 (((6 * e1) + (3 * (1 - e1))) + 2) x4).2 12 ((6 * e1) + 1)) ((xb_sl (xb_sl (xb_sl σ 12 ((6 * e1) + (3 * (1 - e1))) x2) 12 (((6 * e1) + (3 * (1 - e1))) + 1) x3) 12 (((6 * e1) + (3 * (1 - e1))) + 2) x4).2 12 ((6 * e1) + 4)))) 16 e1 (g_common ((xb_sl (xb_sl (xb_sl σ 12 ((6 * e1) + (3 * (1 - e1))) x2) 12 (((6 * e1) + (3 * (1 - e1))) + 1) x3) 12 (((6 * e1) + (3 * (1 - e1))) + 2) x4).2 12 ((6 * e1) + 2)) ((xb_sl (xb_sl (xb_sl σ 12 ((6 * e1) + (3 * (1 - e1))) x2) 12 (((6 * e1) + (3 * (1 - e1))) + 1) x3) 12 (((6 * e1) + (3 * (1 - e1))) + 2) x4).2 12 ((6 * e1) + 5))))) else (if (g_common ((xb_sl (xb_sl (xb_sl σ 12 ((6 * e1) + (3 * (1 - e1))) x2) 12 (((6 * e1) + (3 * (1 - e1))) + 1) x3) 12 (((6 * e1) + (3 * (1 - e1))) + 2) x4).2 12 ((6 * e1) + 2)) ((xb_sl (xb_sl (xb_sl σ 12 ((6 * e1) + (3 * (1 - e1))) x2) 12 (((6 * e1) + (3 * (1 - e1))) + 1) x3) 12 (((6 * e1) + (3 * (1 - e1))) + 2) x4).2 12 ((6 * e1) + 5))) = 0 then (q_fail e1 (3 : Int64) (xb_si (xb_si (xb_sl (xb_sl (xb_sl σ 12 ((6 * e1) + (3 * (1 - e1))) x2) 12 (((6 * e1) + (3 * (1 - e1))) + 1) x3) 12 (((6 * e1) + (3 * (1 - e1))) + 2) x4) 15 e1 (g_common ((xb_sl (xb_sl (xb_sl σ 12 ((6 * e1) + (3 * (1 - e1))) x2) 12 (((6 * e1) + (3 * (1 - e1))) + 1) x3) 12 (((6 * e1) + (3 * (1 - e1))) + 2) x4).2 12 ((6 * e1) + 1)) ((xb_sl (xb_sl (xb_sl σ 12 ((6 * e1) + (3 * (1 - e1))) x2) 12 (((6 * e1) + (3 * (1 - e1))) + 1) x3) 12 (((6 * e1) + (3 * (1 - e1))) + 2) x4).2 12 ((6 * e1) + 4)))) 16 e1 (g_common ((xb_sl (xb_sl (xb_sl σ 12 ((6 * e1) + (3 * (1 - e1))) x2) 12 (((6 * e1) + (3 * (1 - e1))) + 1) x3) 12 (((6 * e1) + (3 * (1 - e1))) + 2) x4).2 12 ((6 * e1) + 2)) ((xb_sl (xb_sl (xb_sl σ 12 ((6 * e1) + (3 * (1 - e1))) x2) 12 (((6 * e1) + (3 * (1 - e1))) + 1) x3) 12 (((6 * e1) + (3 * (1 - e1))) + 2) x4).2 12 ((6 * e1) + 5))))) else (if (nI e1) = 0 then (q_send 0 (30 : Int32) (g_power (7 : Int64) (σ.2 13 0)) (0 : Int64) (0 : Int64) (0 : Int64) (xb_sl (xb_si (xb_si (xb_si (xb_sl (xb_sl (xb_sl σ 12 ((6 * e1) + (3 * (1 - e1))) x2) 12 (((6 * e1) + (3 * (1 - e1))) + 1) x3) 12 (((6 * e1) + (3 * (1 - e1))) + 2) x4) 15 e1 (g_common ((xb_sl (xb_sl (xb_sl σ 12 ((6 * e1) + (3 * (1 - e1))) x2) 12 (((6 * e1) + (3 * (1 - e1))) + 1) x3) 12 (((6 * e1) + (3 * (1 - e1))) + 2) x4).2 12 ((6 * e1) + 1)) ((xb_sl (xb_sl (xb_sl σ 12 ((6 * e1) + (3 * (1 - e1))) x2) 12 (((6 * e1) + (3 * (1 - e1))) + 1) x3) 12 (((6 * e1) + (3 * (1 - e1))) + 2) x4).2 12 ((6 * e1) + 4)))) 16 e1 (g_common ((xb_sl (xb_sl (xb_sl σ 12 ((6 * e1) + (3 * (1 - e1))) x2) 12 (((6 * e1) + (3 * (1 - e1))) + 1) x3) 12 (((6 * e1) + (3 * (1 - e1))) + 2) x4).2 12 ((6 * e1) + 2)) ((xb_sl (xb_sl (xb_sl σ 12 ((6 * e1) + (3 * (1 - e1))) x2) 12 (((6 * e1) + (3 * (1 - e1))) + 1) x3) 12 (((6 * e1) + (3 * (1 - e1))) + 2) x4).2 12 ((6 * e1) + 5)))) 4 e1 (2 : Int32)) 14 0 (g_power (7 : Int64) (σ.2 13 0)))) else (xb_si (xb_si (xb_si (xb_sl (xb_sl (xb_sl σ 12 ((6 * e1) + (3 * (1 - e1))) x2) 12 (((6 * e1) + (3 * (1 - e1))) + 1) x3) 12 (((6 * e1) + (3 * (1 - e1))) + 2) x4) 15 e1 (g_common ((xb_sl (xb_sl (xb_sl σ 12 ((6 * e1) + (3 * (1 - e1))) x2) 12 (((6 * e1) + (3 * (1 - e1))) + 1) x3) 12 (((6 * e1) + (3 * (1 - e1))) + 2) x4).2 12 ((6 * e1) + 1)) ((xb_sl (xb_sl (xb_sl σ 12 ((6 * e1) + (3 * (1 - e1))) x2) 12 (((6 * e1) + (3 * (1 - e1))) + 1) x3) 12 (((6 * e1) + (3 * (1 - e1))) + 2) x4).2 12 ((6 * e1) + 4)))) 16 e1 (g_common ((xb_sl (xb_sl (xb_sl σ 12 ((6 * e1) + (3 * (1 - e1))) x2) 12 (((6 * e1) + (3 * (1 - e1))) + 1) x3) 12 (((6 * e1) + (3 * (1 - e1))) + 2) x4).2 12 ((6 * e1) + 2)) ((xb_sl (xb_sl (xb_sl σ 12 ((6 * e1) + (3 * (1 - e1))) x2) 12 (((6 * e1) + (3 * (1 - e1))) + 1) x3) 12 (((6 * e1) + (3 * (1 - e1))) + 2) x4).2 12 ((6 * e1) + 5)))) 4 e1 (2 : Int32))))))) else (q_fail e1 (2 : Int64) σ))))
set_option maxHeartbeats 4000000 in
set_option maxRecDepth 100000 in
theorem c_M_initTaken (l : Launch) (D : va_G) (α : Nat → Nat) (κ : Nat → ClassId) (hα : xb_inj α 35) (σ : xb_St) (x_e1 : Int32) (e1 : Nat) (e_e1 : x_e1 = nI e1) (b_e1 : e1 < 2) (x2 : Int64) (x3 : Int64) (x4 : Int64) (ok : sm_ok σ) : Met l y_M_initTaken w_M_initTaken ({ frames := 4, cells := 0, slots := 0, locals := 115 }) (va_Pc ([.ref (α 0), .int x_e1, .long x2, .long x3, .long x4]) (sm_Pre D α κ σ)) (va_Qv (fun u : xb_St => u = q_init e1 x2 x3 x4 σ) (sm_B D α κ) (xb_A α 35)) 0 0 (xb_A α 35) := by
  subst e_e1
  refine Met.ofW (cc := b_M_initTaken) (maxL := 10) (ret := none) (by decide) rfl ?_
  intro p e s m args below meth c s₁ B_ hml hv
  obtain ⟨rfl, hP, hK, hN⟩ := hv
  have hx := B_.exec
  have hb := B_.bytes
  have hr := B_.returns
  have hts := atoms_spec (ws := w_M_initTaken) B_.pre
  have ht : ∀ w ∈ xa, w.before _ s = true := fun w h => hts w (List.mem_cons_of_mem _ h)
  have hown : s.vm.findClass "SecurePairModel" = some m.cls := findClass_of_methodNamed B_.named
  have hlocks := B_.notSynchronized
  have hD := sm_D hα κ
  have hS : va_S (xb_A α 35) s.heap s.heap [] := va_S.rf
  have hl := lv_entry ([.ref (α 0), .int (nI e1), .long x2, .long x3, .long x4]) (n := 10) (Nat.le_of_ble_eq_true rfl)
  rw [lg_entry_eq]
  generalize (lg_sl ([.ref (α 0), .int (nI e1), .long x2, .long x3, .long x4]) ++ List.replicate (10 - (lg_sl ([.ref (α 0), .int (nI e1), .long x2, .long x3, .long x4])).length) Slot.unset).toArray = ls at hl ⊢
  have hl : lv_has ls 10 [(0, .ref (α 0)), (1, .int (nI e1)), (2, .long x2), (4, .long x3), (6, .long x4)] := hl
  refine lv_aload_n hx hb d_M_initTaken_0 rfl (lv_at hl 0 rfl) ?_
  refine sm_g (v := .ref (α 4)) hx hb ht hown hK hP 6 (by decide) (ht _ xw958) (fun _ h_ => h_) rfl d_M_initTaken_1 ?_
  refine lv_iload_n hx hb d_M_initTaken_4 rfl (lv_at hl 1 rfl) ?_
  refine sm_gaI (L := 2) (n := e1) (v := (σ.1 4 e1)) hx hb hK hP 4 3 rfl rfl (xb_in (xb_lit e1 rfl) (by omega) (by decide)) (xb_cl (xb_lit e1 rfl) (by omega)) rfl d_M_initTaken_5 ?_
  refine lv_if_eq (tgt := 38) hx hb d_M_initTaken_6 (by decide) (fun c1 => ?_) (fun c1 => ?_)
  · skip
    refine lv_aload_n hx hb d_M_initTaken_38 rfl (lv_at hl 0 rfl) ?_
    refine sm_g (v := .ref (α 4)) hx hb ht hown hK hP 6 (by decide) (ht _ xw958) (fun _ h_ => h_) rfl d_M_initTaken_39 ?_
    refine lv_iload_n hx hb d_M_initTaken_42 rfl (lv_at hl 1 rfl) ?_
    refine sm_gaI (L := 2) (n := e1) (v := (σ.1 4 e1)) hx hb hK hP 4 3 rfl rfl (xb_in (xb_lit e1 rfl) (by omega) (by decide)) (xb_cl (xb_lit e1 rfl) (by omega)) rfl d_M_initTaken_43 ?_
    refine lv_iconst (v := 1) hx hb d_M_initTaken_44 (by decide) ?_
    refine lv_icmp_eq (tgt := 53) hx hb d_M_initTaken_45 (by decide) (fun c2 => ?_) (fun c2 => ?_)
    · skip
      refine lv_bipush (v := 6) hx hb d_M_initTaken_53 (by decide) ?_
      refine lv_iload_n hx hb d_M_initTaken_55 rfl (lv_at hl 1 rfl) ?_
      refine lv_imul hx hb d_M_initTaken_56 ?_
      refine lv_iconst (v := 3) hx hb d_M_initTaken_57 (by decide) ?_
      refine lv_iconst (v := 1) hx hb d_M_initTaken_58 (by decide) ?_
      refine lv_iload_n hx hb d_M_initTaken_59 rfl (lv_at hl 1 rfl) ?_
      refine lv_isub hx hb d_M_initTaken_60 ?_
      refine lv_imul hx hb d_M_initTaken_61 ?_
      refine lv_iadd hx hb d_M_initTaken_62 ?_
      refine lv_istore (lv' := [(8, .int (((6 : Int32) * (nI e1)) + ((3 : Int32) * ((1 : Int32) - (nI e1))))), (0, .ref (α 0)), (1, .int (nI e1)), (2, .long x2), (4, .long x3), (6, .long x4)]) hx hb d_M_initTaken_63 hl (by decide) rfl (fun ls hl => ?_)
      refine lv_aload_n hx hb d_M_initTaken_65 rfl (lv_at hl 1 rfl) ?_
      refine sm_g (v := .ref (α 12)) hx hb ht hown hK hP 14 (by decide) (ht _ xw966) (fun _ h_ => h_) rfl d_M_initTaken_66 ?_
      refine lv_iload hx hb d_M_initTaken_69 (lv_at hl 0 rfl) ?_
      refine lv_lload_n hx hb d_M_initTaken_71 rfl (lv_at hl 3 rfl) ?_
      refine sm_paJ (L := 12) (n := ((6 * e1) + (3 * (1 - e1)))) (x := x2) hx hb hK hP 12 11 rfl rfl hD hS (xb_in (xb_na (xb_nm (xb_lit (x := (6 : Int32)) 6 rfl) (xb_lit e1 rfl)) (xb_nm (xb_lit (x := (3 : Int32)) 3 rfl) (xb_ns (xb_lit (x := (1 : Int32)) 1 rfl) (xb_lit e1 rfl) (by omega)))) (by omega) (by decide)) (xb_cl (xb_na (xb_nm (xb_lit (x := (6 : Int32)) 6 rfl) (xb_lit e1 rfl)) (xb_nm (xb_lit (x := (3 : Int32)) 3 rfl) (xb_ns (xb_lit (x := (1 : Int32)) 1 rfl) (xb_lit e1 rfl) (by omega)))) (by omega)) sm_s_12 d_M_initTaken_72 (fun H locs hP hS => ?_)
      refine lv_aload_n hx hb d_M_initTaken_73 rfl (lv_at hl 1 rfl) ?_
      refine sm_g (v := .ref (α 12)) hx hb ht hown hK hP 14 (by decide) (ht _ xw966) (fun _ h_ => h_) rfl d_M_initTaken_74 ?_
      refine lv_iload hx hb d_M_initTaken_77 (lv_at hl 0 rfl) ?_
      refine lv_iconst (v := 1) hx hb d_M_initTaken_79 (by decide) ?_
      refine lv_iadd hx hb d_M_initTaken_80 ?_
      refine lv_lload hx hb d_M_initTaken_81 (lv_at hl 4 rfl) ?_
      refine sm_paJ (L := 12) (n := (((6 * e1) + (3 * (1 - e1))) + 1)) (x := x3) hx hb hK hP 12 11 rfl rfl hD hS (xb_in (xb_na (xb_na (xb_nm (xb_lit (x := (6 : Int32)) 6 rfl) (xb_lit e1 rfl)) (xb_nm (xb_lit (x := (3 : Int32)) 3 rfl) (xb_ns (xb_lit (x := (1 : Int32)) 1 rfl) (xb_lit e1 rfl) (by omega)))) (xb_lit (x := (1 : Int32)) 1 rfl)) (by omega) (by decide)) (xb_cl (xb_na (xb_na (xb_nm (xb_lit (x := (6 : Int32)) 6 rfl) (xb_lit e1 rfl)) (xb_nm (xb_lit (x := (3 : Int32)) 3 rfl) (xb_ns (xb_lit (x := (1 : Int32)) 1 rfl) (xb_lit e1 rfl) (by omega)))) (xb_lit (x := (1 : Int32)) 1 rfl)) (by omega)) sm_s_12 d_M_initTaken_83 (fun H locs hP hS => ?_)
      refine lv_aload_n hx hb d_M_initTaken_84 rfl (lv_at hl 1 rfl) ?_
      refine sm_g (v := .ref (α 12)) hx hb ht hown hK hP 14 (by decide) (ht _ xw966) (fun _ h_ => h_) rfl d_M_initTaken_85 ?_
      refine lv_iload hx hb d_M_initTaken_88 (lv_at hl 0 rfl) ?_
      refine lv_iconst (v := 2) hx hb d_M_initTaken_90 (by decide) ?_
      refine lv_iadd hx hb d_M_initTaken_91 ?_
      refine lv_lload hx hb d_M_initTaken_92 (lv_at hl 5 rfl) ?_
      refine sm_paJ (L := 12) (n := (((6 * e1) + (3 * (1 - e1))) + 2)) (x := x4) hx hb hK hP 12 11 rfl rfl hD hS (xb_in (xb_na (xb_na (xb_nm (xb_lit (x := (6 : Int32)) 6 rfl) (xb_lit e1 rfl)) (xb_nm (xb_lit (x := (3 : Int32)) 3 rfl) (xb_ns (xb_lit (x := (1 : Int32)) 1 rfl) (xb_lit e1 rfl) (by omega)))) (xb_lit (x := (2 : Int32)) 2 rfl)) (by omega) (by decide)) (xb_cl (xb_na (xb_na (xb_nm (xb_lit (x := (6 : Int32)) 6 rfl) (xb_lit e1 rfl)) (xb_nm (xb_lit (x := (3 : Int32)) 3 rfl) (xb_ns (xb_lit (x := (1 : Int32)) 1 rfl) (xb_lit e1 rfl) (by omega)))) (xb_lit (x := (2 : Int32)) 2 rfl)) (by omega)) sm_s_12 d_M_initTaken_94 (fun H locs hP hS => ?_)
      refine lv_lload hx hb d_M_initTaken_95 (lv_at hl 4 rfl) ?_
      refine vp_callSi (W.runS (As := [.long x3]) (rest := []) ⟨hx, hb, hml, hown, hts⟩ (c_M_isList l x3) (cwS 1 hts (xa_S xw1125 xw1126 xw11 xw1127) rfl rfl rfl (by decide +kernel) ⟨Nat.le_of_ble_eq_true rfl, Nat.le_of_ble_eq_true rfl⟩) preEq rfl rfl hl.1 rfl (lv_room (Nat.le_of_ble_eq_true rfl)) d_M_initTaken_97 ⟨Nat.le_of_ble_eq_true rfl, Nat.le_of_ble_eq_true rfl⟩) (fun r_ e_ => ?_)
      subst e_
      refine lv_if_eq (tgt := 115) hx hb d_M_initTaken_100 (by decide) (fun c3 => ?_) (fun c3 => ?_)
      · skip
        refine lv_iconst (v := 0) hx hb d_M_initTaken_115 (by decide) ?_
        refine lv_istore (lv' := [(9, .int (0 : Int32)), (8, .int (((6 : Int32) * (nI e1)) + ((3 : Int32) * ((1 : Int32) - (nI e1))))), (0, .ref (α 0)), (1, .int (nI e1)), (2, .long x2), (4, .long x3), (6, .long x4)]) hx hb d_M_initTaken_116 hl (by decide) rfl (fun ls hl => ?_)
        refine lv_aload_n hx hb d_M_initTaken_118 rfl (lv_at hl 2 rfl) ?_
        refine sm_g (v := .ref (α 15)) hx hb ht hown hK hP 17 (by decide) (ht _ xw969) (fun _ h_ => h_) rfl d_M_initTaken_119 ?_
        refine lv_iload_n hx hb d_M_initTaken_122 rfl (lv_at hl 3 rfl) ?_
        refine lv_iload hx hb d_M_initTaken_123 (lv_at hl 0 rfl) ?_
        refine lv_if_eq (tgt := 156) hx hb d_M_initTaken_125 (by decide) (fun _ => ?_) (fun h_ => absurd h_ (by decide))
        refine lv_iconst (v := 0) hx hb d_M_initTaken_156 (by decide) ?_
        refine sm_paI (L := 2) (n := e1) (x := (0 : Int32)) hx hb hK hP 15 14 rfl rfl hD hS (xb_in (xb_lit e1 rfl) (by omega) (by decide)) (xb_cl (xb_lit e1 rfl) (by omega)) sm_s_15 d_M_initTaken_157 (fun H locs hP hS => ?_)
        refine lv_aload_n hx hb d_M_initTaken_158 rfl (lv_at hl 2 rfl) ?_
        refine sm_g (v := .ref (α 16)) hx hb ht hown hK hP 18 (by decide) (ht _ xw970) (fun _ h_ => h_) rfl d_M_initTaken_159 ?_
        refine lv_iload_n hx hb d_M_initTaken_162 rfl (lv_at hl 3 rfl) ?_
        refine lv_iload hx hb d_M_initTaken_163 (lv_at hl 0 rfl) ?_
        refine lv_if_eq (tgt := 196) hx hb d_M_initTaken_165 (by decide) (fun _ => ?_) (fun h_ => absurd h_ (by decide))
        refine lv_iconst (v := 0) hx hb d_M_initTaken_196 (by decide) ?_
        refine sm_paI (L := 2) (n := e1) (x := (0 : Int32)) hx hb hK hP 16 15 rfl rfl hD hS (xb_in (xb_lit e1 rfl) (by omega) (by decide)) (xb_cl (xb_lit e1 rfl) (by omega)) sm_s_16 d_M_initTaken_197 (fun H locs hP hS => ?_)
        refine lv_aload_n hx hb d_M_initTaken_198 rfl (lv_at hl 2 rfl) ?_
        refine sm_g (v := .ref (α 15)) hx hb ht hown hK hP 17 (by decide) (ht _ xw969) (fun _ h_ => h_) rfl d_M_initTaken_199 ?_
        refine lv_iload_n hx hb d_M_initTaken_202 rfl (lv_at hl 3 rfl) ?_
        refine sm_gaI (L := 2) (n := e1) (v := (0 : Int32)) hx hb hK hP 15 14 rfl rfl (xb_in (xb_lit e1 rfl) (by omega) (by decide)) (xb_cl (xb_lit e1 rfl) (by omega)) (((xb_i_nk (by decide))).trans (xb_i_hit)) d_M_initTaken_203 ?_
        refine lv_if_eq (tgt := 216) hx hb d_M_initTaken_204 (by decide) (fun _ => ?_) (fun h_ => absurd h_ (by decide))
        refine lv_aload_n hx hb d_M_initTaken_216 rfl (lv_at hl 2 rfl) ?_
        refine lv_iload_n hx hb d_M_initTaken_217 rfl (lv_at hl 3 rfl) ?_
        refine lv_ldc2 hx hb hown (ht _ xw1132) d_M_initTaken_218 ?_
        refine sm_cv (va_runV (As := [.int (nI e1), .long (3 : Int64)]) (rest := []) ⟨hx, hb, hml, hown, hts⟩ (c_M_fail l D α κ hα (xb_si (xb_si (xb_sl (xb_sl (xb_sl σ 12 ((6 * e1) + (3 * (1 - e1))) x2) 12 (((6 * e1) + (3 * (1 - e1))) + 1) x3) 12 (((6 * e1) + (3 * (1 - e1))) + 2) x4) 15 e1 (0 : Int32)) 16 e1 (0 : Int32)) (nI e1) e1 (xb_lit e1 rfl) (by omega) (3 : Int64) (mk_si (mk_si (mk_sl (mk_sl (mk_sl ok))) (by decide)) (by decide))) (cwV 2 hts (xa_V xw1112 xw1114 xs9 xw11 xw1115) rfl rfl rfl (by decide +kernel) ⟨Nat.le_of_ble_eq_true rfl, Nat.le_of_ble_eq_true rfl⟩) ⟨sm_blind, va_recv (q0 := 0) (ci := 9) hK hP rfl rfl, sm_pre hP hK hN _⟩ rfl rfl hl.1 rfl (lv_room (Nat.le_of_ble_eq_true rfl)) d_M_initTaken_221 ⟨Nat.le_of_ble_eq_true rfl, Nat.le_of_ble_eq_true rfl⟩) hS (fun _ h_ => h_) (fun H locs hP hS => ?_)
        obtain ⟨τ1, hτ1⟩ : ∃ t_, t_ = (q_fail e1 (3 : Int64) (xb_si (xb_si (xb_sl (xb_sl (xb_sl σ 12 ((6 * e1) + (3 * (1 - e1))) x2) 12 (((6 * e1) + (3 * (1 - e1))) + 1) x3) 12 (((6 * e1) + (3 * (1 - e1))) + 2) x4) 15 e1 (0 : Int32)) 16 e1 (0 : Int32))) := ⟨_, rfl⟩
        rw [← hτ1] at hP
        have okτ1 : sm_ok τ1 := by rw [hτ1]; exact (ok_q_fail e1 (3 : Int64) (by omega) (mk_si (mk_si (mk_sl (mk_sl (mk_sl ok))) (by decide)) (by decide)))
        exact W.vret hx hb hr (fun t ht_ hW => ⟨⟨τ1, rfl, (by subst hτ1; exact ((if_pos c1).trans ((if_pos c2).trans ((if_pos c3)))).symm), by rw [sm_B, ht_]; exact hP⟩, hS.F ht_⟩) hS.2.2 d_M_initTaken_224
      · skip
        refine lv_lload hx hb d_M_initTaken_103 (lv_at hl 5 rfl) ?_
        refine vp_callSi (W.runS (As := [.long x4]) (rest := []) ⟨hx, hb, hml, hown, hts⟩ (c_M_isList l x4) (cwS 1 hts (xa_S xw1125 xw1126 xw11 xw1127) rfl rfl rfl (by decide +kernel) ⟨Nat.le_of_ble_eq_true rfl, Nat.le_of_ble_eq_true rfl⟩) preEq rfl rfl hl.1 rfl (lv_room (Nat.le_of_ble_eq_true rfl)) d_M_initTaken_105 ⟨Nat.le_of_ble_eq_true rfl, Nat.le_of_ble_eq_true rfl⟩) (fun r_ e_ => ?_)
        subst e_
        refine lv_if_eq (tgt := 115) hx hb d_M_initTaken_108 (by decide) (fun c4 => ?_) (fun c4 => ?_)
        · skip
          refine lv_iconst (v := 0) hx hb d_M_initTaken_115 (by decide) ?_
          refine lv_istore (lv' := [(9, .int (0 : Int32)), (8, .int (((6 : Int32) * (nI e1)) + ((3 : Int32) * ((1 : Int32) - (nI e1))))), (0, .ref (α 0)), (1, .int (nI e1)), (2, .long x2), (4, .long x3), (6, .long x4)]) hx hb d_M_initTaken_116 hl (by decide) rfl (fun ls hl => ?_)
          refine lv_aload_n hx hb d_M_initTaken_118 rfl (lv_at hl 2 rfl) ?_
          refine sm_g (v := .ref (α 15)) hx hb ht hown hK hP 17 (by decide) (ht _ xw969) (fun _ h_ => h_) rfl d_M_initTaken_119 ?_
          refine lv_iload_n hx hb d_M_initTaken_122 rfl (lv_at hl 3 rfl) ?_
          refine lv_iload hx hb d_M_initTaken_123 (lv_at hl 0 rfl) ?_
          refine lv_if_eq (tgt := 156) hx hb d_M_initTaken_125 (by decide) (fun _ => ?_) (fun h_ => absurd h_ (by decide))
          refine lv_iconst (v := 0) hx hb d_M_initTaken_156 (by decide) ?_
          refine sm_paI (L := 2) (n := e1) (x := (0 : Int32)) hx hb hK hP 15 14 rfl rfl hD hS (xb_in (xb_lit e1 rfl) (by omega) (by decide)) (xb_cl (xb_lit e1 rfl) (by omega)) sm_s_15 d_M_initTaken_157 (fun H locs hP hS => ?_)
          refine lv_aload_n hx hb d_M_initTaken_158 rfl (lv_at hl 2 rfl) ?_
          refine sm_g (v := .ref (α 16)) hx hb ht hown hK hP 18 (by decide) (ht _ xw970) (fun _ h_ => h_) rfl d_M_initTaken_159 ?_
          refine lv_iload_n hx hb d_M_initTaken_162 rfl (lv_at hl 3 rfl) ?_
          refine lv_iload hx hb d_M_initTaken_163 (lv_at hl 0 rfl) ?_
          refine lv_if_eq (tgt := 196) hx hb d_M_initTaken_165 (by decide) (fun _ => ?_) (fun h_ => absurd h_ (by decide))
          refine lv_iconst (v := 0) hx hb d_M_initTaken_196 (by decide) ?_
          refine sm_paI (L := 2) (n := e1) (x := (0 : Int32)) hx hb hK hP 16 15 rfl rfl hD hS (xb_in (xb_lit e1 rfl) (by omega) (by decide)) (xb_cl (xb_lit e1 rfl) (by omega)) sm_s_16 d_M_initTaken_197 (fun H locs hP hS => ?_)
          refine lv_aload_n hx hb d_M_initTaken_198 rfl (lv_at hl 2 rfl) ?_
          refine sm_g (v := .ref (α 15)) hx hb ht hown hK hP 17 (by decide) (ht _ xw969) (fun _ h_ => h_) rfl d_M_initTaken_199 ?_
          refine lv_iload_n hx hb d_M_initTaken_202 rfl (lv_at hl 3 rfl) ?_
          refine sm_gaI (L := 2) (n := e1) (v := (0 : Int32)) hx hb hK hP 15 14 rfl rfl (xb_in (xb_lit e1 rfl) (by omega) (by decide)) (xb_cl (xb_lit e1 rfl) (by omega)) (((xb_i_nk (by decide))).trans (xb_i_hit)) d_M_initTaken_203 ?_
          refine lv_if_eq (tgt := 216) hx hb d_M_initTaken_204 (by decide) (fun _ => ?_) (fun h_ => absurd h_ (by decide))
          refine lv_aload_n hx hb d_M_initTaken_216 rfl (lv_at hl 2 rfl) ?_
          refine lv_iload_n hx hb d_M_initTaken_217 rfl (lv_at hl 3 rfl) ?_
          refine lv_ldc2 hx hb hown (ht _ xw1132) d_M_initTaken_218 ?_
          refine sm_cv (va_runV (As := [.int (nI e1), .long (3 : Int64)]) (rest := []) ⟨hx, hb, hml, hown, hts⟩ (c_M_fail l D α κ hα (xb_si (xb_si (xb_sl (xb_sl (xb_sl σ 12 ((6 * e1) + (3 * (1 - e1))) x2) 12 (((6 * e1) + (3 * (1 - e1))) + 1) x3) 12 (((6 * e1) + (3 * (1 - e1))) + 2) x4) 15 e1 (0 : Int32)) 16 e1 (0 : Int32)) (nI e1) e1 (xb_lit e1 rfl) (by omega) (3 : Int64) (mk_si (mk_si (mk_sl (mk_sl (mk_sl ok))) (by decide)) (by decide))) (cwV 2 hts (xa_V xw1112 xw1114 xs9 xw11 xw1115) rfl rfl rfl (by decide +kernel) ⟨Nat.le_of_ble_eq_true rfl, Nat.le_of_ble_eq_true rfl⟩) ⟨sm_blind, va_recv (q0 := 0) (ci := 9) hK hP rfl rfl, sm_pre hP hK hN _⟩ rfl rfl hl.1 rfl (lv_room (Nat.le_of_ble_eq_true rfl)) d_M_initTaken_221 ⟨Nat.le_of_ble_eq_true rfl, Nat.le_of_ble_eq_true rfl⟩) hS (fun _ h_ => h_) (fun H locs hP hS => ?_)
          obtain ⟨τ2, hτ2⟩ : ∃ t_, t_ = (q_fail e1 (3 : Int64) (xb_si (xb_si (xb_sl (xb_sl (xb_sl σ 12 ((6 * e1) + (3 * (1 - e1))) x2) 12 (((6 * e1) + (3 * (1 - e1))) + 1) x3) 12 (((6 * e1) + (3 * (1 - e1))) + 2) x4) 15 e1 (0 : Int32)) 16 e1 (0 : Int32))) := ⟨_, rfl⟩
          rw [← hτ2] at hP
          have okτ2 : sm_ok τ2 := by rw [hτ2]; exact (ok_q_fail e1 (3 : Int64) (by omega) (mk_si (mk_si (mk_sl (mk_sl (mk_sl ok))) (by decide)) (by decide)))
          exact W.vret hx hb hr (fun t ht_ hW => ⟨⟨τ2, rfl, (by subst hτ2; exact ((if_pos c1).trans ((if_pos c2).trans ((if_neg c3).trans ((if_pos c4))))).symm), by rw [sm_B, ht_]; exact hP⟩, hS.F ht_⟩) hS.2.2 d_M_initTaken_224
        · skip
          refine lv_iconst (v := 1) hx hb d_M_initTaken_111 (by decide) ?_
          refine lv_goto (tgt := 116) hx hb d_M_initTaken_112 (by decide) ?_
          refine lv_istore (lv' := [(9, .int (1 : Int32)), (8, .int (((6 : Int32) * (nI e1)) + ((3 : Int32) * ((1 : Int32) - (nI e1))))), (0, .ref (α 0)), (1, .int (nI e1)), (2, .long x2), (4, .long x3), (6, .long x4)]) hx hb d_M_initTaken_116 hl (by decide) rfl (fun ls hl => ?_)
          refine lv_aload_n hx hb d_M_initTaken_118 rfl (lv_at hl 2 rfl) ?_
          refine sm_g (v := .ref (α 15)) hx hb ht hown hK hP 17 (by decide) (ht _ xw969) (fun _ h_ => h_) rfl d_M_initTaken_119 ?_
          refine lv_iload_n hx hb d_M_initTaken_122 rfl (lv_at hl 3 rfl) ?_
          refine lv_iload hx hb d_M_initTaken_123 (lv_at hl 0 rfl) ?_
          refine lv_if_eq (tgt := 156) hx hb d_M_initTaken_125 (by decide) (fun h_ => absurd h_ (by decide)) (fun _ => ?_)
          refine lv_aload_n hx hb d_M_initTaken_128 rfl (lv_at hl 2 rfl) ?_
          refine sm_g (v := .ref (α 12)) hx hb ht hown hK hP 14 (by decide) (ht _ xw966) (fun _ h_ => h_) rfl d_M_initTaken_129 ?_
          refine lv_bipush (v := 6) hx hb d_M_initTaken_132 (by decide) ?_
          refine lv_iload_n hx hb d_M_initTaken_134 rfl (lv_at hl 3 rfl) ?_
          refine lv_imul hx hb d_M_initTaken_135 ?_
          refine lv_iconst (v := 1) hx hb d_M_initTaken_136 (by decide) ?_
          refine lv_iadd hx hb d_M_initTaken_137 ?_
          refine sm_gaJ (L := 12) (n := ((6 * e1) + 1)) (v := ((xb_sl (xb_sl (xb_sl σ 12 ((6 * e1) + (3 * (1 - e1))) x2) 12 (((6 * e1) + (3 * (1 - e1))) + 1) x3) 12 (((6 * e1) + (3 * (1 - e1))) + 2) x4).2 12 ((6 * e1) + 1))) hx hb hK hP 12 11 rfl rfl (xb_in (xb_na (xb_nm (xb_lit (x := (6 : Int32)) 6 rfl) (xb_lit e1 rfl)) (xb_lit (x := (1 : Int32)) 1 rfl)) (by omega) (by decide)) (xb_cl (xb_na (xb_nm (xb_lit (x := (6 : Int32)) 6 rfl) (xb_lit e1 rfl)) (xb_lit (x := (1 : Int32)) 1 rfl)) (by omega)) rfl d_M_initTaken_138 ?_
          refine lv_aload_n hx hb d_M_initTaken_139 rfl (lv_at hl 2 rfl) ?_
          refine sm_g (v := .ref (α 12)) hx hb ht hown hK hP 14 (by decide) (ht _ xw966) (fun _ h_ => h_) rfl d_M_initTaken_140 ?_
          refine lv_bipush (v := 6) hx hb d_M_initTaken_143 (by decide) ?_
          refine lv_iload_n hx hb d_M_initTaken_145 rfl (lv_at hl 3 rfl) ?_
          refine lv_imul hx hb d_M_initTaken_146 ?_
          refine lv_iconst (v := 4) hx hb d_M_initTaken_147 (by decide) ?_
          refine lv_iadd hx hb d_M_initTaken_148 ?_
          refine sm_gaJ (L := 12) (n := ((6 * e1) + 4)) (v := ((xb_sl (xb_sl (xb_sl σ 12 ((6 * e1) + (3 * (1 - e1))) x2) 12 (((6 * e1) + (3 * (1 - e1))) + 1) x3) 12 (((6 * e1) + (3 * (1 - e1))) + 2) x4).2 12 ((6 * e1) + 4))) hx hb hK hP 12 11 rfl rfl (xb_in (xb_na (xb_nm (xb_lit (x := (6 : Int32)) 6 rfl) (xb_lit e1 rfl)) (xb_lit (x := (4 : Int32)) 4 rfl)) (by omega) (by decide)) (xb_cl (xb_na (xb_nm (xb_lit (x := (6 : Int32)) 6 rfl) (xb_lit e1 rfl)) (xb_lit (x := (4 : Int32)) 4 rfl)) (by omega)) rfl d_M_initTaken_149 ?_
          refine vp_callSi (W.runS (As := [.long ((xb_sl (xb_sl (xb_sl σ 12 ((6 * e1) + (3 * (1 - e1))) x2) 12 (((6 * e1) + (3 * (1 - e1))) + 1) x3) 12 (((6 * e1) + (3 * (1 - e1))) + 2) x4).2 12 ((6 * e1) + 1)), .long ((xb_sl (xb_sl (xb_sl σ 12 ((6 * e1) + (3 * (1 - e1))) x2) 12 (((6 * e1) + (3 * (1 - e1))) + 1) x3) 12 (((6 * e1) + (3 * (1 - e1))) + 2) x4).2 12 ((6 * e1) + 4))]) (rest := [.int (nI e1), .ref (α 15)]) ⟨hx, hb, hml, hown, hts⟩ (c_M_common l ((xb_sl (xb_sl (xb_sl σ 12 ((6 * e1) + (3 * (1 - e1))) x2) 12 (((6 * e1) + (3 * (1 - e1))) + 1) x3) 12 (((6 * e1) + (3 * (1 - e1))) + 2) x4).2 12 ((6 * e1) + 1)) ((xb_sl (xb_sl (xb_sl σ 12 ((6 * e1) + (3 * (1 - e1))) x2) 12 (((6 * e1) + (3 * (1 - e1))) + 1) x3) 12 (((6 * e1) + (3 * (1 - e1))) + 2) x4).2 12 ((6 * e1) + 4))) (cwS 2 hts (xa_S xw1129 xw1130 xw11 xw1131) rfl rfl rfl (by decide +kernel) ⟨Nat.le_of_ble_eq_true rfl, Nat.le_of_ble_eq_true rfl⟩) preEq rfl rfl hl.1 rfl (lv_room (Nat.le_of_ble_eq_true rfl)) d_M_initTaken_150 ⟨Nat.le_of_ble_eq_true rfl, Nat.le_of_ble_eq_true rfl⟩) (fun r_ e_ => ?_)
          subst e_
          refine lv_goto (tgt := 157) hx hb d_M_initTaken_153 (by decide) ?_
          refine sm_paI (L := 2) (n := e1) (x := (g_common ((xb_sl (xb_sl (xb_sl σ 12 ((6 * e1) + (3 * (1 - e1))) x2) 12 (((6 * e1) + (3 * (1 - e1))) + 1) x3) 12 (((6 * e1) + (3 * (1 - e1))) + 2) x4).2 12 ((6 * e1) + 1)) ((xb_sl (xb_sl (xb_sl σ 12 ((6 * e1) + (3 * (1 - e1))) x2) 12 (((6 * e1) + (3 * (1 - e1))) + 1) x3) 12 (((6 * e1) + (3 * (1 - e1))) + 2) x4).2 12 ((6 * e1) + 4)))) hx hb hK hP 15 14 rfl rfl hD hS (xb_in (xb_lit e1 rfl) (by omega) (by decide)) (xb_cl (xb_lit e1 rfl) (by omega)) sm_s_15 d_M_initTaken_157 (fun H locs hP hS => ?_)
          refine lv_aload_n hx hb d_M_initTaken_158 rfl (lv_at hl 2 rfl) ?_
          refine sm_g (v := .ref (α 16)) hx hb ht hown hK hP 18 (by decide) (ht _ xw970) (fun _ h_ => h_) rfl d_M_initTaken_159 ?_
          refine lv_iload_n hx hb d_M_initTaken_162 rfl (lv_at hl 3 rfl) ?_
          refine lv_iload hx hb d_M_initTaken_163 (lv_at hl 0 rfl) ?_
          refine lv_if_eq (tgt := 196) hx hb d_M_initTaken_165 (by decide) (fun h_ => absurd h_ (by decide)) (fun _ => ?_)
          refine lv_aload_n hx hb d_M_initTaken_168 rfl (lv_at hl 2 rfl) ?_
          refine sm_g (v := .ref (α 12)) hx hb ht hown hK hP 14 (by decide) (ht _ xw966) (fun _ h_ => h_) rfl d_M_initTaken_169 ?_
          refine lv_bipush (v := 6) hx hb d_M_initTaken_172 (by decide) ?_
          refine lv_iload_n hx hb d_M_initTaken_174 rfl (lv_at hl 3 rfl) ?_
          refine lv_imul hx hb d_M_initTaken_175 ?_
          refine lv_iconst (v := 2) hx hb d_M_initTaken_176 (by decide) ?_
          refine lv_iadd hx hb d_M_initTaken_177 ?_
          refine sm_gaJ (L := 12) (n := ((6 * e1) + 2)) (v := ((xb_sl (xb_sl (xb_sl σ 12 ((6 * e1) + (3 * (1 - e1))) x2) 12 (((6 * e1) + (3 * (1 - e1))) + 1) x3) 12 (((6 * e1) + (3 * (1 - e1))) + 2) x4).2 12 ((6 * e1) + 2))) hx hb hK hP 12 11 rfl rfl (xb_in (xb_na (xb_nm (xb_lit (x := (6 : Int32)) 6 rfl) (xb_lit e1 rfl)) (xb_lit (x := (2 : Int32)) 2 rfl)) (by omega) (by decide)) (xb_cl (xb_na (xb_nm (xb_lit (x := (6 : Int32)) 6 rfl) (xb_lit e1 rfl)) (xb_lit (x := (2 : Int32)) 2 rfl)) (by omega)) xb_l_i d_M_initTaken_178 ?_
          refine lv_aload_n hx hb d_M_initTaken_179 rfl (lv_at hl 2 rfl) ?_
          refine sm_g (v := .ref (α 12)) hx hb ht hown hK hP 14 (by decide) (ht _ xw966) (fun _ h_ => h_) rfl d_M_initTaken_180 ?_
          refine lv_bipush (v := 6) hx hb d_M_initTaken_183 (by decide) ?_
          refine lv_iload_n hx hb d_M_initTaken_185 rfl (lv_at hl 3 rfl) ?_
          refine lv_imul hx hb d_M_initTaken_186 ?_
          refine lv_iconst (v := 5) hx hb d_M_initTaken_187 (by decide) ?_
          refine lv_iadd hx hb d_M_initTaken_188 ?_
          refine sm_gaJ (L := 12) (n := ((6 * e1) + 5)) (v := ((xb_sl (xb_sl (xb_sl σ 12 ((6 * e1) + (3 * (1 - e1))) x2) 12 (((6 * e1) + (3 * (1 - e1))) + 1) x3) 12 (((6 * e1) + (3 * (1 - e1))) + 2) x4).2 12 ((6 * e1) + 5))) hx hb hK hP 12 11 rfl rfl (xb_in (xb_na (xb_nm (xb_lit (x := (6 : Int32)) 6 rfl) (xb_lit e1 rfl)) (xb_lit (x := (5 : Int32)) 5 rfl)) (by omega) (by decide)) (xb_cl (xb_na (xb_nm (xb_lit (x := (6 : Int32)) 6 rfl) (xb_lit e1 rfl)) (xb_lit (x := (5 : Int32)) 5 rfl)) (by omega)) xb_l_i d_M_initTaken_189 ?_
          refine vp_callSi (W.runS (As := [.long ((xb_sl (xb_sl (xb_sl σ 12 ((6 * e1) + (3 * (1 - e1))) x2) 12 (((6 * e1) + (3 * (1 - e1))) + 1) x3) 12 (((6 * e1) + (3 * (1 - e1))) + 2) x4).2 12 ((6 * e1) + 2)), .long ((xb_sl (xb_sl (xb_sl σ 12 ((6 * e1) + (3 * (1 - e1))) x2) 12 (((6 * e1) + (3 * (1 - e1))) + 1) x3) 12 (((6 * e1) + (3 * (1 - e1))) + 2) x4).2 12 ((6 * e1) + 5))]) (rest := [.int (nI e1), .ref (α 16)]) ⟨hx, hb, hml, hown, hts⟩ (c_M_common l ((xb_sl (xb_sl (xb_sl σ 12 ((6 * e1) + (3 * (1 - e1))) x2) 12 (((6 * e1) + (3 * (1 - e1))) + 1) x3) 12 (((6 * e1) + (3 * (1 - e1))) + 2) x4).2 12 ((6 * e1) + 2)) ((xb_sl (xb_sl (xb_sl σ 12 ((6 * e1) + (3 * (1 - e1))) x2) 12 (((6 * e1) + (3 * (1 - e1))) + 1) x3) 12 (((6 * e1) + (3 * (1 - e1))) + 2) x4).2 12 ((6 * e1) + 5))) (cwS 2 hts (xa_S xw1129 xw1130 xw11 xw1131) rfl rfl rfl (by decide +kernel) ⟨Nat.le_of_ble_eq_true rfl, Nat.le_of_ble_eq_true rfl⟩) preEq rfl rfl hl.1 rfl (lv_room (Nat.le_of_ble_eq_true rfl)) d_M_initTaken_190 ⟨Nat.le_of_ble_eq_true rfl, Nat.le_of_ble_eq_true rfl⟩) (fun r_ e_ => ?_)
          subst e_
          refine lv_goto (tgt := 197) hx hb d_M_initTaken_193 (by decide) ?_
          refine sm_paI (L := 2) (n := e1) (x := (g_common ((xb_sl (xb_sl (xb_sl σ 12 ((6 * e1) + (3 * (1 - e1))) x2) 12 (((6 * e1) + (3 * (1 - e1))) + 1) x3) 12 (((6 * e1) + (3 * (1 - e1))) + 2) x4).2 12 ((6 * e1) + 2)) ((xb_sl (xb_sl (xb_sl σ 12 ((6 * e1) + (3 * (1 - e1))) x2) 12 (((6 * e1) + (3 * (1 - e1))) + 1) x3) 12 (((6 * e1) + (3 * (1 - e1))) + 2) x4).2 12 ((6 * e1) + 5)))) hx hb hK hP 16 15 rfl rfl hD hS (xb_in (xb_lit e1 rfl) (by omega) (by decide)) (xb_cl (xb_lit e1 rfl) (by omega)) sm_s_16 d_M_initTaken_197 (fun H locs hP hS => ?_)
          refine lv_aload_n hx hb d_M_initTaken_198 rfl (lv_at hl 2 rfl) ?_
          refine sm_g (v := .ref (α 15)) hx hb ht hown hK hP 17 (by decide) (ht _ xw969) (fun _ h_ => h_) rfl d_M_initTaken_199 ?_
          refine lv_iload_n hx hb d_M_initTaken_202 rfl (lv_at hl 3 rfl) ?_
          refine sm_gaI (L := 2) (n := e1) (v := (g_common ((xb_sl (xb_sl (xb_sl σ 12 ((6 * e1) + (3 * (1 - e1))) x2) 12 (((6 * e1) + (3 * (1 - e1))) + 1) x3) 12 (((6 * e1) + (3 * (1 - e1))) + 2) x4).2 12 ((6 * e1) + 1)) ((xb_sl (xb_sl (xb_sl σ 12 ((6 * e1) + (3 * (1 - e1))) x2) 12 (((6 * e1) + (3 * (1 - e1))) + 1) x3) 12 (((6 * e1) + (3 * (1 - e1))) + 2) x4).2 12 ((6 * e1) + 4)))) hx hb hK hP 15 14 rfl rfl (xb_in (xb_lit e1 rfl) (by omega) (by decide)) (xb_cl (xb_lit e1 rfl) (by omega)) (((xb_i_nk (by decide))).trans (xb_i_hit)) d_M_initTaken_203 ?_
          refine lv_if_eq (tgt := 216) hx hb d_M_initTaken_204 (by decide) (fun c5 => ?_) (fun c5 => ?_)
          · skip
            refine lv_aload_n hx hb d_M_initTaken_216 rfl (lv_at hl 2 rfl) ?_
            refine lv_iload_n hx hb d_M_initTaken_217 rfl (lv_at hl 3 rfl) ?_
            refine lv_ldc2 hx hb hown (ht _ xw1132) d_M_initTaken_218 ?_
            refine sm_cv (va_runV (As := [.int (nI e1), .long (3 : Int64)]) (rest := []) ⟨hx, hb, hml, hown, hts⟩ (c_M_fail l D α κ hα (xb_si (xb_si (xb_sl (xb_sl (xb_sl σ 12 ((6 * e1) + (3 * (1 - e1))) x2) 12 (((6 * e1) + (3 * (1 - e1))) + 1) x3) 12 (((6 * e1) + (3 * (1 - e1))) + 2) x4) 15 e1 (g_common ((xb_sl (xb_sl (xb_sl σ 12 ((6 * e1) + (3 * (1 - e1))) x2) 12 (((6 * e1) + (3 * (1 - e1))) + 1) x3) 12 (((6 * e1) + (3 * (1 - e1))) + 2) x4).2 12 ((6 * e1) + 1)) ((xb_sl (xb_sl (xb_sl σ 12 ((6 * e1) + (3 * (1 - e1))) x2) 12 (((6 * e1) + (3 * (1 - e1))) + 1) x3) 12 (((6 * e1) + (3 * (1 - e1))) + 2) x4).2 12 ((6 * e1) + 4)))) 16 e1 (g_common ((xb_sl (xb_sl (xb_sl σ 12 ((6 * e1) + (3 * (1 - e1))) x2) 12 (((6 * e1) + (3 * (1 - e1))) + 1) x3) 12 (((6 * e1) + (3 * (1 - e1))) + 2) x4).2 12 ((6 * e1) + 2)) ((xb_sl (xb_sl (xb_sl σ 12 ((6 * e1) + (3 * (1 - e1))) x2) 12 (((6 * e1) + (3 * (1 - e1))) + 1) x3) 12 (((6 * e1) + (3 * (1 - e1))) + 2) x4).2 12 ((6 * e1) + 5)))) (nI e1) e1 (xb_lit e1 rfl) (by omega) (3 : Int64) (mk_si (mk_si (mk_sl (mk_sl (mk_sl ok))) (by decide)) (by decide))) (cwV 2 hts (xa_V xw1112 xw1114 xs9 xw11 xw1115) rfl rfl rfl (by decide +kernel) ⟨Nat.le_of_ble_eq_true rfl, Nat.le_of_ble_eq_true rfl⟩) ⟨sm_blind, va_recv (q0 := 0) (ci := 9) hK hP rfl rfl, sm_pre hP hK hN _⟩ rfl rfl hl.1 rfl (lv_room (Nat.le_of_ble_eq_true rfl)) d_M_initTaken_221 ⟨Nat.le_of_ble_eq_true rfl, Nat.le_of_ble_eq_true rfl⟩) hS (fun _ h_ => h_) (fun H locs hP hS => ?_)
            obtain ⟨τ3, hτ3⟩ : ∃ t_, t_ = (q_fail e1 (3 : Int64) (xb_si (xb_si (xb_sl (xb_sl (xb_sl σ 12 ((6 * e1) + (3 * (1 - e1))) x2) 12 (((6 * e1) + (3 * (1 - e1))) + 1) x3) 12 (((6 * e1) + (3 * (1 - e1))) + 2) x4) 15 e1 (g_common ((xb_sl (xb_sl (xb_sl σ 12 ((6 * e1) + (3 * (1 - e1))) x2) 12 (((6 * e1) + (3 * (1 - e1))) + 1) x3) 12 (((6 * e1) + (3 * (1 - e1))) + 2) x4).2 12 ((6 * e1) + 1)) ((xb_sl (xb_sl (xb_sl σ 12 ((6 * e1) + (3 * (1 - e1))) x2) 12 (((6 * e1) + (3 * (1 - e1))) + 1) x3) 12 (((6 * e1) + (3 * (1 - e1))) + 2) x4).2 12 ((6 * e1) + 4)))) 16 e1 (g_common ((xb_sl (xb_sl (xb_sl σ 12 ((6 * e1) + (3 * (1 - e1))) x2) 12 (((6 * e1) + (3 * (1 - e1))) + 1) x3) 12 (((6 * e1) + (3 * (1 - e1))) + 2) x4).2 12 ((6 * e1) + 2)) ((xb_sl (xb_sl (xb_sl σ 12 ((6 * e1) + (3 * (1 - e1))) x2) 12 (((6 * e1) + (3 * (1 - e1))) + 1) x3) 12 (((6 * e1) + (3 * (1 - e1))) + 2) x4).2 12 ((6 * e1) + 5))))) := ⟨_, rfl⟩
            rw [← hτ3] at hP
            have okτ3 : sm_ok τ3 := by rw [hτ3]; exact (ok_q_fail e1 (3 : Int64) (by omega) (mk_si (mk_si (mk_sl (mk_sl (mk_sl ok))) (by decide)) (by decide)))
            exact W.vret hx hb hr (fun t ht_ hW => ⟨⟨τ3, rfl, (by subst hτ3; exact ((if_pos c1).trans ((if_pos c2).trans ((if_neg c3).trans ((if_neg c4).trans ((if_pos c5)))))).symm), by rw [sm_B, ht_]; exact hP⟩, hS.F ht_⟩) hS.2.2 d_M_initTaken_224
          · skip
            refine lv_aload_n hx hb d_M_initTaken_207 rfl (lv_at hl 2 rfl) ?_
            refine sm_g (v := .ref (α 16)) hx hb ht hown hK hP 18 (by decide) (ht _ xw970) (fun _ h_ => h_) rfl d_M_initTaken_208 ?_
            refine lv_iload_n hx hb d_M_initTaken_211 rfl (lv_at hl 3 rfl) ?_
            refine sm_gaI (L := 2) (n := e1) (v := (g_common ((xb_sl (xb_sl (xb_sl σ 12 ((6 * e1) + (3 * (1 - e1))) x2) 12 (((6 * e1) + (3 * (1 - e1))) + 1) x3) 12 (((6 * e1) + (3 * (1 - e1))) + 2) x4).2 12 ((6 * e1) + 2)) ((xb_sl (xb_sl (xb_sl σ 12 ((6 * e1) + (3 * (1 - e1))) x2) 12 (((6 * e1) + (3 * (1 - e1))) + 1) x3) 12 (((6 * e1) + (3 * (1 - e1))) + 2) x4).2 12 ((6 * e1) + 5)))) hx hb hK hP 16 15 rfl rfl (xb_in (xb_lit e1 rfl) (by omega) (by decide)) (xb_cl (xb_lit e1 rfl) (by omega)) xb_i_hit d_M_initTaken_212 ?_
            refine lv_if_ne (tgt := 225) hx hb d_M_initTaken_213 (by decide) (fun c6 => ?_) (fun c6 => ?_)
            · skip
              refine lv_aload_n hx hb d_M_initTaken_225 rfl (lv_at hl 2 rfl) ?_
              refine sm_g (v := .ref (α 4)) hx hb ht hown hK hP 6 (by decide) (ht _ xw958) (fun _ h_ => h_) rfl d_M_initTaken_226 ?_
              refine lv_iload_n hx hb d_M_initTaken_229 rfl (lv_at hl 3 rfl) ?_
              refine lv_iconst (v := 2) hx hb d_M_initTaken_230 (by decide) ?_
              refine sm_paI (L := 2) (n := e1) (x := (2 : Int32)) hx hb hK hP 4 3 rfl rfl hD hS (xb_in (xb_lit e1 rfl) (by omega) (by decide)) (xb_cl (xb_lit e1 rfl) (by omega)) sm_s_4 d_M_initTaken_231 (fun H locs hP hS => ?_)
              refine lv_iload_n hx hb d_M_initTaken_232 rfl (lv_at hl 3 rfl) ?_
              refine lv_if_ne (tgt := 270) hx hb d_M_initTaken_233 (by decide) (fun c7 => ?_) (fun c7 => ?_)
              · skip
                have nc7 := mt (xb_eqN (xb_lit e1 rfl) (xb_lit (x := (0 : Int32)) 0 rfl) (by omega) (by omega)).mpr c7
                exact W.vret hx hb hr (fun t ht_ hW => ⟨⟨(xb_si (xb_si (xb_si (xb_sl (xb_sl (xb_sl σ 12 ((6 * e1) + (3 * (1 - e1))) x2) 12 (((6 * e1) + (3 * (1 - e1))) + 1) x3) 12 (((6 * e1) + (3 * (1 - e1))) + 2) x4) 15 e1 (g_common ((xb_sl (xb_sl (xb_sl σ 12 ((6 * e1) + (3 * (1 - e1))) x2) 12 (((6 * e1) + (3 * (1 - e1))) + 1) x3) 12 (((6 * e1) + (3 * (1 - e1))) + 2) x4).2 12 ((6 * e1) + 1)) ((xb_sl (xb_sl (xb_sl σ 12 ((6 * e1) + (3 * (1 - e1))) x2) 12 (((6 * e1) + (3 * (1 - e1))) + 1) x3) 12 (((6 * e1) + (3 * (1 - e1))) + 2) x4).2 12 ((6 * e1) + 4)))) 16 e1 (g_common ((xb_sl (xb_sl (xb_sl σ 12 ((6 * e1) + (3 * (1 - e1))) x2) 12 (((6 * e1) + (3 * (1 - e1))) + 1) x3) 12 (((6 * e1) + (3 * (1 - e1))) + 2) x4).2 12 ((6 * e1) + 2)) ((xb_sl (xb_sl (xb_sl σ 12 ((6 * e1) + (3 * (1 - e1))) x2) 12 (((6 * e1) + (3 * (1 - e1))) + 1) x3) 12 (((6 * e1) + (3 * (1 - e1))) + 2) x4).2 12 ((6 * e1) + 5)))) 4 e1 (2 : Int32)), rfl, ((if_pos c1).trans ((if_pos c2).trans ((if_neg c3).trans ((if_neg c4).trans ((if_neg c5).trans ((if_neg c6).trans ((if_neg c7)))))))).symm, by rw [sm_B, ht_]; exact hP⟩, hS.F ht_⟩) hS.2.2 d_M_initTaken_270
              · skip
                have nc7 := (xb_eqN (xb_lit e1 rfl) (xb_lit (x := (0 : Int32)) 0 rfl) (by omega) (by omega)).mp c7
                refine lv_aload_n hx hb d_M_initTaken_236 rfl (lv_at hl 2 rfl) ?_
                refine sm_g (v := .ref (α 14)) hx hb ht hown hK hP 16 (by decide) (ht _ xw968) (fun _ h_ => h_) rfl d_M_initTaken_237 ?_
                refine lv_iconst (v := 0) hx hb d_M_initTaken_240 (by decide) ?_
                refine lv_ldc2 hx hb hown (ht _ xw1133) d_M_initTaken_241 ?_
                refine lv_aload_n hx hb d_M_initTaken_244 rfl (lv_at hl 2 rfl) ?_
                refine sm_g (v := .ref (α 13)) hx hb ht hown hK hP 15 (by decide) (ht _ xw967) (fun _ h_ => h_) rfl d_M_initTaken_245 ?_
                refine lv_iconst (v := 0) hx hb d_M_initTaken_248 (by decide) ?_
                refine sm_gaJ (L := 2) (n := 0) (v := (σ.2 13 0)) hx hb hK hP 13 12 rfl rfl (xb_in (xb_lit (x := (0 : Int32)) 0 rfl) (by omega) (by decide)) (xb_cl (xb_lit (x := (0 : Int32)) 0 rfl) (by omega)) ((xb_l_i).trans ((xb_l_i).trans ((xb_l_i).trans (((xb_l_nk (by decide))).trans (((xb_l_nk (by decide))).trans ((xb_l_nk (by decide)))))))) d_M_initTaken_249 ?_
                refine vp_callSl (W.runS (As := [.long (7 : Int64), .long (σ.2 13 0)]) (rest := [.int (0 : Int32), .ref (α 14)]) ⟨hx, hb, hml, hown, hts⟩ (c_M_power l (7 : Int64) (σ.2 13 0)) (cwS 2 hts (xa_S xw1134 xw1135 xw11 xw1136) rfl rfl rfl (by decide +kernel) ⟨Nat.le_of_ble_eq_true rfl, Nat.le_of_ble_eq_true rfl⟩) preEq rfl rfl hl.1 rfl (lv_room (Nat.le_of_ble_eq_true rfl)) d_M_initTaken_250 ⟨Nat.le_of_ble_eq_true rfl, Nat.le_of_ble_eq_true rfl⟩) (fun r_ e_ => ?_)
                subst e_
                refine sm_paJ (L := 2) (n := 0) (x := (g_power (7 : Int64) (σ.2 13 0))) hx hb hK hP 14 13 rfl rfl hD hS (xb_in (xb_lit (x := (0 : Int32)) 0 rfl) (by omega) (by decide)) (xb_cl (xb_lit (x := (0 : Int32)) 0 rfl) (by omega)) sm_s_14 d_M_initTaken_253 (fun H locs hP hS => ?_)
                refine lv_aload_n hx hb d_M_initTaken_254 rfl (lv_at hl 2 rfl) ?_
                refine lv_iconst (v := 0) hx hb d_M_initTaken_255 (by decide) ?_
                refine lv_bipush (v := 30) hx hb d_M_initTaken_256 (by decide) ?_
                refine lv_aload_n hx hb d_M_initTaken_258 rfl (lv_at hl 2 rfl) ?_
                refine sm_g (v := .ref (α 14)) hx hb ht hown hK hP 16 (by decide) (ht _ xw968) (fun _ h_ => h_) rfl d_M_initTaken_259 ?_
                refine lv_iconst (v := 0) hx hb d_M_initTaken_262 (by decide) ?_
                refine sm_gaJ (L := 2) (n := 0) (v := (g_power (7 : Int64) (σ.2 13 0))) hx hb hK hP 14 13 rfl rfl (xb_in (xb_lit (x := (0 : Int32)) 0 rfl) (by omega) (by decide)) (xb_cl (xb_lit (x := (0 : Int32)) 0 rfl) (by omega)) xb_l_hit d_M_initTaken_263 ?_
                refine lv_lconst (v := 0) hx hb d_M_initTaken_264 (by decide) ?_
                refine lv_lconst (v := 0) hx hb d_M_initTaken_265 (by decide) ?_
                refine lv_lconst (v := 0) hx hb d_M_initTaken_266 (by decide) ?_
                refine sm_cv (va_runV (As := [.int (0 : Int32), .int (30 : Int32), .long (g_power (7 : Int64) (σ.2 13 0)), .long (0 : Int64), .long (0 : Int64), .long (0 : Int64)]) (rest := []) ⟨hx, hb, hml, hown, hts⟩ (c_M_send l D α κ hα (xb_sl (xb_si (xb_si (xb_si (xb_sl (xb_sl (xb_sl σ 12 ((6 * e1) + (3 * (1 - e1))) x2) 12 (((6 * e1) + (3 * (1 - e1))) + 1) x3) 12 (((6 * e1) + (3 * (1 - e1))) + 2) x4) 15 e1 (g_common ((xb_sl (xb_sl (xb_sl σ 12 ((6 * e1) + (3 * (1 - e1))) x2) 12 (((6 * e1) + (3 * (1 - e1))) + 1) x3) 12 (((6 * e1) + (3 * (1 - e1))) + 2) x4).2 12 ((6 * e1) + 1)) ((xb_sl (xb_sl (xb_sl σ 12 ((6 * e1) + (3 * (1 - e1))) x2) 12 (((6 * e1) + (3 * (1 - e1))) + 1) x3) 12 (((6 * e1) + (3 * (1 - e1))) + 2) x4).2 12 ((6 * e1) + 4)))) 16 e1 (g_common ((xb_sl (xb_sl (xb_sl σ 12 ((6 * e1) + (3 * (1 - e1))) x2) 12 (((6 * e1) + (3 * (1 - e1))) + 1) x3) 12 (((6 * e1) + (3 * (1 - e1))) + 2) x4).2 12 ((6 * e1) + 2)) ((xb_sl (xb_sl (xb_sl σ 12 ((6 * e1) + (3 * (1 - e1))) x2) 12 (((6 * e1) + (3 * (1 - e1))) + 1) x3) 12 (((6 * e1) + (3 * (1 - e1))) + 2) x4).2 12 ((6 * e1) + 5)))) 4 e1 (2 : Int32)) 14 0 (g_power (7 : Int64) (σ.2 13 0))) (0 : Int32) 0 (xb_lit (x := (0 : Int32)) 0 rfl) (by omega) (30 : Int32) (g_power (7 : Int64) (σ.2 13 0)) (0 : Int64) (0 : Int64) (0 : Int64) (mk_sl (mk_si (mk_si (mk_si (mk_sl (mk_sl (mk_sl ok))) (by decide)) (by decide)) (by decide)))) (cwV 6 hts (xa_V xw1084 xw1086 xs6 xw11 xw1087) rfl rfl rfl (by decide +kernel) ⟨Nat.le_of_ble_eq_true rfl, Nat.le_of_ble_eq_true rfl⟩) ⟨sm_blind, va_recv (q0 := 0) (ci := 9) hK hP rfl rfl, sm_pre hP hK hN _⟩ rfl rfl hl.1 rfl (lv_room (Nat.le_of_ble_eq_true rfl)) d_M_initTaken_267 ⟨Nat.le_of_ble_eq_true rfl, Nat.le_of_ble_eq_true rfl⟩) hS (fun _ h_ => h_) (fun H locs hP hS => ?_)
                obtain ⟨τ4, hτ4⟩ : ∃ t_, t_ = (q_send 0 (30 : Int32) (g_power (7 : Int64) (σ.2 13 0)) (0 : Int64) (0 : Int64) (0 : Int64) (xb_sl (xb_si (xb_si (xb_si (xb_sl (xb_sl (xb_sl σ 12 ((6 * e1) + (3 * (1 - e1))) x2) 12 (((6 * e1) + (3 * (1 - e1))) + 1) x3) 12 (((6 * e1) + (3 * (1 - e1))) + 2) x4) 15 e1 (g_common ((xb_sl (xb_sl (xb_sl σ 12 ((6 * e1) + (3 * (1 - e1))) x2) 12 (((6 * e1) + (3 * (1 - e1))) + 1) x3) 12 (((6 * e1) + (3 * (1 - e1))) + 2) x4).2 12 ((6 * e1) + 1)) ((xb_sl (xb_sl (xb_sl σ 12 ((6 * e1) + (3 * (1 - e1))) x2) 12 (((6 * e1) + (3 * (1 - e1))) + 1) x3) 12 (((6 * e1) + (3 * (1 - e1))) + 2) x4).2 12 ((6 * e1) + 4)))) 16 e1 (g_common ((xb_sl (xb_sl (xb_sl σ 12 ((6 * e1) + (3 * (1 - e1))) x2) 12 (((6 * e1) + (3 * (1 - e1))) + 1) x3) 12 (((6 * e1) + (3 * (1 - e1))) + 2) x4).2 12 ((6 * e1) + 2)) ((xb_sl (xb_sl (xb_sl σ 12 ((6 * e1) + (3 * (1 - e1))) x2) 12 (((6 * e1) + (3 * (1 - e1))) + 1) x3) 12 (((6 * e1) + (3 * (1 - e1))) + 2) x4).2 12 ((6 * e1) + 5)))) 4 e1 (2 : Int32)) 14 0 (g_power (7 : Int64) (σ.2 13 0)))) := ⟨_, rfl⟩
                rw [← hτ4] at hP
                have okτ4 : sm_ok τ4 := by rw [hτ4]; exact (ok_q_send 0 (30 : Int32) (g_power (7 : Int64) (σ.2 13 0)) (0 : Int64) (0 : Int64) (0 : Int64) (by omega) (mk_sl (mk_si (mk_si (mk_si (mk_sl (mk_sl (mk_sl ok))) (by decide)) (by decide)) (by decide))))
                exact W.vret hx hb hr (fun t ht_ hW => ⟨⟨τ4, rfl, (by subst hτ4; exact ((if_pos c1).trans ((if_pos c2).trans ((if_neg c3).trans ((if_neg c4).trans ((if_neg c5).trans ((if_neg c6).trans ((if_pos c7)))))))).symm), by rw [sm_B, ht_]; exact hP⟩, hS.F ht_⟩) hS.2.2 d_M_initTaken_270
            · skip
              refine lv_aload_n hx hb d_M_initTaken_216 rfl (lv_at hl 2 rfl) ?_
              refine lv_iload_n hx hb d_M_initTaken_217 rfl (lv_at hl 3 rfl) ?_
              refine lv_ldc2 hx hb hown (ht _ xw1132) d_M_initTaken_218 ?_
              refine sm_cv (va_runV (As := [.int (nI e1), .long (3 : Int64)]) (rest := []) ⟨hx, hb, hml, hown, hts⟩ (c_M_fail l D α κ hα (xb_si (xb_si (xb_sl (xb_sl (xb_sl σ 12 ((6 * e1) + (3 * (1 - e1))) x2) 12 (((6 * e1) + (3 * (1 - e1))) + 1) x3) 12 (((6 * e1) + (3 * (1 - e1))) + 2) x4) 15 e1 (g_common ((xb_sl (xb_sl (xb_sl σ 12 ((6 * e1) + (3 * (1 - e1))) x2) 12 (((6 * e1) + (3 * (1 - e1))) + 1) x3) 12 (((6 * e1) + (3 * (1 - e1))) + 2) x4).2 12 ((6 * e1) + 1)) ((xb_sl (xb_sl (xb_sl σ 12 ((6 * e1) + (3 * (1 - e1))) x2) 12 (((6 * e1) + (3 * (1 - e1))) + 1) x3) 12 (((6 * e1) + (3 * (1 - e1))) + 2) x4).2 12 ((6 * e1) + 4)))) 16 e1 (g_common ((xb_sl (xb_sl (xb_sl σ 12 ((6 * e1) + (3 * (1 - e1))) x2) 12 (((6 * e1) + (3 * (1 - e1))) + 1) x3) 12 (((6 * e1) + (3 * (1 - e1))) + 2) x4).2 12 ((6 * e1) + 2)) ((xb_sl (xb_sl (xb_sl σ 12 ((6 * e1) + (3 * (1 - e1))) x2) 12 (((6 * e1) + (3 * (1 - e1))) + 1) x3) 12 (((6 * e1) + (3 * (1 - e1))) + 2) x4).2 12 ((6 * e1) + 5)))) (nI e1) e1 (xb_lit e1 rfl) (by omega) (3 : Int64) (mk_si (mk_si (mk_sl (mk_sl (mk_sl ok))) (by decide)) (by decide))) (cwV 2 hts (xa_V xw1112 xw1114 xs9 xw11 xw1115) rfl rfl rfl (by decide +kernel) ⟨Nat.le_of_ble_eq_true rfl, Nat.le_of_ble_eq_true rfl⟩) ⟨sm_blind, va_recv (q0 := 0) (ci := 9) hK hP rfl rfl, sm_pre hP hK hN _⟩ rfl rfl hl.1 rfl (lv_room (Nat.le_of_ble_eq_true rfl)) d_M_initTaken_221 ⟨Nat.le_of_ble_eq_true rfl, Nat.le_of_ble_eq_true rfl⟩) hS (fun _ h_ => h_) (fun H locs hP hS => ?_)
              obtain ⟨τ5, hτ5⟩ : ∃ t_, t_ = (q_fail e1 (3 : Int64) (xb_si (xb_si (xb_sl (xb_sl (xb_sl σ 12 ((6 * e1) + (3 * (1 - e1))) x2) 12 (((6 * e1) + (3 * (1 - e1))) + 1) x3) 12 (((6 * e1) + (3 * (1 - e1))) + 2) x4) 15 e1 (g_common ((xb_sl (xb_sl (xb_sl σ 12 ((6 * e1) + (3 * (1 - e1))) x2) 12 (((6 * e1) + (3 * (1 - e1))) + 1) x3) 12 (((6 * e1) + (3 * (1 - e1))) + 2) x4).2 12 ((6 * e1) + 1)) ((xb_sl (xb_sl (xb_sl σ 12 ((6 * e1) + (3 * (1 - e1))) x2) 12 (((6 * e1) + (3 * (1 - e1))) + 1) x3) 12 (((6 * e1) + (3 * (1 - e1))) + 2) x4).2 12 ((6 * e1) + 4)))) 16 e1 (g_common ((xb_sl (xb_sl (xb_sl σ 12 ((6 * e1) + (3 * (1 - e1))) x2) 12 (((6 * e1) + (3 * (1 - e1))) + 1) x3) 12 (((6 * e1) + (3 * (1 - e1))) + 2) x4).2 12 ((6 * e1) + 2)) ((xb_sl (xb_sl (xb_sl σ 12 ((6 * e1) + (3 * (1 - e1))) x2) 12 (((6 * e1) + (3 * (1 - e1))) + 1) x3) 12 (((6 * e1) + (3 * (1 - e1))) + 2) x4).2 12 ((6 * e1) + 5))))) := ⟨_, rfl⟩
              rw [← hτ5] at hP
              have okτ5 : sm_ok τ5 := by rw [hτ5]; exact (ok_q_fail e1 (3 : Int64) (by omega) (mk_si (mk_si (mk_sl (mk_sl (mk_sl ok))) (by decide)) (by decide)))
              exact W.vret hx hb hr (fun t ht_ hW => ⟨⟨τ5, rfl, (by subst hτ5; exact ((if_pos c1).trans ((if_pos c2).trans ((if_neg c3).trans ((if_neg c4).trans ((if_neg c5).trans ((if_pos c6))))))).symm), by rw [sm_B, ht_]; exact hP⟩, hS.F ht_⟩) hS.2.2 d_M_initTaken_224
    · skip
      refine lv_aload_n hx hb d_M_initTaken_48 rfl (lv_at hl 0 rfl) ?_
      refine lv_iload_n hx hb d_M_initTaken_49 rfl (lv_at hl 1 rfl) ?_
      refine sm_cv (va_runV (As := [.int (nI e1)]) (rest := []) ⟨hx, hb, hml, hown, hts⟩ (c_M_start l D α κ hα σ (nI e1) e1 (xb_lit e1 rfl) (by omega) ok) (cwV 1 hts (xa_V xw1080 xw1082 xs5 xw11 xw1083) rfl rfl rfl (by decide +kernel) ⟨Nat.le_of_ble_eq_true rfl, Nat.le_of_ble_eq_true rfl⟩) ⟨sm_blind, va_recv (q0 := 0) (ci := 9) hK hP rfl rfl, sm_pre hP hK hN _⟩ rfl rfl hl.1 rfl (lv_room (Nat.le_of_ble_eq_true rfl)) d_M_initTaken_50 ⟨Nat.le_of_ble_eq_true rfl, Nat.le_of_ble_eq_true rfl⟩) hS (fun _ h_ => h_) (fun H locs hP hS => ?_)
      obtain ⟨τ6, hτ6⟩ : ∃ t_, t_ = (q_start e1 σ) := ⟨_, rfl⟩
      rw [← hτ6] at hP
      have okτ6 : sm_ok τ6 := by rw [hτ6]; exact (ok_q_start e1 (by omega) ok)
      refine lv_bipush (v := 6) hx hb d_M_initTaken_53 (by decide) ?_
      refine lv_iload_n hx hb d_M_initTaken_55 rfl (lv_at hl 1 rfl) ?_
      refine lv_imul hx hb d_M_initTaken_56 ?_
      refine lv_iconst (v := 3) hx hb d_M_initTaken_57 (by decide) ?_
      refine lv_iconst (v := 1) hx hb d_M_initTaken_58 (by decide) ?_
      refine lv_iload_n hx hb d_M_initTaken_59 rfl (lv_at hl 1 rfl) ?_
      refine lv_isub hx hb d_M_initTaken_60 ?_
      refine lv_imul hx hb d_M_initTaken_61 ?_
      refine lv_iadd hx hb d_M_initTaken_62 ?_
      refine lv_istore (lv' := [(8, .int (((6 : Int32) * (nI e1)) + ((3 : Int32) * ((1 : Int32) - (nI e1))))), (0, .ref (α 0)), (1, .int (nI e1)), (2, .long x2), (4, .long x3), (6, .long x4)]) hx hb d_M_initTaken_63 hl (by decide) rfl (fun ls hl => ?_)
      refine lv_aload_n hx hb d_M_initTaken_65 rfl (lv_at hl 1 rfl) ?_
      refine sm_g (v := .ref (α 12)) hx hb ht hown hK hP 14 (by decide) (ht _ xw966) (fun _ h_ => h_) rfl d_M_initTaken_66 ?_
      refine lv_iload hx hb d_M_initTaken_69 (lv_at hl 0 rfl) ?_
      refine lv_lload_n hx hb d_M_initTaken_71 rfl (lv_at hl 3 rfl) ?_
      refine sm_paJ (L := 12) (n := ((6 * e1) + (3 * (1 - e1)))) (x := x2) hx hb hK hP 12 11 rfl rfl hD hS (xb_in (xb_na (xb_nm (xb_lit (x := (6 : Int32)) 6 rfl) (xb_lit e1 rfl)) (xb_nm (xb_lit (x := (3 : Int32)) 3 rfl) (xb_ns (xb_lit (x := (1 : Int32)) 1 rfl) (xb_lit e1 rfl) (by omega)))) (by omega) (by decide)) (xb_cl (xb_na (xb_nm (xb_lit (x := (6 : Int32)) 6 rfl) (xb_lit e1 rfl)) (xb_nm (xb_lit (x := (3 : Int32)) 3 rfl) (xb_ns (xb_lit (x := (1 : Int32)) 1 rfl) (xb_lit e1 rfl) (by omega)))) (by omega)) sm_s_12 d_M_initTaken_72 (fun H locs hP hS => ?_)
      refine lv_aload_n hx hb d_M_initTaken_73 rfl (lv_at hl 1 rfl) ?_
      refine sm_g (v := .ref (α 12)) hx hb ht hown hK hP 14 (by decide) (ht _ xw966) (fun _ h_ => h_) rfl d_M_initTaken_74 ?_
      refine lv_iload hx hb d_M_initTaken_77 (lv_at hl 0 rfl) ?_
      refine lv_iconst (v := 1) hx hb d_M_initTaken_79 (by decide) ?_
      refine lv_iadd hx hb d_M_initTaken_80 ?_
      refine lv_lload hx hb d_M_initTaken_81 (lv_at hl 4 rfl) ?_
      refine sm_paJ (L := 12) (n := (((6 * e1) + (3 * (1 - e1))) + 1)) (x := x3) hx hb hK hP 12 11 rfl rfl hD hS (xb_in (xb_na (xb_na (xb_nm (xb_lit (x := (6 : Int32)) 6 rfl) (xb_lit e1 rfl)) (xb_nm (xb_lit (x := (3 : Int32)) 3 rfl) (xb_ns (xb_lit (x := (1 : Int32)) 1 rfl) (xb_lit e1 rfl) (by omega)))) (xb_lit (x := (1 : Int32)) 1 rfl)) (by omega) (by decide)) (xb_cl (xb_na (xb_na (xb_nm (xb_lit (x := (6 : Int32)) 6 rfl) (xb_lit e1 rfl)) (xb_nm (xb_lit (x := (3 : Int32)) 3 rfl) (xb_ns (xb_lit (x := (1 : Int32)) 1 rfl) (xb_lit e1 rfl) (by omega)))) (xb_lit (x := (1 : Int32)) 1 rfl)) (by omega)) sm_s_12 d_M_initTaken_83 (fun H locs hP hS => ?_)
      refine lv_aload_n hx hb d_M_initTaken_84 rfl (lv_at hl 1 rfl) ?_
      refine sm_g (v := .ref (α 12)) hx hb ht hown hK hP 14 (by decide) (ht _ xw966) (fun _ h_ => h_) rfl d_M_initTaken_85 ?_
      refine lv_iload hx hb d_M_initTaken_88 (lv_at hl 0 rfl) ?_
      refine lv_iconst (v := 2) hx hb d_M_initTaken_90 (by decide) ?_
      refine lv_iadd hx hb d_M_initTaken_91 ?_
      refine lv_lload hx hb d_M_initTaken_92 (lv_at hl 5 rfl) ?_
      refine sm_paJ (L := 12) (n := (((6 * e1) + (3 * (1 - e1))) + 2)) (x := x4) hx hb hK hP 12 11 rfl rfl hD hS (xb_in (xb_na (xb_na (xb_nm (xb_lit (x := (6 : Int32)) 6 rfl) (xb_lit e1 rfl)) (xb_nm (xb_lit (x := (3 : Int32)) 3 rfl) (xb_ns (xb_lit (x := (1 : Int32)) 1 rfl) (xb_lit e1 rfl) (by omega)))) (xb_lit (x := (2 : Int32)) 2 rfl)) (by omega) (by decide)) (xb_cl (xb_na (xb_na (xb_nm (xb_lit (x := (6 : Int32)) 6 rfl) (xb_lit e1 rfl)) (xb_nm (xb_lit (x := (3 : Int32)) 3 rfl) (xb_ns (xb_lit (x := (1 : Int32)) 1 rfl) (xb_lit e1 rfl) (by omega)))) (xb_lit (x := (2 : Int32)) 2 rfl)) (by omega)) sm_s_12 d_M_initTaken_94 (fun H locs hP hS => ?_)
      refine lv_lload hx hb d_M_initTaken_95 (lv_at hl 4 rfl) ?_
      refine vp_callSi (W.runS (As := [.long x3]) (rest := []) ⟨hx, hb, hml, hown, hts⟩ (c_M_isList l x3) (cwS 1 hts (xa_S xw1125 xw1126 xw11 xw1127) rfl rfl rfl (by decide +kernel) ⟨Nat.le_of_ble_eq_true rfl, Nat.le_of_ble_eq_true rfl⟩) preEq rfl rfl hl.1 rfl (lv_room (Nat.le_of_ble_eq_true rfl)) d_M_initTaken_97 ⟨Nat.le_of_ble_eq_true rfl, Nat.le_of_ble_eq_true rfl⟩) (fun r_ e_ => ?_)
      subst e_
      refine lv_if_eq (tgt := 115) hx hb d_M_initTaken_100 (by decide) (fun c8 => ?_) (fun c8 => ?_)
      · skip
        refine lv_iconst (v := 0) hx hb d_M_initTaken_115 (by decide) ?_
        refine lv_istore (lv' := [(9, .int (0 : Int32)), (8, .int (((6 : Int32) * (nI e1)) + ((3 : Int32) * ((1 : Int32) - (nI e1))))), (0, .ref (α 0)), (1, .int (nI e1)), (2, .long x2), (4, .long x3), (6, .long x4)]) hx hb d_M_initTaken_116 hl (by decide) rfl (fun ls hl => ?_)
        refine lv_aload_n hx hb d_M_initTaken_118 rfl (lv_at hl 2 rfl) ?_
        refine sm_g (v := .ref (α 15)) hx hb ht hown hK hP 17 (by decide) (ht _ xw969) (fun _ h_ => h_) rfl d_M_initTaken_119 ?_
        refine lv_iload_n hx hb d_M_initTaken_122 rfl (lv_at hl 3 rfl) ?_
        refine lv_iload hx hb d_M_initTaken_123 (lv_at hl 0 rfl) ?_
        refine lv_if_eq (tgt := 156) hx hb d_M_initTaken_125 (by decide) (fun _ => ?_) (fun h_ => absurd h_ (by decide))
        refine lv_iconst (v := 0) hx hb d_M_initTaken_156 (by decide) ?_
        refine sm_paI (L := 2) (n := e1) (x := (0 : Int32)) hx hb hK hP 15 14 rfl rfl hD hS (xb_in (xb_lit e1 rfl) (by omega) (by decide)) (xb_cl (xb_lit e1 rfl) (by omega)) sm_s_15 d_M_initTaken_157 (fun H locs hP hS => ?_)
        refine lv_aload_n hx hb d_M_initTaken_158 rfl (lv_at hl 2 rfl) ?_
        refine sm_g (v := .ref (α 16)) hx hb ht hown hK hP 18 (by decide) (ht _ xw970) (fun _ h_ => h_) rfl d_M_initTaken_159 ?_
        refine lv_iload_n hx hb d_M_initTaken_162 rfl (lv_at hl 3 rfl) ?_
        refine lv_iload hx hb d_M_initTaken_163 (lv_at hl 0 rfl) ?_
        refine lv_if_eq (tgt := 196) hx hb d_M_initTaken_165 (by decide) (fun _ => ?_) (fun h_ => absurd h_ (by decide))
        refine lv_iconst (v := 0) hx hb d_M_initTaken_196 (by decide) ?_
        refine sm_paI (L := 2) (n := e1) (x := (0 : Int32)) hx hb hK hP 16 15 rfl rfl hD hS (xb_in (xb_lit e1 rfl) (by omega) (by decide)) (xb_cl (xb_lit e1 rfl) (by omega)) sm_s_16 d_M_initTaken_197 (fun H locs hP hS => ?_)
        refine lv_aload_n hx hb d_M_initTaken_198 rfl (lv_at hl 2 rfl) ?_
        refine sm_g (v := .ref (α 15)) hx hb ht hown hK hP 17 (by decide) (ht _ xw969) (fun _ h_ => h_) rfl d_M_initTaken_199 ?_
        refine lv_iload_n hx hb d_M_initTaken_202 rfl (lv_at hl 3 rfl) ?_
        refine sm_gaI (L := 2) (n := e1) (v := (0 : Int32)) hx hb hK hP 15 14 rfl rfl (xb_in (xb_lit e1 rfl) (by omega) (by decide)) (xb_cl (xb_lit e1 rfl) (by omega)) (((xb_i_nk (by decide))).trans (xb_i_hit)) d_M_initTaken_203 ?_
        refine lv_if_eq (tgt := 216) hx hb d_M_initTaken_204 (by decide) (fun _ => ?_) (fun h_ => absurd h_ (by decide))
        refine lv_aload_n hx hb d_M_initTaken_216 rfl (lv_at hl 2 rfl) ?_
        refine lv_iload_n hx hb d_M_initTaken_217 rfl (lv_at hl 3 rfl) ?_
        refine lv_ldc2 hx hb hown (ht _ xw1132) d_M_initTaken_218 ?_
        refine sm_cv (va_runV (As := [.int (nI e1), .long (3 : Int64)]) (rest := []) ⟨hx, hb, hml, hown, hts⟩ (c_M_fail l D α κ hα (xb_si (xb_si (xb_sl (xb_sl (xb_sl τ6 12 ((6 * e1) + (3 * (1 - e1))) x2) 12 (((6 * e1) + (3 * (1 - e1))) + 1) x3) 12 (((6 * e1) + (3 * (1 - e1))) + 2) x4) 15 e1 (0 : Int32)) 16 e1 (0 : Int32)) (nI e1) e1 (xb_lit e1 rfl) (by omega) (3 : Int64) (mk_si (mk_si (mk_sl (mk_sl (mk_sl okτ6))) (by decide)) (by decide))) (cwV 2 hts (xa_V xw1112 xw1114 xs9 xw11 xw1115) rfl rfl rfl (by decide +kernel) ⟨Nat.le_of_ble_eq_true rfl, Nat.le_of_ble_eq_true rfl⟩) ⟨sm_blind, va_recv (q0 := 0) (ci := 9) hK hP rfl rfl, sm_pre hP hK hN _⟩ rfl rfl hl.1 rfl (lv_room (Nat.le_of_ble_eq_true rfl)) d_M_initTaken_221 ⟨Nat.le_of_ble_eq_true rfl, Nat.le_of_ble_eq_true rfl⟩) hS (fun _ h_ => h_) (fun H locs hP hS => ?_)
        obtain ⟨τ7, hτ7⟩ : ∃ t_, t_ = (q_fail e1 (3 : Int64) (xb_si (xb_si (xb_sl (xb_sl (xb_sl τ6 12 ((6 * e1) + (3 * (1 - e1))) x2) 12 (((6 * e1) + (3 * (1 - e1))) + 1) x3) 12 (((6 * e1) + (3 * (1 - e1))) + 2) x4) 15 e1 (0 : Int32)) 16 e1 (0 : Int32))) := ⟨_, rfl⟩
        rw [← hτ7] at hP
        have okτ7 : sm_ok τ7 := by rw [hτ7]; exact (ok_q_fail e1 (3 : Int64) (by omega) (mk_si (mk_si (mk_sl (mk_sl (mk_sl okτ6))) (by decide)) (by decide)))
        exact W.vret hx hb hr (fun t ht_ hW => ⟨⟨τ7, rfl, (by subst hτ7; subst hτ6; exact ((if_pos c1).trans ((if_neg c2).trans ((if_pos c8)))).symm), by rw [sm_B, ht_]; exact hP⟩, hS.F ht_⟩) hS.2.2 d_M_initTaken_224
      · skip
        refine lv_lload hx hb d_M_initTaken_103 (lv_at hl 5 rfl) ?_
        refine vp_callSi (W.runS (As := [.long x4]) (rest := []) ⟨hx, hb, hml, hown, hts⟩ (c_M_isList l x4) (cwS 1 hts (xa_S xw1125 xw1126 xw11 xw1127) rfl rfl rfl (by decide +kernel) ⟨Nat.le_of_ble_eq_true rfl, Nat.le_of_ble_eq_true rfl⟩) preEq rfl rfl hl.1 rfl (lv_room (Nat.le_of_ble_eq_true rfl)) d_M_initTaken_105 ⟨Nat.le_of_ble_eq_true rfl, Nat.le_of_ble_eq_true rfl⟩) (fun r_ e_ => ?_)
        subst e_
        refine lv_if_eq (tgt := 115) hx hb d_M_initTaken_108 (by decide) (fun c9 => ?_) (fun c9 => ?_)
        · skip
          refine lv_iconst (v := 0) hx hb d_M_initTaken_115 (by decide) ?_
          refine lv_istore (lv' := [(9, .int (0 : Int32)), (8, .int (((6 : Int32) * (nI e1)) + ((3 : Int32) * ((1 : Int32) - (nI e1))))), (0, .ref (α 0)), (1, .int (nI e1)), (2, .long x2), (4, .long x3), (6, .long x4)]) hx hb d_M_initTaken_116 hl (by decide) rfl (fun ls hl => ?_)
          refine lv_aload_n hx hb d_M_initTaken_118 rfl (lv_at hl 2 rfl) ?_
          refine sm_g (v := .ref (α 15)) hx hb ht hown hK hP 17 (by decide) (ht _ xw969) (fun _ h_ => h_) rfl d_M_initTaken_119 ?_
          refine lv_iload_n hx hb d_M_initTaken_122 rfl (lv_at hl 3 rfl) ?_
          refine lv_iload hx hb d_M_initTaken_123 (lv_at hl 0 rfl) ?_
          refine lv_if_eq (tgt := 156) hx hb d_M_initTaken_125 (by decide) (fun _ => ?_) (fun h_ => absurd h_ (by decide))
          refine lv_iconst (v := 0) hx hb d_M_initTaken_156 (by decide) ?_
          refine sm_paI (L := 2) (n := e1) (x := (0 : Int32)) hx hb hK hP 15 14 rfl rfl hD hS (xb_in (xb_lit e1 rfl) (by omega) (by decide)) (xb_cl (xb_lit e1 rfl) (by omega)) sm_s_15 d_M_initTaken_157 (fun H locs hP hS => ?_)
          refine lv_aload_n hx hb d_M_initTaken_158 rfl (lv_at hl 2 rfl) ?_
          refine sm_g (v := .ref (α 16)) hx hb ht hown hK hP 18 (by decide) (ht _ xw970) (fun _ h_ => h_) rfl d_M_initTaken_159 ?_
          refine lv_iload_n hx hb d_M_initTaken_162 rfl (lv_at hl 3 rfl) ?_
          refine lv_iload hx hb d_M_initTaken_163 (lv_at hl 0 rfl) ?_
          refine lv_if_eq (tgt := 196) hx hb d_M_initTaken_165 (by decide) (fun _ => ?_) (fun h_ => absurd h_ (by decide))
          refine lv_iconst (v := 0) hx hb d_M_initTaken_196 (by decide) ?_
          refine sm_paI (L := 2) (n := e1) (x := (0 : Int32)) hx hb hK hP 16 15 rfl rfl hD hS (xb_in (xb_lit e1 rfl) (by omega) (by decide)) (xb_cl (xb_lit e1 rfl) (by omega)) sm_s_16 d_M_initTaken_197 (fun H locs hP hS => ?_)
          refine lv_aload_n hx hb d_M_initTaken_198 rfl (lv_at hl 2 rfl) ?_
          refine sm_g (v := .ref (α 15)) hx hb ht hown hK hP 17 (by decide) (ht _ xw969) (fun _ h_ => h_) rfl d_M_initTaken_199 ?_
          refine lv_iload_n hx hb d_M_initTaken_202 rfl (lv_at hl 3 rfl) ?_
          refine sm_gaI (L := 2) (n := e1) (v := (0 : Int32)) hx hb hK hP 15 14 rfl rfl (xb_in (xb_lit e1 rfl) (by omega) (by decide)) (xb_cl (xb_lit e1 rfl) (by omega)) (((xb_i_nk (by decide))).trans (xb_i_hit)) d_M_initTaken_203 ?_
          refine lv_if_eq (tgt := 216) hx hb d_M_initTaken_204 (by decide) (fun _ => ?_) (fun h_ => absurd h_ (by decide))
          refine lv_aload_n hx hb d_M_initTaken_216 rfl (lv_at hl 2 rfl) ?_
          refine lv_iload_n hx hb d_M_initTaken_217 rfl (lv_at hl 3 rfl) ?_
          refine lv_ldc2 hx hb hown (ht _ xw1132) d_M_initTaken_218 ?_
          refine sm_cv (va_runV (As := [.int (nI e1), .long (3 : Int64)]) (rest := []) ⟨hx, hb, hml, hown, hts⟩ (c_M_fail l D α κ hα (xb_si (xb_si (xb_sl (xb_sl (xb_sl τ6 12 ((6 * e1) + (3 * (1 - e1))) x2) 12 (((6 * e1) + (3 * (1 - e1))) + 1) x3) 12 (((6 * e1) + (3 * (1 - e1))) + 2) x4) 15 e1 (0 : Int32)) 16 e1 (0 : Int32)) (nI e1) e1 (xb_lit e1 rfl) (by omega) (3 : Int64) (mk_si (mk_si (mk_sl (mk_sl (mk_sl okτ6))) (by decide)) (by decide))) (cwV 2 hts (xa_V xw1112 xw1114 xs9 xw11 xw1115) rfl rfl rfl (by decide +kernel) ⟨Nat.le_of_ble_eq_true rfl, Nat.le_of_ble_eq_true rfl⟩) ⟨sm_blind, va_recv (q0 := 0) (ci := 9) hK hP rfl rfl, sm_pre hP hK hN _⟩ rfl rfl hl.1 rfl (lv_room (Nat.le_of_ble_eq_true rfl)) d_M_initTaken_221 ⟨Nat.le_of_ble_eq_true rfl, Nat.le_of_ble_eq_true rfl⟩) hS (fun _ h_ => h_) (fun H locs hP hS => ?_)
          obtain ⟨τ8, hτ8⟩ : ∃ t_, t_ = (q_fail e1 (3 : Int64) (xb_si (xb_si (xb_sl (xb_sl (xb_sl τ6 12 ((6 * e1) + (3 * (1 - e1))) x2) 12 (((6 * e1) + (3 * (1 - e1))) + 1) x3) 12 (((6 * e1) + (3 * (1 - e1))) + 2) x4) 15 e1 (0 : Int32)) 16 e1 (0 : Int32))) := ⟨_, rfl⟩
          rw [← hτ8] at hP
          have okτ8 : sm_ok τ8 := by rw [hτ8]; exact (ok_q_fail e1 (3 : Int64) (by omega) (mk_si (mk_si (mk_sl (mk_sl (mk_sl okτ6))) (by decide)) (by decide)))
          exact W.vret hx hb hr (fun t ht_ hW => ⟨⟨τ8, rfl, (by subst hτ8; subst hτ6; exact ((if_pos c1).trans ((if_neg c2).trans ((if_neg c8).trans ((if_pos c9))))).symm), by rw [sm_B, ht_]; exact hP⟩, hS.F ht_⟩) hS.2.2 d_M_initTaken_224
        · skip
          refine lv_iconst (v := 1) hx hb d_M_initTaken_111 (by decide) ?_
          refine lv_goto (tgt := 116) hx hb d_M_initTaken_112 (by decide) ?_
          refine lv_istore (lv' := [(9, .int (1 : Int32)), (8, .int (((6 : Int32) * (nI e1)) + ((3 : Int32) * ((1 : Int32) - (nI e1))))), (0, .ref (α 0)), (1, .int (nI e1)), (2, .long x2), (4, .long x3), (6, .long x4)]) hx hb d_M_initTaken_116 hl (by decide) rfl (fun ls hl => ?_)
          refine lv_aload_n hx hb d_M_initTaken_118 rfl (lv_at hl 2 rfl) ?_
          refine sm_g (v := .ref (α 15)) hx hb ht hown hK hP 17 (by decide) (ht _ xw969) (fun _ h_ => h_) rfl d_M_initTaken_119 ?_
          refine lv_iload_n hx hb d_M_initTaken_122 rfl (lv_at hl 3 rfl) ?_
          refine lv_iload hx hb d_M_initTaken_123 (lv_at hl 0 rfl) ?_
          refine lv_if_eq (tgt := 156) hx hb d_M_initTaken_125 (by decide) (fun h_ => absurd h_ (by decide)) (fun _ => ?_)
          refine lv_aload_n hx hb d_M_initTaken_128 rfl (lv_at hl 2 rfl) ?_
          refine sm_g (v := .ref (α 12)) hx hb ht hown hK hP 14 (by decide) (ht _ xw966) (fun _ h_ => h_) rfl d_M_initTaken_129 ?_
          refine lv_bipush (v := 6) hx hb d_M_initTaken_132 (by decide) ?_
          refine lv_iload_n hx hb d_M_initTaken_134 rfl (lv_at hl 3 rfl) ?_
          refine lv_imul hx hb d_M_initTaken_135 ?_
          refine lv_iconst (v := 1) hx hb d_M_initTaken_136 (by decide) ?_
          refine lv_iadd hx hb d_M_initTaken_137 ?_
          refine sm_gaJ (L := 12) (n := ((6 * e1) + 1)) (v := ((xb_sl (xb_sl (xb_sl τ6 12 ((6 * e1) + (3 * (1 - e1))) x2) 12 (((6 * e1) + (3 * (1 - e1))) + 1) x3) 12 (((6 * e1) + (3 * (1 - e1))) + 2) x4).2 12 ((6 * e1) + 1))) hx hb hK hP 12 11 rfl rfl (xb_in (xb_na (xb_nm (xb_lit (x := (6 : Int32)) 6 rfl) (xb_lit e1 rfl)) (xb_lit (x := (1 : Int32)) 1 rfl)) (by omega) (by decide)) (xb_cl (xb_na (xb_nm (xb_lit (x := (6 : Int32)) 6 rfl) (xb_lit e1 rfl)) (xb_lit (x := (1 : Int32)) 1 rfl)) (by omega)) rfl d_M_initTaken_138 ?_
          refine lv_aload_n hx hb d_M_initTaken_139 rfl (lv_at hl 2 rfl) ?_
          refine sm_g (v := .ref (α 12)) hx hb ht hown hK hP 14 (by decide) (ht _ xw966) (fun _ h_ => h_) rfl d_M_initTaken_140 ?_
          refine lv_bipush (v := 6) hx hb d_M_initTaken_143 (by decide) ?_
          refine lv_iload_n hx hb d_M_initTaken_145 rfl (lv_at hl 3 rfl) ?_
          refine lv_imul hx hb d_M_initTaken_146 ?_
          refine lv_iconst (v := 4) hx hb d_M_initTaken_147 (by decide) ?_
          refine lv_iadd hx hb d_M_initTaken_148 ?_
          refine sm_gaJ (L := 12) (n := ((6 * e1) + 4)) (v := ((xb_sl (xb_sl (xb_sl τ6 12 ((6 * e1) + (3 * (1 - e1))) x2) 12 (((6 * e1) + (3 * (1 - e1))) + 1) x3) 12 (((6 * e1) + (3 * (1 - e1))) + 2) x4).2 12 ((6 * e1) + 4))) hx hb hK hP 12 11 rfl rfl (xb_in (xb_na (xb_nm (xb_lit (x := (6 : Int32)) 6 rfl) (xb_lit e1 rfl)) (xb_lit (x := (4 : Int32)) 4 rfl)) (by omega) (by decide)) (xb_cl (xb_na (xb_nm (xb_lit (x := (6 : Int32)) 6 rfl) (xb_lit e1 rfl)) (xb_lit (x := (4 : Int32)) 4 rfl)) (by omega)) rfl d_M_initTaken_149 ?_
          refine vp_callSi (W.runS (As := [.long ((xb_sl (xb_sl (xb_sl τ6 12 ((6 * e1) + (3 * (1 - e1))) x2) 12 (((6 * e1) + (3 * (1 - e1))) + 1) x3) 12 (((6 * e1) + (3 * (1 - e1))) + 2) x4).2 12 ((6 * e1) + 1)), .long ((xb_sl (xb_sl (xb_sl τ6 12 ((6 * e1) + (3 * (1 - e1))) x2) 12 (((6 * e1) + (3 * (1 - e1))) + 1) x3) 12 (((6 * e1) + (3 * (1 - e1))) + 2) x4).2 12 ((6 * e1) + 4))]) (rest := [.int (nI e1), .ref (α 15)]) ⟨hx, hb, hml, hown, hts⟩ (c_M_common l ((xb_sl (xb_sl (xb_sl τ6 12 ((6 * e1) + (3 * (1 - e1))) x2) 12 (((6 * e1) + (3 * (1 - e1))) + 1) x3) 12 (((6 * e1) + (3 * (1 - e1))) + 2) x4).2 12 ((6 * e1) + 1)) ((xb_sl (xb_sl (xb_sl τ6 12 ((6 * e1) + (3 * (1 - e1))) x2) 12 (((6 * e1) + (3 * (1 - e1))) + 1) x3) 12 (((6 * e1) + (3 * (1 - e1))) + 2) x4).2 12 ((6 * e1) + 4))) (cwS 2 hts (xa_S xw1129 xw1130 xw11 xw1131) rfl rfl rfl (by decide +kernel) ⟨Nat.le_of_ble_eq_true rfl, Nat.le_of_ble_eq_true rfl⟩) preEq rfl rfl hl.1 rfl (lv_room (Nat.le_of_ble_eq_true rfl)) d_M_initTaken_150 ⟨Nat.le_of_ble_eq_true rfl, Nat.le_of_ble_eq_true rfl⟩) (fun r_ e_ => ?_)
          subst e_
          refine lv_goto (tgt := 157) hx hb d_M_initTaken_153 (by decide) ?_
          refine sm_paI (L := 2) (n := e1) (x := (g_common ((xb_sl (xb_sl (xb_sl τ6 12 ((6 * e1) + (3 * (1 - e1))) x2) 12 (((6 * e1) + (3 * (1 - e1))) + 1) x3) 12 (((6 * e1) + (3 * (1 - e1))) + 2) x4).2 12 ((6 * e1) + 1)) ((xb_sl (xb_sl (xb_sl τ6 12 ((6 * e1) + (3 * (1 - e1))) x2) 12 (((6 * e1) + (3 * (1 - e1))) + 1) x3) 12 (((6 * e1) + (3 * (1 - e1))) + 2) x4).2 12 ((6 * e1) + 4)))) hx hb hK hP 15 14 rfl rfl hD hS (xb_in (xb_lit e1 rfl) (by omega) (by decide)) (xb_cl (xb_lit e1 rfl) (by omega)) sm_s_15 d_M_initTaken_157 (fun H locs hP hS => ?_)
          refine lv_aload_n hx hb d_M_initTaken_158 rfl (lv_at hl 2 rfl) ?_
          refine sm_g (v := .ref (α 16)) hx hb ht hown hK hP 18 (by decide) (ht _ xw970) (fun _ h_ => h_) rfl d_M_initTaken_159 ?_
          refine lv_iload_n hx hb d_M_initTaken_162 rfl (lv_at hl 3 rfl) ?_
          refine lv_iload hx hb d_M_initTaken_163 (lv_at hl 0 rfl) ?_
          refine lv_if_eq (tgt := 196) hx hb d_M_initTaken_165 (by decide) (fun h_ => absurd h_ (by decide)) (fun _ => ?_)
          refine lv_aload_n hx hb d_M_initTaken_168 rfl (lv_at hl 2 rfl) ?_
          refine sm_g (v := .ref (α 12)) hx hb ht hown hK hP 14 (by decide) (ht _ xw966) (fun _ h_ => h_) rfl d_M_initTaken_169 ?_
          refine lv_bipush (v := 6) hx hb d_M_initTaken_172 (by decide) ?_
          refine lv_iload_n hx hb d_M_initTaken_174 rfl (lv_at hl 3 rfl) ?_
          refine lv_imul hx hb d_M_initTaken_175 ?_
          refine lv_iconst (v := 2) hx hb d_M_initTaken_176 (by decide) ?_
          refine lv_iadd hx hb d_M_initTaken_177 ?_
          refine sm_gaJ (L := 12) (n := ((6 * e1) + 2)) (v := ((xb_sl (xb_sl (xb_sl τ6 12 ((6 * e1) + (3 * (1 - e1))) x2) 12 (((6 * e1) + (3 * (1 - e1))) + 1) x3) 12 (((6 * e1) + (3 * (1 - e1))) + 2) x4).2 12 ((6 * e1) + 2))) hx hb hK hP 12 11 rfl rfl (xb_in (xb_na (xb_nm (xb_lit (x := (6 : Int32)) 6 rfl) (xb_lit e1 rfl)) (xb_lit (x := (2 : Int32)) 2 rfl)) (by omega) (by decide)) (xb_cl (xb_na (xb_nm (xb_lit (x := (6 : Int32)) 6 rfl) (xb_lit e1 rfl)) (xb_lit (x := (2 : Int32)) 2 rfl)) (by omega)) xb_l_i d_M_initTaken_178 ?_
          refine lv_aload_n hx hb d_M_initTaken_179 rfl (lv_at hl 2 rfl) ?_
          refine sm_g (v := .ref (α 12)) hx hb ht hown hK hP 14 (by decide) (ht _ xw966) (fun _ h_ => h_) rfl d_M_initTaken_180 ?_
          refine lv_bipush (v := 6) hx hb d_M_initTaken_183 (by decide) ?_
          refine lv_iload_n hx hb d_M_initTaken_185 rfl (lv_at hl 3 rfl) ?_
          refine lv_imul hx hb d_M_initTaken_186 ?_
          refine lv_iconst (v := 5) hx hb d_M_initTaken_187 (by decide) ?_
          refine lv_iadd hx hb d_M_initTaken_188 ?_
          refine sm_gaJ (L := 12) (n := ((6 * e1) + 5)) (v := ((xb_sl (xb_sl (xb_sl τ6 12 ((6 * e1) + (3 * (1 - e1))) x2) 12 (((6 * e1) + (3 * (1 - e1))) + 1) x3) 12 (((6 * e1) + (3 * (1 - e1))) + 2) x4).2 12 ((6 * e1) + 5))) hx hb hK hP 12 11 rfl rfl (xb_in (xb_na (xb_nm (xb_lit (x := (6 : Int32)) 6 rfl) (xb_lit e1 rfl)) (xb_lit (x := (5 : Int32)) 5 rfl)) (by omega) (by decide)) (xb_cl (xb_na (xb_nm (xb_lit (x := (6 : Int32)) 6 rfl) (xb_lit e1 rfl)) (xb_lit (x := (5 : Int32)) 5 rfl)) (by omega)) xb_l_i d_M_initTaken_189 ?_
          refine vp_callSi (W.runS (As := [.long ((xb_sl (xb_sl (xb_sl τ6 12 ((6 * e1) + (3 * (1 - e1))) x2) 12 (((6 * e1) + (3 * (1 - e1))) + 1) x3) 12 (((6 * e1) + (3 * (1 - e1))) + 2) x4).2 12 ((6 * e1) + 2)), .long ((xb_sl (xb_sl (xb_sl τ6 12 ((6 * e1) + (3 * (1 - e1))) x2) 12 (((6 * e1) + (3 * (1 - e1))) + 1) x3) 12 (((6 * e1) + (3 * (1 - e1))) + 2) x4).2 12 ((6 * e1) + 5))]) (rest := [.int (nI e1), .ref (α 16)]) ⟨hx, hb, hml, hown, hts⟩ (c_M_common l ((xb_sl (xb_sl (xb_sl τ6 12 ((6 * e1) + (3 * (1 - e1))) x2) 12 (((6 * e1) + (3 * (1 - e1))) + 1) x3) 12 (((6 * e1) + (3 * (1 - e1))) + 2) x4).2 12 ((6 * e1) + 2)) ((xb_sl (xb_sl (xb_sl τ6 12 ((6 * e1) + (3 * (1 - e1))) x2) 12 (((6 * e1) + (3 * (1 - e1))) + 1) x3) 12 (((6 * e1) + (3 * (1 - e1))) + 2) x4).2 12 ((6 * e1) + 5))) (cwS 2 hts (xa_S xw1129 xw1130 xw11 xw1131) rfl rfl rfl (by decide +kernel) ⟨Nat.le_of_ble_eq_true rfl, Nat.le_of_ble_eq_true rfl⟩) preEq rfl rfl hl.1 rfl (lv_room (Nat.le_of_ble_eq_true rfl)) d_M_initTaken_190 ⟨Nat.le_of_ble_eq_true rfl, Nat.le_of_ble_eq_true rfl⟩) (fun r_ e_ => ?_)
          subst e_
          refine lv_goto (tgt := 197) hx hb d_M_initTaken_193 (by decide) ?_
          refine sm_paI (L := 2) (n := e1) (x := (g_common ((xb_sl (xb_sl (xb_sl τ6 12 ((6 * e1) + (3 * (1 - e1))) x2) 12 (((6 * e1) + (3 * (1 - e1))) + 1) x3) 12 (((6 * e1) + (3 * (1 - e1))) + 2) x4).2 12 ((6 * e1) + 2)) ((xb_sl (xb_sl (xb_sl τ6 12 ((6 * e1) + (3 * (1 - e1))) x2) 12 (((6 * e1) + (3 * (1 - e1))) + 1) x3) 12 (((6 * e1) + (3 * (1 - e1))) + 2) x4).2 12 ((6 * e1) + 5)))) hx hb hK hP 16 15 rfl rfl hD hS (xb_in (xb_lit e1 rfl) (by omega) (by decide)) (xb_cl (xb_lit e1 rfl) (by omega)) sm_s_16 d_M_initTaken_197 (fun H locs hP hS => ?_)
          refine lv_aload_n hx hb d_M_initTaken_198 rfl (lv_at hl 2 rfl) ?_
          refine sm_g (v := .ref (α 15)) hx hb ht hown hK hP 17 (by decide) (ht _ xw969) (fun _ h_ => h_) rfl d_M_initTaken_199 ?_
          refine lv_iload_n hx hb d_M_initTaken_202 rfl (lv_at hl 3 rfl) ?_
          refine sm_gaI (L := 2) (n := e1) (v := (g_common ((xb_sl (xb_sl (xb_sl τ6 12 ((6 * e1) + (3 * (1 - e1))) x2) 12 (((6 * e1) + (3 * (1 - e1))) + 1) x3) 12 (((6 * e1) + (3 * (1 - e1))) + 2) x4).2 12 ((6 * e1) + 1)) ((xb_sl (xb_sl (xb_sl τ6 12 ((6 * e1) + (3 * (1 - e1))) x2) 12 (((6 * e1) + (3 * (1 - e1))) + 1) x3) 12 (((6 * e1) + (3 * (1 - e1))) + 2) x4).2 12 ((6 * e1) + 4)))) hx hb hK hP 15 14 rfl rfl (xb_in (xb_lit e1 rfl) (by omega) (by decide)) (xb_cl (xb_lit e1 rfl) (by omega)) (((xb_i_nk (by decide))).trans (xb_i_hit)) d_M_initTaken_203 ?_
          refine lv_if_eq (tgt := 216) hx hb d_M_initTaken_204 (by decide) (fun c10 => ?_) (fun c10 => ?_)
          · skip
            refine lv_aload_n hx hb d_M_initTaken_216 rfl (lv_at hl 2 rfl) ?_
            refine lv_iload_n hx hb d_M_initTaken_217 rfl (lv_at hl 3 rfl) ?_
            refine lv_ldc2 hx hb hown (ht _ xw1132) d_M_initTaken_218 ?_
            refine sm_cv (va_runV (As := [.int (nI e1), .long (3 : Int64)]) (rest := []) ⟨hx, hb, hml, hown, hts⟩ (c_M_fail l D α κ hα (xb_si (xb_si (xb_sl (xb_sl (xb_sl τ6 12 ((6 * e1) + (3 * (1 - e1))) x2) 12 (((6 * e1) + (3 * (1 - e1))) + 1) x3) 12 (((6 * e1) + (3 * (1 - e1))) + 2) x4) 15 e1 (g_common ((xb_sl (xb_sl (xb_sl τ6 12 ((6 * e1) + (3 * (1 - e1))) x2) 12 (((6 * e1) + (3 * (1 - e1))) + 1) x3) 12 (((6 * e1) + (3 * (1 - e1))) + 2) x4).2 12 ((6 * e1) + 1)) ((xb_sl (xb_sl (xb_sl τ6 12 ((6 * e1) + (3 * (1 - e1))) x2) 12 (((6 * e1) + (3 * (1 - e1))) + 1) x3) 12 (((6 * e1) + (3 * (1 - e1))) + 2) x4).2 12 ((6 * e1) + 4)))) 16 e1 (g_common ((xb_sl (xb_sl (xb_sl τ6 12 ((6 * e1) + (3 * (1 - e1))) x2) 12 (((6 * e1) + (3 * (1 - e1))) + 1) x3) 12 (((6 * e1) + (3 * (1 - e1))) + 2) x4).2 12 ((6 * e1) + 2)) ((xb_sl (xb_sl (xb_sl τ6 12 ((6 * e1) + (3 * (1 - e1))) x2) 12 (((6 * e1) + (3 * (1 - e1))) + 1) x3) 12 (((6 * e1) + (3 * (1 - e1))) + 2) x4).2 12 ((6 * e1) + 5)))) (nI e1) e1 (xb_lit e1 rfl) (by omega) (3 : Int64) (mk_si (mk_si (mk_sl (mk_sl (mk_sl okτ6))) (by decide)) (by decide))) (cwV 2 hts (xa_V xw1112 xw1114 xs9 xw11 xw1115) rfl rfl rfl (by decide +kernel) ⟨Nat.le_of_ble_eq_true rfl, Nat.le_of_ble_eq_true rfl⟩) ⟨sm_blind, va_recv (q0 := 0) (ci := 9) hK hP rfl rfl, sm_pre hP hK hN _⟩ rfl rfl hl.1 rfl (lv_room (Nat.le_of_ble_eq_true rfl)) d_M_initTaken_221 ⟨Nat.le_of_ble_eq_true rfl, Nat.le_of_ble_eq_true rfl⟩) hS (fun _ h_ => h_) (fun H locs hP hS => ?_)
            obtain ⟨τ9, hτ9⟩ : ∃ t_, t_ = (q_fail e1 (3 : Int64) (xb_si (xb_si (xb_sl (xb_sl (xb_sl τ6 12 ((6 * e1) + (3 * (1 - e1))) x2) 12 (((6 * e1) + (3 * (1 - e1))) + 1) x3) 12 (((6 * e1) + (3 * (1 - e1))) + 2) x4) 15 e1 (g_common ((xb_sl (xb_sl (xb_sl τ6 12 ((6 * e1) + (3 * (1 - e1))) x2) 12 (((6 * e1) + (3 * (1 - e1))) + 1) x3) 12 (((6 * e1) + (3 * (1 - e1))) + 2) x4).2 12 ((6 * e1) + 1)) ((xb_sl (xb_sl (xb_sl τ6 12 ((6 * e1) + (3 * (1 - e1))) x2) 12 (((6 * e1) + (3 * (1 - e1))) + 1) x3) 12 (((6 * e1) + (3 * (1 - e1))) + 2) x4).2 12 ((6 * e1) + 4)))) 16 e1 (g_common ((xb_sl (xb_sl (xb_sl τ6 12 ((6 * e1) + (3 * (1 - e1))) x2) 12 (((6 * e1) + (3 * (1 - e1))) + 1) x3) 12 (((6 * e1) + (3 * (1 - e1))) + 2) x4).2 12 ((6 * e1) + 2)) ((xb_sl (xb_sl (xb_sl τ6 12 ((6 * e1) + (3 * (1 - e1))) x2) 12 (((6 * e1) + (3 * (1 - e1))) + 1) x3) 12 (((6 * e1) + (3 * (1 - e1))) + 2) x4).2 12 ((6 * e1) + 5))))) := ⟨_, rfl⟩
            rw [← hτ9] at hP
            have okτ9 : sm_ok τ9 := by rw [hτ9]; exact (ok_q_fail e1 (3 : Int64) (by omega) (mk_si (mk_si (mk_sl (mk_sl (mk_sl okτ6))) (by decide)) (by decide)))
            exact W.vret hx hb hr (fun t ht_ hW => ⟨⟨τ9, rfl, (by subst hτ9; subst hτ6; exact ((if_pos c1).trans ((if_neg c2).trans ((if_neg c8).trans ((if_neg c9).trans ((if_pos c10)))))).symm), by rw [sm_B, ht_]; exact hP⟩, hS.F ht_⟩) hS.2.2 d_M_initTaken_224
          · skip
            refine lv_aload_n hx hb d_M_initTaken_207 rfl (lv_at hl 2 rfl) ?_
            refine sm_g (v := .ref (α 16)) hx hb ht hown hK hP 18 (by decide) (ht _ xw970) (fun _ h_ => h_) rfl d_M_initTaken_208 ?_
            refine lv_iload_n hx hb d_M_initTaken_211 rfl (lv_at hl 3 rfl) ?_
            refine sm_gaI (L := 2) (n := e1) (v := (g_common ((xb_sl (xb_sl (xb_sl τ6 12 ((6 * e1) + (3 * (1 - e1))) x2) 12 (((6 * e1) + (3 * (1 - e1))) + 1) x3) 12 (((6 * e1) + (3 * (1 - e1))) + 2) x4).2 12 ((6 * e1) + 2)) ((xb_sl (xb_sl (xb_sl τ6 12 ((6 * e1) + (3 * (1 - e1))) x2) 12 (((6 * e1) + (3 * (1 - e1))) + 1) x3) 12 (((6 * e1) + (3 * (1 - e1))) + 2) x4).2 12 ((6 * e1) + 5)))) hx hb hK hP 16 15 rfl rfl (xb_in (xb_lit e1 rfl) (by omega) (by decide)) (xb_cl (xb_lit e1 rfl) (by omega)) xb_i_hit d_M_initTaken_212 ?_
            refine lv_if_ne (tgt := 225) hx hb d_M_initTaken_213 (by decide) (fun c11 => ?_) (fun c11 => ?_)
            · skip
              refine lv_aload_n hx hb d_M_initTaken_225 rfl (lv_at hl 2 rfl) ?_
              refine sm_g (v := .ref (α 4)) hx hb ht hown hK hP 6 (by decide) (ht _ xw958) (fun _ h_ => h_) rfl d_M_initTaken_226 ?_
              refine lv_iload_n hx hb d_M_initTaken_229 rfl (lv_at hl 3 rfl) ?_
              refine lv_iconst (v := 2) hx hb d_M_initTaken_230 (by decide) ?_
              refine sm_paI (L := 2) (n := e1) (x := (2 : Int32)) hx hb hK hP 4 3 rfl rfl hD hS (xb_in (xb_lit e1 rfl) (by omega) (by decide)) (xb_cl (xb_lit e1 rfl) (by omega)) sm_s_4 d_M_initTaken_231 (fun H locs hP hS => ?_)
              refine lv_iload_n hx hb d_M_initTaken_232 rfl (lv_at hl 3 rfl) ?_
              refine lv_if_ne (tgt := 270) hx hb d_M_initTaken_233 (by decide) (fun c12 => ?_) (fun c12 => ?_)
              · skip
                have nc12 := mt (xb_eqN (xb_lit e1 rfl) (xb_lit (x := (0 : Int32)) 0 rfl) (by omega) (by omega)).mpr c12
                exact W.vret hx hb hr (fun t ht_ hW => ⟨⟨(xb_si (xb_si (xb_si (xb_sl (xb_sl (xb_sl τ6 12 ((6 * e1) + (3 * (1 - e1))) x2) 12 (((6 * e1) + (3 * (1 - e1))) + 1) x3) 12 (((6 * e1) + (3 * (1 - e1))) + 2) x4) 15 e1 (g_common ((xb_sl (xb_sl (xb_sl τ6 12 ((6 * e1) + (3 * (1 - e1))) x2) 12 (((6 * e1) + (3 * (1 - e1))) + 1) x3) 12 (((6 * e1) + (3 * (1 - e1))) + 2) x4).2 12 ((6 * e1) + 1)) ((xb_sl (xb_sl (xb_sl τ6 12 ((6 * e1) + (3 * (1 - e1))) x2) 12 (((6 * e1) + (3 * (1 - e1))) + 1) x3) 12 (((6 * e1) + (3 * (1 - e1))) + 2) x4).2 12 ((6 * e1) + 4)))) 16 e1 (g_common ((xb_sl (xb_sl (xb_sl τ6 12 ((6 * e1) + (3 * (1 - e1))) x2) 12 (((6 * e1) + (3 * (1 - e1))) + 1) x3) 12 (((6 * e1) + (3 * (1 - e1))) + 2) x4).2 12 ((6 * e1) + 2)) ((xb_sl (xb_sl (xb_sl τ6 12 ((6 * e1) + (3 * (1 - e1))) x2) 12 (((6 * e1) + (3 * (1 - e1))) + 1) x3) 12 (((6 * e1) + (3 * (1 - e1))) + 2) x4).2 12 ((6 * e1) + 5)))) 4 e1 (2 : Int32)), rfl, (by subst hτ6; exact ((if_pos c1).trans ((if_neg c2).trans ((if_neg c8).trans ((if_neg c9).trans ((if_neg c10).trans ((if_neg c11).trans ((if_neg c12)))))))).symm), by rw [sm_B, ht_]; exact hP⟩, hS.F ht_⟩) hS.2.2 d_M_initTaken_270
              · skip
                have nc12 := (xb_eqN (xb_lit e1 rfl) (xb_lit (x := (0 : Int32)) 0 rfl) (by omega) (by omega)).mp c12
                refine lv_aload_n hx hb d_M_initTaken_236 rfl (lv_at hl 2 rfl) ?_
                refine sm_g (v := .ref (α 14)) hx hb ht hown hK hP 16 (by decide) (ht _ xw968) (fun _ h_ => h_) rfl d_M_initTaken_237 ?_
                refine lv_iconst (v := 0) hx hb d_M_initTaken_240 (by decide) ?_
                refine lv_ldc2 hx hb hown (ht _ xw1133) d_M_initTaken_241 ?_
                refine lv_aload_n hx hb d_M_initTaken_244 rfl (lv_at hl 2 rfl) ?_
                refine sm_g (v := .ref (α 13)) hx hb ht hown hK hP 15 (by decide) (ht _ xw967) (fun _ h_ => h_) rfl d_M_initTaken_245 ?_
                refine lv_iconst (v := 0) hx hb d_M_initTaken_248 (by decide) ?_
                refine sm_gaJ (L := 2) (n := 0) (v := (τ6.2 13 0)) hx hb hK hP 13 12 rfl rfl (xb_in (xb_lit (x := (0 : Int32)) 0 rfl) (by omega) (by decide)) (xb_cl (xb_lit (x := (0 : Int32)) 0 rfl) (by omega)) ((xb_l_i).trans ((xb_l_i).trans ((xb_l_i).trans (((xb_l_nk (by decide))).trans (((xb_l_nk (by decide))).trans ((xb_l_nk (by decide)))))))) d_M_initTaken_249 ?_
                refine vp_callSl (W.runS (As := [.long (7 : Int64), .long (τ6.2 13 0)]) (rest := [.int (0 : Int32), .ref (α 14)]) ⟨hx, hb, hml, hown, hts⟩ (c_M_power l (7 : Int64) (τ6.2 13 0)) (cwS 2 hts (xa_S xw1134 xw1135 xw11 xw1136) rfl rfl rfl (by decide +kernel) ⟨Nat.le_of_ble_eq_true rfl, Nat.le_of_ble_eq_true rfl⟩) preEq rfl rfl hl.1 rfl (lv_room (Nat.le_of_ble_eq_true rfl)) d_M_initTaken_250 ⟨Nat.le_of_ble_eq_true rfl, Nat.le_of_ble_eq_true rfl⟩) (fun r_ e_ => ?_)
                subst e_
                refine sm_paJ (L := 2) (n := 0) (x := (g_power (7 : Int64) (τ6.2 13 0))) hx hb hK hP 14 13 rfl rfl hD hS (xb_in (xb_lit (x := (0 : Int32)) 0 rfl) (by omega) (by decide)) (xb_cl (xb_lit (x := (0 : Int32)) 0 rfl) (by omega)) sm_s_14 d_M_initTaken_253 (fun H locs hP hS => ?_)
                refine lv_aload_n hx hb d_M_initTaken_254 rfl (lv_at hl 2 rfl) ?_
                refine lv_iconst (v := 0) hx hb d_M_initTaken_255 (by decide) ?_
                refine lv_bipush (v := 30) hx hb d_M_initTaken_256 (by decide) ?_
                refine lv_aload_n hx hb d_M_initTaken_258 rfl (lv_at hl 2 rfl) ?_
                refine sm_g (v := .ref (α 14)) hx hb ht hown hK hP 16 (by decide) (ht _ xw968) (fun _ h_ => h_) rfl d_M_initTaken_259 ?_
                refine lv_iconst (v := 0) hx hb d_M_initTaken_262 (by decide) ?_
                refine sm_gaJ (L := 2) (n := 0) (v := (g_power (7 : Int64) (τ6.2 13 0))) hx hb hK hP 14 13 rfl rfl (xb_in (xb_lit (x := (0 : Int32)) 0 rfl) (by omega) (by decide)) (xb_cl (xb_lit (x := (0 : Int32)) 0 rfl) (by omega)) xb_l_hit d_M_initTaken_263 ?_
                refine lv_lconst (v := 0) hx hb d_M_initTaken_264 (by decide) ?_
                refine lv_lconst (v := 0) hx hb d_M_initTaken_265 (by decide) ?_
                refine lv_lconst (v := 0) hx hb d_M_initTaken_266 (by decide) ?_
                refine sm_cv (va_runV (As := [.int (0 : Int32), .int (30 : Int32), .long (g_power (7 : Int64) (τ6.2 13 0)), .long (0 : Int64), .long (0 : Int64), .long (0 : Int64)]) (rest := []) ⟨hx, hb, hml, hown, hts⟩ (c_M_send l D α κ hα (xb_sl (xb_si (xb_si (xb_si (xb_sl (xb_sl (xb_sl τ6 12 ((6 * e1) + (3 * (1 - e1))) x2) 12 (((6 * e1) + (3 * (1 - e1))) + 1) x3) 12 (((6 * e1) + (3 * (1 - e1))) + 2) x4) 15 e1 (g_common ((xb_sl (xb_sl (xb_sl τ6 12 ((6 * e1) + (3 * (1 - e1))) x2) 12 (((6 * e1) + (3 * (1 - e1))) + 1) x3) 12 (((6 * e1) + (3 * (1 - e1))) + 2) x4).2 12 ((6 * e1) + 1)) ((xb_sl (xb_sl (xb_sl τ6 12 ((6 * e1) + (3 * (1 - e1))) x2) 12 (((6 * e1) + (3 * (1 - e1))) + 1) x3) 12 (((6 * e1) + (3 * (1 - e1))) + 2) x4).2 12 ((6 * e1) + 4)))) 16 e1 (g_common ((xb_sl (xb_sl (xb_sl τ6 12 ((6 * e1) + (3 * (1 - e1))) x2) 12 (((6 * e1) + (3 * (1 - e1))) + 1) x3) 12 (((6 * e1) + (3 * (1 - e1))) + 2) x4).2 12 ((6 * e1) + 2)) ((xb_sl (xb_sl (xb_sl τ6 12 ((6 * e1) + (3 * (1 - e1))) x2) 12 (((6 * e1) + (3 * (1 - e1))) + 1) x3) 12 (((6 * e1) + (3 * (1 - e1))) + 2) x4).2 12 ((6 * e1) + 5)))) 4 e1 (2 : Int32)) 14 0 (g_power (7 : Int64) (τ6.2 13 0))) (0 : Int32) 0 (xb_lit (x := (0 : Int32)) 0 rfl) (by omega) (30 : Int32) (g_power (7 : Int64) (τ6.2 13 0)) (0 : Int64) (0 : Int64) (0 : Int64) (mk_sl (mk_si (mk_si (mk_si (mk_sl (mk_sl (mk_sl okτ6))) (by decide)) (by decide)) (by decide)))) (cwV 6 hts (xa_V xw1084 xw1086 xs6 xw11 xw1087) rfl rfl rfl (by decide +kernel) ⟨Nat.le_of_ble_eq_true rfl, Nat.le_of_ble_eq_true rfl⟩) ⟨sm_blind, va_recv (q0 := 0) (ci := 9) hK hP rfl rfl, sm_pre hP hK hN _⟩ rfl rfl hl.1 rfl (lv_room (Nat.le_of_ble_eq_true rfl)) d_M_initTaken_267 ⟨Nat.le_of_ble_eq_true rfl, Nat.le_of_ble_eq_true rfl⟩) hS (fun _ h_ => h_) (fun H locs hP hS => ?_)
                obtain ⟨τ10, hτ10⟩ : ∃ t_, t_ = (q_send 0 (30 : Int32) (g_power (7 : Int64) (τ6.2 13 0)) (0 : Int64) (0 : Int64) (0 : Int64) (xb_sl (xb_si (xb_si (xb_si (xb_sl (xb_sl (xb_sl τ6 12 ((6 * e1) + (3 * (1 - e1))) x2) 12 (((6 * e1) + (3 * (1 - e1))) + 1) x3) 12 (((6 * e1) + (3 * (1 - e1))) + 2) x4) 15 e1 (g_common ((xb_sl (xb_sl (xb_sl τ6 12 ((6 * e1) + (3 * (1 - e1))) x2) 12 (((6 * e1) + (3 * (1 - e1))) + 1) x3) 12 (((6 * e1) + (3 * (1 - e1))) + 2) x4).2 12 ((6 * e1) + 1)) ((xb_sl (xb_sl (xb_sl τ6 12 ((6 * e1) + (3 * (1 - e1))) x2) 12 (((6 * e1) + (3 * (1 - e1))) + 1) x3) 12 (((6 * e1) + (3 * (1 - e1))) + 2) x4).2 12 ((6 * e1) + 4)))) 16 e1 (g_common ((xb_sl (xb_sl (xb_sl τ6 12 ((6 * e1) + (3 * (1 - e1))) x2) 12 (((6 * e1) + (3 * (1 - e1))) + 1) x3) 12 (((6 * e1) + (3 * (1 - e1))) + 2) x4).2 12 ((6 * e1) + 2)) ((xb_sl (xb_sl (xb_sl τ6 12 ((6 * e1) + (3 * (1 - e1))) x2) 12 (((6 * e1) + (3 * (1 - e1))) + 1) x3) 12 (((6 * e1) + (3 * (1 - e1))) + 2) x4).2 12 ((6 * e1) + 5)))) 4 e1 (2 : Int32)) 14 0 (g_power (7 : Int64) (τ6.2 13 0)))) := ⟨_, rfl⟩
                rw [← hτ10] at hP
                have okτ10 : sm_ok τ10 := by rw [hτ10]; exact (ok_q_send 0 (30 : Int32) (g_power (7 : Int64) (τ6.2 13 0)) (0 : Int64) (0 : Int64) (0 : Int64) (by omega) (mk_sl (mk_si (mk_si (mk_si (mk_sl (mk_sl (mk_sl okτ6))) (by decide)) (by decide)) (by decide))))
                exact W.vret hx hb hr (fun t ht_ hW => ⟨⟨τ10, rfl, (by subst hτ10; subst hτ6; exact ((if_pos c1).trans ((if_neg c2).trans ((if_neg c8).trans ((if_neg c9).trans ((if_neg c10).trans ((if_neg c11).trans ((if_pos c12)))))))).symm), by rw [sm_B, ht_]; exact hP⟩, hS.F ht_⟩) hS.2.2 d_M_initTaken_270
            · skip
              refine lv_aload_n hx hb d_M_initTaken_216 rfl (lv_at hl 2 rfl) ?_
              refine lv_iload_n hx hb d_M_initTaken_217 rfl (lv_at hl 3 rfl) ?_
              refine lv_ldc2 hx hb hown (ht _ xw1132) d_M_initTaken_218 ?_
              refine sm_cv (va_runV (As := [.int (nI e1), .long (3 : Int64)]) (rest := []) ⟨hx, hb, hml, hown, hts⟩ (c_M_fail l D α κ hα (xb_si (xb_si (xb_sl (xb_sl (xb_sl τ6 12 ((6 * e1) + (3 * (1 - e1))) x2) 12 (((6 * e1) + (3 * (1 - e1))) + 1) x3) 12 (((6 * e1) + (3 * (1 - e1))) + 2) x4) 15 e1 (g_common ((xb_sl (xb_sl (xb_sl τ6 12 ((6 * e1) + (3 * (1 - e1))) x2) 12 (((6 * e1) + (3 * (1 - e1))) + 1) x3) 12 (((6 * e1) + (3 * (1 - e1))) + 2) x4).2 12 ((6 * e1) + 1)) ((xb_sl (xb_sl (xb_sl τ6 12 ((6 * e1) + (3 * (1 - e1))) x2) 12 (((6 * e1) + (3 * (1 - e1))) + 1) x3) 12 (((6 * e1) + (3 * (1 - e1))) + 2) x4).2 12 ((6 * e1) + 4)))) 16 e1 (g_common ((xb_sl (xb_sl (xb_sl τ6 12 ((6 * e1) + (3 * (1 - e1))) x2) 12 (((6 * e1) + (3 * (1 - e1))) + 1) x3) 12 (((6 * e1) + (3 * (1 - e1))) + 2) x4).2 12 ((6 * e1) + 2)) ((xb_sl (xb_sl (xb_sl τ6 12 ((6 * e1) + (3 * (1 - e1))) x2) 12 (((6 * e1) + (3 * (1 - e1))) + 1) x3) 12 (((6 * e1) + (3 * (1 - e1))) + 2) x4).2 12 ((6 * e1) + 5)))) (nI e1) e1 (xb_lit e1 rfl) (by omega) (3 : Int64) (mk_si (mk_si (mk_sl (mk_sl (mk_sl okτ6))) (by decide)) (by decide))) (cwV 2 hts (xa_V xw1112 xw1114 xs9 xw11 xw1115) rfl rfl rfl (by decide +kernel) ⟨Nat.le_of_ble_eq_true rfl, Nat.le_of_ble_eq_true rfl⟩) ⟨sm_blind, va_recv (q0 := 0) (ci := 9) hK hP rfl rfl, sm_pre hP hK hN _⟩ rfl rfl hl.1 rfl (lv_room (Nat.le_of_ble_eq_true rfl)) d_M_initTaken_221 ⟨Nat.le_of_ble_eq_true rfl, Nat.le_of_ble_eq_true rfl⟩) hS (fun _ h_ => h_) (fun H locs hP hS => ?_)
              obtain ⟨τ11, hτ11⟩ : ∃ t_, t_ = (q_fail e1 (3 : Int64) (xb_si (xb_si (xb_sl (xb_sl (xb_sl τ6 12 ((6 * e1) + (3 * (1 - e1))) x2) 12 (((6 * e1) + (3 * (1 - e1))) + 1) x3) 12 (((6 * e1) + (3 * (1 - e1))) + 2) x4) 15 e1 (g_common ((xb_sl (xb_sl (xb_sl τ6 12 ((6 * e1) + (3 * (1 - e1))) x2) 12 (((6 * e1) + (3 * (1 - e1))) + 1) x3) 12 (((6 * e1) + (3 * (1 - e1))) + 2) x4).2 12 ((6 * e1) + 1)) ((xb_sl (xb_sl (xb_sl τ6 12 ((6 * e1) + (3 * (1 - e1))) x2) 12 (((6 * e1) + (3 * (1 - e1))) + 1) x3) 12 (((6 * e1) + (3 * (1 - e1))) + 2) x4).2 12 ((6 * e1) + 4)))) 16 e1 (g_common ((xb_sl (xb_sl (xb_sl τ6 12 ((6 * e1) + (3 * (1 - e1))) x2) 12 (((6 * e1) + (3 * (1 - e1))) + 1) x3) 12 (((6 * e1) + (3 * (1 - e1))) + 2) x4).2 12 ((6 * e1) + 2)) ((xb_sl (xb_sl (xb_sl τ6 12 ((6 * e1) + (3 * (1 - e1))) x2) 12 (((6 * e1) + (3 * (1 - e1))) + 1) x3) 12 (((6 * e1) + (3 * (1 - e1))) + 2) x4).2 12 ((6 * e1) + 5))))) := ⟨_, rfl⟩
              rw [← hτ11] at hP
              have okτ11 : sm_ok τ11 := by rw [hτ11]; exact (ok_q_fail e1 (3 : Int64) (by omega) (mk_si (mk_si (mk_sl (mk_sl (mk_sl okτ6))) (by decide)) (by decide)))
              exact W.vret hx hb hr (fun t ht_ hW => ⟨⟨τ11, rfl, (by subst hτ11; subst hτ6; exact ((if_pos c1).trans ((if_neg c2).trans ((if_neg c8).trans ((if_neg c9).trans ((if_neg c10).trans ((if_pos c11))))))).symm), by rw [sm_B, ht_]; exact hP⟩, hS.F ht_⟩) hS.2.2 d_M_initTaken_224
  · skip
    refine lv_aload_n hx hb d_M_initTaken_9 rfl (lv_at hl 0 rfl) ?_
    refine sm_g (v := .ref (α 4)) hx hb ht hown hK hP 6 (by decide) (ht _ xw958) (fun _ h_ => h_) rfl d_M_initTaken_10 ?_
    refine lv_iload_n hx hb d_M_initTaken_13 rfl (lv_at hl 1 rfl) ?_
    refine sm_gaI (L := 2) (n := e1) (v := (σ.1 4 e1)) hx hb hK hP 4 3 rfl rfl (xb_in (xb_lit e1 rfl) (by omega) (by decide)) (xb_cl (xb_lit e1 rfl) (by omega)) rfl d_M_initTaken_14 ?_
    refine lv_iconst (v := 4) hx hb d_M_initTaken_15 (by decide) ?_
    refine lv_icmp_eq (tgt := 38) hx hb d_M_initTaken_16 (by decide) (fun c13 => ?_) (fun c13 => ?_)
    · skip
      refine lv_aload_n hx hb d_M_initTaken_38 rfl (lv_at hl 0 rfl) ?_
      refine sm_g (v := .ref (α 4)) hx hb ht hown hK hP 6 (by decide) (ht _ xw958) (fun _ h_ => h_) rfl d_M_initTaken_39 ?_
      refine lv_iload_n hx hb d_M_initTaken_42 rfl (lv_at hl 1 rfl) ?_
      refine sm_gaI (L := 2) (n := e1) (v := (σ.1 4 e1)) hx hb hK hP 4 3 rfl rfl (xb_in (xb_lit e1 rfl) (by omega) (by decide)) (xb_cl (xb_lit e1 rfl) (by omega)) rfl d_M_initTaken_43 ?_
      refine lv_iconst (v := 1) hx hb d_M_initTaken_44 (by decide) ?_
      refine lv_icmp_eq (tgt := 53) hx hb d_M_initTaken_45 (by decide) (fun c14 => ?_) (fun c14 => ?_)
      · skip
        refine lv_bipush (v := 6) hx hb d_M_initTaken_53 (by decide) ?_
        refine lv_iload_n hx hb d_M_initTaken_55 rfl (lv_at hl 1 rfl) ?_
        refine lv_imul hx hb d_M_initTaken_56 ?_
        refine lv_iconst (v := 3) hx hb d_M_initTaken_57 (by decide) ?_
        refine lv_iconst (v := 1) hx hb d_M_initTaken_58 (by decide) ?_
        refine lv_iload_n hx hb d_M_initTaken_59 rfl (lv_at hl 1 rfl) ?_
        refine lv_isub hx hb d_M_initTaken_60 ?_
        refine lv_imul hx hb d_M_initTaken_61 ?_
        refine lv_iadd hx hb d_M_initTaken_62 ?_
        refine lv_istore (lv' := [(8, .int (((6 : Int32) * (nI e1)) + ((3 : Int32) * ((1 : Int32) - (nI e1))))), (0, .ref (α 0)), (1, .int (nI e1)), (2, .long x2), (4, .long x3), (6, .long x4)]) hx hb d_M_initTaken_63 hl (by decide) rfl (fun ls hl => ?_)
        refine lv_aload_n hx hb d_M_initTaken_65 rfl (lv_at hl 1 rfl) ?_
        refine sm_g (v := .ref (α 12)) hx hb ht hown hK hP 14 (by decide) (ht _ xw966) (fun _ h_ => h_) rfl d_M_initTaken_66 ?_
        refine lv_iload hx hb d_M_initTaken_69 (lv_at hl 0 rfl) ?_
        refine lv_lload_n hx hb d_M_initTaken_71 rfl (lv_at hl 3 rfl) ?_
        refine sm_paJ (L := 12) (n := ((6 * e1) + (3 * (1 - e1)))) (x := x2) hx hb hK hP 12 11 rfl rfl hD hS (xb_in (xb_na (xb_nm (xb_lit (x := (6 : Int32)) 6 rfl) (xb_lit e1 rfl)) (xb_nm (xb_lit (x := (3 : Int32)) 3 rfl) (xb_ns (xb_lit (x := (1 : Int32)) 1 rfl) (xb_lit e1 rfl) (by omega)))) (by omega) (by decide)) (xb_cl (xb_na (xb_nm (xb_lit (x := (6 : Int32)) 6 rfl) (xb_lit e1 rfl)) (xb_nm (xb_lit (x := (3 : Int32)) 3 rfl) (xb_ns (xb_lit (x := (1 : Int32)) 1 rfl) (xb_lit e1 rfl) (by omega)))) (by omega)) sm_s_12 d_M_initTaken_72 (fun H locs hP hS => ?_)
        refine lv_aload_n hx hb d_M_initTaken_73 rfl (lv_at hl 1 rfl) ?_
        refine sm_g (v := .ref (α 12)) hx hb ht hown hK hP 14 (by decide) (ht _ xw966) (fun _ h_ => h_) rfl d_M_initTaken_74 ?_
        refine lv_iload hx hb d_M_initTaken_77 (lv_at hl 0 rfl) ?_
        refine lv_iconst (v := 1) hx hb d_M_initTaken_79 (by decide) ?_
        refine lv_iadd hx hb d_M_initTaken_80 ?_
        refine lv_lload hx hb d_M_initTaken_81 (lv_at hl 4 rfl) ?_
        refine sm_paJ (L := 12) (n := (((6 * e1) + (3 * (1 - e1))) + 1)) (x := x3) hx hb hK hP 12 11 rfl rfl hD hS (xb_in (xb_na (xb_na (xb_nm (xb_lit (x := (6 : Int32)) 6 rfl) (xb_lit e1 rfl)) (xb_nm (xb_lit (x := (3 : Int32)) 3 rfl) (xb_ns (xb_lit (x := (1 : Int32)) 1 rfl) (xb_lit e1 rfl) (by omega)))) (xb_lit (x := (1 : Int32)) 1 rfl)) (by omega) (by decide)) (xb_cl (xb_na (xb_na (xb_nm (xb_lit (x := (6 : Int32)) 6 rfl) (xb_lit e1 rfl)) (xb_nm (xb_lit (x := (3 : Int32)) 3 rfl) (xb_ns (xb_lit (x := (1 : Int32)) 1 rfl) (xb_lit e1 rfl) (by omega)))) (xb_lit (x := (1 : Int32)) 1 rfl)) (by omega)) sm_s_12 d_M_initTaken_83 (fun H locs hP hS => ?_)
        refine lv_aload_n hx hb d_M_initTaken_84 rfl (lv_at hl 1 rfl) ?_
        refine sm_g (v := .ref (α 12)) hx hb ht hown hK hP 14 (by decide) (ht _ xw966) (fun _ h_ => h_) rfl d_M_initTaken_85 ?_
        refine lv_iload hx hb d_M_initTaken_88 (lv_at hl 0 rfl) ?_
        refine lv_iconst (v := 2) hx hb d_M_initTaken_90 (by decide) ?_
        refine lv_iadd hx hb d_M_initTaken_91 ?_
        refine lv_lload hx hb d_M_initTaken_92 (lv_at hl 5 rfl) ?_
        refine sm_paJ (L := 12) (n := (((6 * e1) + (3 * (1 - e1))) + 2)) (x := x4) hx hb hK hP 12 11 rfl rfl hD hS (xb_in (xb_na (xb_na (xb_nm (xb_lit (x := (6 : Int32)) 6 rfl) (xb_lit e1 rfl)) (xb_nm (xb_lit (x := (3 : Int32)) 3 rfl) (xb_ns (xb_lit (x := (1 : Int32)) 1 rfl) (xb_lit e1 rfl) (by omega)))) (xb_lit (x := (2 : Int32)) 2 rfl)) (by omega) (by decide)) (xb_cl (xb_na (xb_na (xb_nm (xb_lit (x := (6 : Int32)) 6 rfl) (xb_lit e1 rfl)) (xb_nm (xb_lit (x := (3 : Int32)) 3 rfl) (xb_ns (xb_lit (x := (1 : Int32)) 1 rfl) (xb_lit e1 rfl) (by omega)))) (xb_lit (x := (2 : Int32)) 2 rfl)) (by omega)) sm_s_12 d_M_initTaken_94 (fun H locs hP hS => ?_)
        refine lv_lload hx hb d_M_initTaken_95 (lv_at hl 4 rfl) ?_
        refine vp_callSi (W.runS (As := [.long x3]) (rest := []) ⟨hx, hb, hml, hown, hts⟩ (c_M_isList l x3) (cwS 1 hts (xa_S xw1125 xw1126 xw11 xw1127) rfl rfl rfl (by decide +kernel) ⟨Nat.le_of_ble_eq_true rfl, Nat.le_of_ble_eq_true rfl⟩) preEq rfl rfl hl.1 rfl (lv_room (Nat.le_of_ble_eq_true rfl)) d_M_initTaken_97 ⟨Nat.le_of_ble_eq_true rfl, Nat.le_of_ble_eq_true rfl⟩) (fun r_ e_ => ?_)
        subst e_
        refine lv_if_eq (tgt := 115) hx hb d_M_initTaken_100 (by decide) (fun c15 => ?_) (fun c15 => ?_)
        · skip
          refine lv_iconst (v := 0) hx hb d_M_initTaken_115 (by decide) ?_
          refine lv_istore (lv' := [(9, .int (0 : Int32)), (8, .int (((6 : Int32) * (nI e1)) + ((3 : Int32) * ((1 : Int32) - (nI e1))))), (0, .ref (α 0)), (1, .int (nI e1)), (2, .long x2), (4, .long x3), (6, .long x4)]) hx hb d_M_initTaken_116 hl (by decide) rfl (fun ls hl => ?_)
          refine lv_aload_n hx hb d_M_initTaken_118 rfl (lv_at hl 2 rfl) ?_
          refine sm_g (v := .ref (α 15)) hx hb ht hown hK hP 17 (by decide) (ht _ xw969) (fun _ h_ => h_) rfl d_M_initTaken_119 ?_
          refine lv_iload_n hx hb d_M_initTaken_122 rfl (lv_at hl 3 rfl) ?_
          refine lv_iload hx hb d_M_initTaken_123 (lv_at hl 0 rfl) ?_
          refine lv_if_eq (tgt := 156) hx hb d_M_initTaken_125 (by decide) (fun _ => ?_) (fun h_ => absurd h_ (by decide))
          refine lv_iconst (v := 0) hx hb d_M_initTaken_156 (by decide) ?_
          refine sm_paI (L := 2) (n := e1) (x := (0 : Int32)) hx hb hK hP 15 14 rfl rfl hD hS (xb_in (xb_lit e1 rfl) (by omega) (by decide)) (xb_cl (xb_lit e1 rfl) (by omega)) sm_s_15 d_M_initTaken_157 (fun H locs hP hS => ?_)
          refine lv_aload_n hx hb d_M_initTaken_158 rfl (lv_at hl 2 rfl) ?_
          refine sm_g (v := .ref (α 16)) hx hb ht hown hK hP 18 (by decide) (ht _ xw970) (fun _ h_ => h_) rfl d_M_initTaken_159 ?_
          refine lv_iload_n hx hb d_M_initTaken_162 rfl (lv_at hl 3 rfl) ?_
          refine lv_iload hx hb d_M_initTaken_163 (lv_at hl 0 rfl) ?_
          refine lv_if_eq (tgt := 196) hx hb d_M_initTaken_165 (by decide) (fun _ => ?_) (fun h_ => absurd h_ (by decide))
          refine lv_iconst (v := 0) hx hb d_M_initTaken_196 (by decide) ?_
          refine sm_paI (L := 2) (n := e1) (x := (0 : Int32)) hx hb hK hP 16 15 rfl rfl hD hS (xb_in (xb_lit e1 rfl) (by omega) (by decide)) (xb_cl (xb_lit e1 rfl) (by omega)) sm_s_16 d_M_initTaken_197 (fun H locs hP hS => ?_)
          refine lv_aload_n hx hb d_M_initTaken_198 rfl (lv_at hl 2 rfl) ?_
          refine sm_g (v := .ref (α 15)) hx hb ht hown hK hP 17 (by decide) (ht _ xw969) (fun _ h_ => h_) rfl d_M_initTaken_199 ?_
          refine lv_iload_n hx hb d_M_initTaken_202 rfl (lv_at hl 3 rfl) ?_
          refine sm_gaI (L := 2) (n := e1) (v := (0 : Int32)) hx hb hK hP 15 14 rfl rfl (xb_in (xb_lit e1 rfl) (by omega) (by decide)) (xb_cl (xb_lit e1 rfl) (by omega)) (((xb_i_nk (by decide))).trans (xb_i_hit)) d_M_initTaken_203 ?_
          refine lv_if_eq (tgt := 216) hx hb d_M_initTaken_204 (by decide) (fun _ => ?_) (fun h_ => absurd h_ (by decide))
          refine lv_aload_n hx hb d_M_initTaken_216 rfl (lv_at hl 2 rfl) ?_
          refine lv_iload_n hx hb d_M_initTaken_217 rfl (lv_at hl 3 rfl) ?_
          refine lv_ldc2 hx hb hown (ht _ xw1132) d_M_initTaken_218 ?_
          refine sm_cv (va_runV (As := [.int (nI e1), .long (3 : Int64)]) (rest := []) ⟨hx, hb, hml, hown, hts⟩ (c_M_fail l D α κ hα (xb_si (xb_si (xb_sl (xb_sl (xb_sl σ 12 ((6 * e1) + (3 * (1 - e1))) x2) 12 (((6 * e1) + (3 * (1 - e1))) + 1) x3) 12 (((6 * e1) + (3 * (1 - e1))) + 2) x4) 15 e1 (0 : Int32)) 16 e1 (0 : Int32)) (nI e1) e1 (xb_lit e1 rfl) (by omega) (3 : Int64) (mk_si (mk_si (mk_sl (mk_sl (mk_sl ok))) (by decide)) (by decide))) (cwV 2 hts (xa_V xw1112 xw1114 xs9 xw11 xw1115) rfl rfl rfl (by decide +kernel) ⟨Nat.le_of_ble_eq_true rfl, Nat.le_of_ble_eq_true rfl⟩) ⟨sm_blind, va_recv (q0 := 0) (ci := 9) hK hP rfl rfl, sm_pre hP hK hN _⟩ rfl rfl hl.1 rfl (lv_room (Nat.le_of_ble_eq_true rfl)) d_M_initTaken_221 ⟨Nat.le_of_ble_eq_true rfl, Nat.le_of_ble_eq_true rfl⟩) hS (fun _ h_ => h_) (fun H locs hP hS => ?_)
          obtain ⟨τ12, hτ12⟩ : ∃ t_, t_ = (q_fail e1 (3 : Int64) (xb_si (xb_si (xb_sl (xb_sl (xb_sl σ 12 ((6 * e1) + (3 * (1 - e1))) x2) 12 (((6 * e1) + (3 * (1 - e1))) + 1) x3) 12 (((6 * e1) + (3 * (1 - e1))) + 2) x4) 15 e1 (0 : Int32)) 16 e1 (0 : Int32))) := ⟨_, rfl⟩
          rw [← hτ12] at hP
          have okτ12 : sm_ok τ12 := by rw [hτ12]; exact (ok_q_fail e1 (3 : Int64) (by omega) (mk_si (mk_si (mk_sl (mk_sl (mk_sl ok))) (by decide)) (by decide)))
          exact W.vret hx hb hr (fun t ht_ hW => ⟨⟨τ12, rfl, (by subst hτ12; exact ((if_neg c1).trans ((if_pos c13).trans ((if_pos c14).trans ((if_pos c15))))).symm), by rw [sm_B, ht_]; exact hP⟩, hS.F ht_⟩) hS.2.2 d_M_initTaken_224
        · skip
          refine lv_lload hx hb d_M_initTaken_103 (lv_at hl 5 rfl) ?_
          refine vp_callSi (W.runS (As := [.long x4]) (rest := []) ⟨hx, hb, hml, hown, hts⟩ (c_M_isList l x4) (cwS 1 hts (xa_S xw1125 xw1126 xw11 xw1127) rfl rfl rfl (by decide +kernel) ⟨Nat.le_of_ble_eq_true rfl, Nat.le_of_ble_eq_true rfl⟩) preEq rfl rfl hl.1 rfl (lv_room (Nat.le_of_ble_eq_true rfl)) d_M_initTaken_105 ⟨Nat.le_of_ble_eq_true rfl, Nat.le_of_ble_eq_true rfl⟩) (fun r_ e_ => ?_)
          subst e_
          refine lv_if_eq (tgt := 115) hx hb d_M_initTaken_108 (by decide) (fun c16 => ?_) (fun c16 => ?_)
          · skip
            refine lv_iconst (v := 0) hx hb d_M_initTaken_115 (by decide) ?_
            refine lv_istore (lv' := [(9, .int (0 : Int32)), (8, .int (((6 : Int32) * (nI e1)) + ((3 : Int32) * ((1 : Int32) - (nI e1))))), (0, .ref (α 0)), (1, .int (nI e1)), (2, .long x2), (4, .long x3), (6, .long x4)]) hx hb d_M_initTaken_116 hl (by decide) rfl (fun ls hl => ?_)
            refine lv_aload_n hx hb d_M_initTaken_118 rfl (lv_at hl 2 rfl) ?_
            refine sm_g (v := .ref (α 15)) hx hb ht hown hK hP 17 (by decide) (ht _ xw969) (fun _ h_ => h_) rfl d_M_initTaken_119 ?_
            refine lv_iload_n hx hb d_M_initTaken_122 rfl (lv_at hl 3 rfl) ?_
            refine lv_iload hx hb d_M_initTaken_123 (lv_at hl 0 rfl) ?_
            refine lv_if_eq (tgt := 156) hx hb d_M_initTaken_125 (by decide) (fun _ => ?_) (fun h_ => absurd h_ (by decide))
            refine lv_iconst (v := 0) hx hb d_M_initTaken_156 (by decide) ?_
            refine sm_paI (L := 2) (n := e1) (x := (0 : Int32)) hx hb hK hP 15 14 rfl rfl hD hS (xb_in (xb_lit e1 rfl) (by omega) (by decide)) (xb_cl (xb_lit e1 rfl) (by omega)) sm_s_15 d_M_initTaken_157 (fun H locs hP hS => ?_)
            refine lv_aload_n hx hb d_M_initTaken_158 rfl (lv_at hl 2 rfl) ?_
            refine sm_g (v := .ref (α 16)) hx hb ht hown hK hP 18 (by decide) (ht _ xw970) (fun _ h_ => h_) rfl d_M_initTaken_159 ?_
            refine lv_iload_n hx hb d_M_initTaken_162 rfl (lv_at hl 3 rfl) ?_
            refine lv_iload hx hb d_M_initTaken_163 (lv_at hl 0 rfl) ?_
            refine lv_if_eq (tgt := 196) hx hb d_M_initTaken_165 (by decide) (fun _ => ?_) (fun h_ => absurd h_ (by decide))
            refine lv_iconst (v := 0) hx hb d_M_initTaken_196 (by decide) ?_
            refine sm_paI (L := 2) (n := e1) (x := (0 : Int32)) hx hb hK hP 16 15 rfl rfl hD hS (xb_in (xb_lit e1 rfl) (by omega) (by decide)) (xb_cl (xb_lit e1 rfl) (by omega)) sm_s_16 d_M_initTaken_197 (fun H locs hP hS => ?_)
            refine lv_aload_n hx hb d_M_initTaken_198 rfl (lv_at hl 2 rfl) ?_
            refine sm_g (v := .ref (α 15)) hx hb ht hown hK hP 17 (by decide) (ht _ xw969) (fun _ h_ => h_) rfl d_M_initTaken_199 ?_
            refine lv_iload_n hx hb d_M_initTaken_202 rfl (lv_at hl 3 rfl) ?_
            refine sm_gaI (L := 2) (n := e1) (v := (0 : Int32)) hx hb hK hP 15 14 rfl rfl (xb_in (xb_lit e1 rfl) (by omega) (by decide)) (xb_cl (xb_lit e1 rfl) (by omega)) (((xb_i_nk (by decide))).trans (xb_i_hit)) d_M_initTaken_203 ?_
            refine lv_if_eq (tgt := 216) hx hb d_M_initTaken_204 (by decide) (fun _ => ?_) (fun h_ => absurd h_ (by decide))
            refine lv_aload_n hx hb d_M_initTaken_216 rfl (lv_at hl 2 rfl) ?_
            refine lv_iload_n hx hb d_M_initTaken_217 rfl (lv_at hl 3 rfl) ?_
            refine lv_ldc2 hx hb hown (ht _ xw1132) d_M_initTaken_218 ?_
            refine sm_cv (va_runV (As := [.int (nI e1), .long (3 : Int64)]) (rest := []) ⟨hx, hb, hml, hown, hts⟩ (c_M_fail l D α κ hα (xb_si (xb_si (xb_sl (xb_sl (xb_sl σ 12 ((6 * e1) + (3 * (1 - e1))) x2) 12 (((6 * e1) + (3 * (1 - e1))) + 1) x3) 12 (((6 * e1) + (3 * (1 - e1))) + 2) x4) 15 e1 (0 : Int32)) 16 e1 (0 : Int32)) (nI e1) e1 (xb_lit e1 rfl) (by omega) (3 : Int64) (mk_si (mk_si (mk_sl (mk_sl (mk_sl ok))) (by decide)) (by decide))) (cwV 2 hts (xa_V xw1112 xw1114 xs9 xw11 xw1115) rfl rfl rfl (by decide +kernel) ⟨Nat.le_of_ble_eq_true rfl, Nat.le_of_ble_eq_true rfl⟩) ⟨sm_blind, va_recv (q0 := 0) (ci := 9) hK hP rfl rfl, sm_pre hP hK hN _⟩ rfl rfl hl.1 rfl (lv_room (Nat.le_of_ble_eq_true rfl)) d_M_initTaken_221 ⟨Nat.le_of_ble_eq_true rfl, Nat.le_of_ble_eq_true rfl⟩) hS (fun _ h_ => h_) (fun H locs hP hS => ?_)
            obtain ⟨τ13, hτ13⟩ : ∃ t_, t_ = (q_fail e1 (3 : Int64) (xb_si (xb_si (xb_sl (xb_sl (xb_sl σ 12 ((6 * e1) + (3 * (1 - e1))) x2) 12 (((6 * e1) + (3 * (1 - e1))) + 1) x3) 12 (((6 * e1) + (3 * (1 - e1))) + 2) x4) 15 e1 (0 : Int32)) 16 e1 (0 : Int32))) := ⟨_, rfl⟩
            rw [← hτ13] at hP
            have okτ13 : sm_ok τ13 := by rw [hτ13]; exact (ok_q_fail e1 (3 : Int64) (by omega) (mk_si (mk_si (mk_sl (mk_sl (mk_sl ok))) (by decide)) (by decide)))
            exact W.vret hx hb hr (fun t ht_ hW => ⟨⟨τ13, rfl, (by subst hτ13; exact ((if_neg c1).trans ((if_pos c13).trans ((if_pos c14).trans ((if_neg c15).trans ((if_pos c16)))))).symm), by rw [sm_B, ht_]; exact hP⟩, hS.F ht_⟩) hS.2.2 d_M_initTaken_224
          · skip
            refine lv_iconst (v := 1) hx hb d_M_initTaken_111 (by decide) ?_
            refine lv_goto (tgt := 116) hx hb d_M_initTaken_112 (by decide) ?_
            refine lv_istore (lv' := [(9, .int (1 : Int32)), (8, .int (((6 : Int32) * (nI e1)) + ((3 : Int32) * ((1 : Int32) - (nI e1))))), (0, .ref (α 0)), (1, .int (nI e1)), (2, .long x2), (4, .long x3), (6, .long x4)]) hx hb d_M_initTaken_116 hl (by decide) rfl (fun ls hl => ?_)
            refine lv_aload_n hx hb d_M_initTaken_118 rfl (lv_at hl 2 rfl) ?_
            refine sm_g (v := .ref (α 15)) hx hb ht hown hK hP 17 (by decide) (ht _ xw969) (fun _ h_ => h_) rfl d_M_initTaken_119 ?_
            refine lv_iload_n hx hb d_M_initTaken_122 rfl (lv_at hl 3 rfl) ?_
            refine lv_iload hx hb d_M_initTaken_123 (lv_at hl 0 rfl) ?_
            refine lv_if_eq (tgt := 156) hx hb d_M_initTaken_125 (by decide) (fun h_ => absurd h_ (by decide)) (fun _ => ?_)
            refine lv_aload_n hx hb d_M_initTaken_128 rfl (lv_at hl 2 rfl) ?_
            refine sm_g (v := .ref (α 12)) hx hb ht hown hK hP 14 (by decide) (ht _ xw966) (fun _ h_ => h_) rfl d_M_initTaken_129 ?_
            refine lv_bipush (v := 6) hx hb d_M_initTaken_132 (by decide) ?_
            refine lv_iload_n hx hb d_M_initTaken_134 rfl (lv_at hl 3 rfl) ?_
            refine lv_imul hx hb d_M_initTaken_135 ?_
            refine lv_iconst (v := 1) hx hb d_M_initTaken_136 (by decide) ?_
            refine lv_iadd hx hb d_M_initTaken_137 ?_
            refine sm_gaJ (L := 12) (n := ((6 * e1) + 1)) (v := ((xb_sl (xb_sl (xb_sl σ 12 ((6 * e1) + (3 * (1 - e1))) x2) 12 (((6 * e1) + (3 * (1 - e1))) + 1) x3) 12 (((6 * e1) + (3 * (1 - e1))) + 2) x4).2 12 ((6 * e1) + 1))) hx hb hK hP 12 11 rfl rfl (xb_in (xb_na (xb_nm (xb_lit (x := (6 : Int32)) 6 rfl) (xb_lit e1 rfl)) (xb_lit (x := (1 : Int32)) 1 rfl)) (by omega) (by decide)) (xb_cl (xb_na (xb_nm (xb_lit (x := (6 : Int32)) 6 rfl) (xb_lit e1 rfl)) (xb_lit (x := (1 : Int32)) 1 rfl)) (by omega)) rfl d_M_initTaken_138 ?_
            refine lv_aload_n hx hb d_M_initTaken_139 rfl (lv_at hl 2 rfl) ?_
            refine sm_g (v := .ref (α 12)) hx hb ht hown hK hP 14 (by decide) (ht _ xw966) (fun _ h_ => h_) rfl d_M_initTaken_140 ?_
            refine lv_bipush (v := 6) hx hb d_M_initTaken_143 (by decide) ?_
            refine lv_iload_n hx hb d_M_initTaken_145 rfl (lv_at hl 3 rfl) ?_
            refine lv_imul hx hb d_M_initTaken_146 ?_
            refine lv_iconst (v := 4) hx hb d_M_initTaken_147 (by decide) ?_
            refine lv_iadd hx hb d_M_initTaken_148 ?_
            refine sm_gaJ (L := 12) (n := ((6 * e1) + 4)) (v := ((xb_sl (xb_sl (xb_sl σ 12 ((6 * e1) + (3 * (1 - e1))) x2) 12 (((6 * e1) + (3 * (1 - e1))) + 1) x3) 12 (((6 * e1) + (3 * (1 - e1))) + 2) x4).2 12 ((6 * e1) + 4))) hx hb hK hP 12 11 rfl rfl (xb_in (xb_na (xb_nm (xb_lit (x := (6 : Int32)) 6 rfl) (xb_lit e1 rfl)) (xb_lit (x := (4 : Int32)) 4 rfl)) (by omega) (by decide)) (xb_cl (xb_na (xb_nm (xb_lit (x := (6 : Int32)) 6 rfl) (xb_lit e1 rfl)) (xb_lit (x := (4 : Int32)) 4 rfl)) (by omega)) rfl d_M_initTaken_149 ?_
            refine vp_callSi (W.runS (As := [.long ((xb_sl (xb_sl (xb_sl σ 12 ((6 * e1) + (3 * (1 - e1))) x2) 12 (((6 * e1) + (3 * (1 - e1))) + 1) x3) 12 (((6 * e1) + (3 * (1 - e1))) + 2) x4).2 12 ((6 * e1) + 1)), .long ((xb_sl (xb_sl (xb_sl σ 12 ((6 * e1) + (3 * (1 - e1))) x2) 12 (((6 * e1) + (3 * (1 - e1))) + 1) x3) 12 (((6 * e1) + (3 * (1 - e1))) + 2) x4).2 12 ((6 * e1) + 4))]) (rest := [.int (nI e1), .ref (α 15)]) ⟨hx, hb, hml, hown, hts⟩ (c_M_common l ((xb_sl (xb_sl (xb_sl σ 12 ((6 * e1) + (3 * (1 - e1))) x2) 12 (((6 * e1) + (3 * (1 - e1))) + 1) x3) 12 (((6 * e1) + (3 * (1 - e1))) + 2) x4).2 12 ((6 * e1) + 1)) ((xb_sl (xb_sl (xb_sl σ 12 ((6 * e1) + (3 * (1 - e1))) x2) 12 (((6 * e1) + (3 * (1 - e1))) + 1) x3) 12 (((6 * e1) + (3 * (1 - e1))) + 2) x4).2 12 ((6 * e1) + 4))) (cwS 2 hts (xa_S xw1129 xw1130 xw11 xw1131) rfl rfl rfl (by decide +kernel) ⟨Nat.le_of_ble_eq_true rfl, Nat.le_of_ble_eq_true rfl⟩) preEq rfl rfl hl.1 rfl (lv_room (Nat.le_of_ble_eq_true rfl)) d_M_initTaken_150 ⟨Nat.le_of_ble_eq_true rfl, Nat.le_of_ble_eq_true rfl⟩) (fun r_ e_ => ?_)
            subst e_
            refine lv_goto (tgt := 157) hx hb d_M_initTaken_153 (by decide) ?_
            refine sm_paI (L := 2) (n := e1) (x := (g_common ((xb_sl (xb_sl (xb_sl σ 12 ((6 * e1) + (3 * (1 - e1))) x2) 12 (((6 * e1) + (3 * (1 - e1))) + 1) x3) 12 (((6 * e1) + (3 * (1 - e1))) + 2) x4).2 12 ((6 * e1) + 1)) ((xb_sl (xb_sl (xb_sl σ 12 ((6 * e1) + (3 * (1 - e1))) x2) 12 (((6 * e1) + (3 * (1 - e1))) + 1) x3) 12 (((6 * e1) + (3 * (1 - e1))) + 2) x4).2 12 ((6 * e1) + 4)))) hx hb hK hP 15 14 rfl rfl hD hS (xb_in (xb_lit e1 rfl) (by omega) (by decide)) (xb_cl (xb_lit e1 rfl) (by omega)) sm_s_15 d_M_initTaken_157 (fun H locs hP hS => ?_)
            refine lv_aload_n hx hb d_M_initTaken_158 rfl (lv_at hl 2 rfl) ?_
            refine sm_g (v := .ref (α 16)) hx hb ht hown hK hP 18 (by decide) (ht _ xw970) (fun _ h_ => h_) rfl d_M_initTaken_159 ?_
            refine lv_iload_n hx hb d_M_initTaken_162 rfl (lv_at hl 3 rfl) ?_
            refine lv_iload hx hb d_M_initTaken_163 (lv_at hl 0 rfl) ?_
            refine lv_if_eq (tgt := 196) hx hb d_M_initTaken_165 (by decide) (fun h_ => absurd h_ (by decide)) (fun _ => ?_)
            refine lv_aload_n hx hb d_M_initTaken_168 rfl (lv_at hl 2 rfl) ?_
            refine sm_g (v := .ref (α 12)) hx hb ht hown hK hP 14 (by decide) (ht _ xw966) (fun _ h_ => h_) rfl d_M_initTaken_169 ?_
            refine lv_bipush (v := 6) hx hb d_M_initTaken_172 (by decide) ?_
            refine lv_iload_n hx hb d_M_initTaken_174 rfl (lv_at hl 3 rfl) ?_
            refine lv_imul hx hb d_M_initTaken_175 ?_
            refine lv_iconst (v := 2) hx hb d_M_initTaken_176 (by decide) ?_
            refine lv_iadd hx hb d_M_initTaken_177 ?_
            refine sm_gaJ (L := 12) (n := ((6 * e1) + 2)) (v := ((xb_sl (xb_sl (xb_sl σ 12 ((6 * e1) + (3 * (1 - e1))) x2) 12 (((6 * e1) + (3 * (1 - e1))) + 1) x3) 12 (((6 * e1) + (3 * (1 - e1))) + 2) x4).2 12 ((6 * e1) + 2))) hx hb hK hP 12 11 rfl rfl (xb_in (xb_na (xb_nm (xb_lit (x := (6 : Int32)) 6 rfl) (xb_lit e1 rfl)) (xb_lit (x := (2 : Int32)) 2 rfl)) (by omega) (by decide)) (xb_cl (xb_na (xb_nm (xb_lit (x := (6 : Int32)) 6 rfl) (xb_lit e1 rfl)) (xb_lit (x := (2 : Int32)) 2 rfl)) (by omega)) xb_l_i d_M_initTaken_178 ?_
            refine lv_aload_n hx hb d_M_initTaken_179 rfl (lv_at hl 2 rfl) ?_
            refine sm_g (v := .ref (α 12)) hx hb ht hown hK hP 14 (by decide) (ht _ xw966) (fun _ h_ => h_) rfl d_M_initTaken_180 ?_
            refine lv_bipush (v := 6) hx hb d_M_initTaken_183 (by decide) ?_
            refine lv_iload_n hx hb d_M_initTaken_185 rfl (lv_at hl 3 rfl) ?_
            refine lv_imul hx hb d_M_initTaken_186 ?_
            refine lv_iconst (v := 5) hx hb d_M_initTaken_187 (by decide) ?_
            refine lv_iadd hx hb d_M_initTaken_188 ?_
            refine sm_gaJ (L := 12) (n := ((6 * e1) + 5)) (v := ((xb_sl (xb_sl (xb_sl σ 12 ((6 * e1) + (3 * (1 - e1))) x2) 12 (((6 * e1) + (3 * (1 - e1))) + 1) x3) 12 (((6 * e1) + (3 * (1 - e1))) + 2) x4).2 12 ((6 * e1) + 5))) hx hb hK hP 12 11 rfl rfl (xb_in (xb_na (xb_nm (xb_lit (x := (6 : Int32)) 6 rfl) (xb_lit e1 rfl)) (xb_lit (x := (5 : Int32)) 5 rfl)) (by omega) (by decide)) (xb_cl (xb_na (xb_nm (xb_lit (x := (6 : Int32)) 6 rfl) (xb_lit e1 rfl)) (xb_lit (x := (5 : Int32)) 5 rfl)) (by omega)) xb_l_i d_M_initTaken_189 ?_
            refine vp_callSi (W.runS (As := [.long ((xb_sl (xb_sl (xb_sl σ 12 ((6 * e1) + (3 * (1 - e1))) x2) 12 (((6 * e1) + (3 * (1 - e1))) + 1) x3) 12 (((6 * e1) + (3 * (1 - e1))) + 2) x4).2 12 ((6 * e1) + 2)), .long ((xb_sl (xb_sl (xb_sl σ 12 ((6 * e1) + (3 * (1 - e1))) x2) 12 (((6 * e1) + (3 * (1 - e1))) + 1) x3) 12 (((6 * e1) + (3 * (1 - e1))) + 2) x4).2 12 ((6 * e1) + 5))]) (rest := [.int (nI e1), .ref (α 16)]) ⟨hx, hb, hml, hown, hts⟩ (c_M_common l ((xb_sl (xb_sl (xb_sl σ 12 ((6 * e1) + (3 * (1 - e1))) x2) 12 (((6 * e1) + (3 * (1 - e1))) + 1) x3) 12 (((6 * e1) + (3 * (1 - e1))) + 2) x4).2 12 ((6 * e1) + 2)) ((xb_sl (xb_sl (xb_sl σ 12 ((6 * e1) + (3 * (1 - e1))) x2) 12 (((6 * e1) + (3 * (1 - e1))) + 1) x3) 12 (((6 * e1) + (3 * (1 - e1))) + 2) x4).2 12 ((6 * e1) + 5))) (cwS 2 hts (xa_S xw1129 xw1130 xw11 xw1131) rfl rfl rfl (by decide +kernel) ⟨Nat.le_of_ble_eq_true rfl, Nat.le_of_ble_eq_true rfl⟩) preEq rfl rfl hl.1 rfl (lv_room (Nat.le_of_ble_eq_true rfl)) d_M_initTaken_190 ⟨Nat.le_of_ble_eq_true rfl, Nat.le_of_ble_eq_true rfl⟩) (fun r_ e_ => ?_)
            subst e_
            refine lv_goto (tgt := 197) hx hb d_M_initTaken_193 (by decide) ?_
            refine sm_paI (L := 2) (n := e1) (x := (g_common ((xb_sl (xb_sl (xb_sl σ 12 ((6 * e1) + (3 * (1 - e1))) x2) 12 (((6 * e1) + (3 * (1 - e1))) + 1) x3) 12 (((6 * e1) + (3 * (1 - e1))) + 2) x4).2 12 ((6 * e1) + 2)) ((xb_sl (xb_sl (xb_sl σ 12 ((6 * e1) + (3 * (1 - e1))) x2) 12 (((6 * e1) + (3 * (1 - e1))) + 1) x3) 12 (((6 * e1) + (3 * (1 - e1))) + 2) x4).2 12 ((6 * e1) + 5)))) hx hb hK hP 16 15 rfl rfl hD hS (xb_in (xb_lit e1 rfl) (by omega) (by decide)) (xb_cl (xb_lit e1 rfl) (by omega)) sm_s_16 d_M_initTaken_197 (fun H locs hP hS => ?_)
            refine lv_aload_n hx hb d_M_initTaken_198 rfl (lv_at hl 2 rfl) ?_
            refine sm_g (v := .ref (α 15)) hx hb ht hown hK hP 17 (by decide) (ht _ xw969) (fun _ h_ => h_) rfl d_M_initTaken_199 ?_
            refine lv_iload_n hx hb d_M_initTaken_202 rfl (lv_at hl 3 rfl) ?_
            refine sm_gaI (L := 2) (n := e1) (v := (g_common ((xb_sl (xb_sl (xb_sl σ 12 ((6 * e1) + (3 * (1 - e1))) x2) 12 (((6 * e1) + (3 * (1 - e1))) + 1) x3) 12 (((6 * e1) + (3 * (1 - e1))) + 2) x4).2 12 ((6 * e1) + 1)) ((xb_sl (xb_sl (xb_sl σ 12 ((6 * e1) + (3 * (1 - e1))) x2) 12 (((6 * e1) + (3 * (1 - e1))) + 1) x3) 12 (((6 * e1) + (3 * (1 - e1))) + 2) x4).2 12 ((6 * e1) + 4)))) hx hb hK hP 15 14 rfl rfl (xb_in (xb_lit e1 rfl) (by omega) (by decide)) (xb_cl (xb_lit e1 rfl) (by omega)) (((xb_i_nk (by decide))).trans (xb_i_hit)) d_M_initTaken_203 ?_
            refine lv_if_eq (tgt := 216) hx hb d_M_initTaken_204 (by decide) (fun c17 => ?_) (fun c17 => ?_)
            · skip
              refine lv_aload_n hx hb d_M_initTaken_216 rfl (lv_at hl 2 rfl) ?_
              refine lv_iload_n hx hb d_M_initTaken_217 rfl (lv_at hl 3 rfl) ?_
              refine lv_ldc2 hx hb hown (ht _ xw1132) d_M_initTaken_218 ?_
              refine sm_cv (va_runV (As := [.int (nI e1), .long (3 : Int64)]) (rest := []) ⟨hx, hb, hml, hown, hts⟩ (c_M_fail l D α κ hα (xb_si (xb_si (xb_sl (xb_sl (xb_sl σ 12 ((6 * e1) + (3 * (1 - e1))) x2) 12 (((6 * e1) + (3 * (1 - e1))) + 1) x3) 12 (((6 * e1) + (3 * (1 - e1))) + 2) x4) 15 e1 (g_common ((xb_sl (xb_sl (xb_sl σ 12 ((6 * e1) + (3 * (1 - e1))) x2) 12 (((6 * e1) + (3 * (1 - e1))) + 1) x3) 12 (((6 * e1) + (3 * (1 - e1))) + 2) x4).2 12 ((6 * e1) + 1)) ((xb_sl (xb_sl (xb_sl σ 12 ((6 * e1) + (3 * (1 - e1))) x2) 12 (((6 * e1) + (3 * (1 - e1))) + 1) x3) 12 (((6 * e1) + (3 * (1 - e1))) + 2) x4).2 12 ((6 * e1) + 4)))) 16 e1 (g_common ((xb_sl (xb_sl (xb_sl σ 12 ((6 * e1) + (3 * (1 - e1))) x2) 12 (((6 * e1) + (3 * (1 - e1))) + 1) x3) 12 (((6 * e1) + (3 * (1 - e1))) + 2) x4).2 12 ((6 * e1) + 2)) ((xb_sl (xb_sl (xb_sl σ 12 ((6 * e1) + (3 * (1 - e1))) x2) 12 (((6 * e1) + (3 * (1 - e1))) + 1) x3) 12 (((6 * e1) + (3 * (1 - e1))) + 2) x4).2 12 ((6 * e1) + 5)))) (nI e1) e1 (xb_lit e1 rfl) (by omega) (3 : Int64) (mk_si (mk_si (mk_sl (mk_sl (mk_sl ok))) (by decide)) (by decide))) (cwV 2 hts (xa_V xw1112 xw1114 xs9 xw11 xw1115) rfl rfl rfl (by decide +kernel) ⟨Nat.le_of_ble_eq_true rfl, Nat.le_of_ble_eq_true rfl⟩) ⟨sm_blind, va_recv (q0 := 0) (ci := 9) hK hP rfl rfl, sm_pre hP hK hN _⟩ rfl rfl hl.1 rfl (lv_room (Nat.le_of_ble_eq_true rfl)) d_M_initTaken_221 ⟨Nat.le_of_ble_eq_true rfl, Nat.le_of_ble_eq_true rfl⟩) hS (fun _ h_ => h_) (fun H locs hP hS => ?_)
              obtain ⟨τ14, hτ14⟩ : ∃ t_, t_ = (q_fail e1 (3 : Int64) (xb_si (xb_si (xb_sl (xb_sl (xb_sl σ 12 ((6 * e1) + (3 * (1 - e1))) x2) 12 (((6 * e1) + (3 * (1 - e1))) + 1) x3) 12 (((6 * e1) + (3 * (1 - e1))) + 2) x4) 15 e1 (g_common ((xb_sl (xb_sl (xb_sl σ 12 ((6 * e1) + (3 * (1 - e1))) x2) 12 (((6 * e1) + (3 * (1 - e1))) + 1) x3) 12 (((6 * e1) + (3 * (1 - e1))) + 2) x4).2 12 ((6 * e1) + 1)) ((xb_sl (xb_sl (xb_sl σ 12 ((6 * e1) + (3 * (1 - e1))) x2) 12 (((6 * e1) + (3 * (1 - e1))) + 1) x3) 12 (((6 * e1) + (3 * (1 - e1))) + 2) x4).2 12 ((6 * e1) + 4)))) 16 e1 (g_common ((xb_sl (xb_sl (xb_sl σ 12 ((6 * e1) + (3 * (1 - e1))) x2) 12 (((6 * e1) + (3 * (1 - e1))) + 1) x3) 12 (((6 * e1) + (3 * (1 - e1))) + 2) x4).2 12 ((6 * e1) + 2)) ((xb_sl (xb_sl (xb_sl σ 12 ((6 * e1) + (3 * (1 - e1))) x2) 12 (((6 * e1) + (3 * (1 - e1))) + 1) x3) 12 (((6 * e1) + (3 * (1 - e1))) + 2) x4).2 12 ((6 * e1) + 5))))) := ⟨_, rfl⟩
              rw [← hτ14] at hP
              have okτ14 : sm_ok τ14 := by rw [hτ14]; exact (ok_q_fail e1 (3 : Int64) (by omega) (mk_si (mk_si (mk_sl (mk_sl (mk_sl ok))) (by decide)) (by decide)))
              exact W.vret hx hb hr (fun t ht_ hW => ⟨⟨τ14, rfl, (by subst hτ14; exact ((if_neg c1).trans ((if_pos c13).trans ((if_pos c14).trans ((if_neg c15).trans ((if_neg c16).trans ((if_pos c17))))))).symm), by rw [sm_B, ht_]; exact hP⟩, hS.F ht_⟩) hS.2.2 d_M_initTaken_224
            · skip
              refine lv_aload_n hx hb d_M_initTaken_207 rfl (lv_at hl 2 rfl) ?_
              refine sm_g (v := .ref (α 16)) hx hb ht hown hK hP 18 (by decide) (ht _ xw970) (fun _ h_ => h_) rfl d_M_initTaken_208 ?_
              refine lv_iload_n hx hb d_M_initTaken_211 rfl (lv_at hl 3 rfl) ?_
              refine sm_gaI (L := 2) (n := e1) (v := (g_common ((xb_sl (xb_sl (xb_sl σ 12 ((6 * e1) + (3 * (1 - e1))) x2) 12 (((6 * e1) + (3 * (1 - e1))) + 1) x3) 12 (((6 * e1) + (3 * (1 - e1))) + 2) x4).2 12 ((6 * e1) + 2)) ((xb_sl (xb_sl (xb_sl σ 12 ((6 * e1) + (3 * (1 - e1))) x2) 12 (((6 * e1) + (3 * (1 - e1))) + 1) x3) 12 (((6 * e1) + (3 * (1 - e1))) + 2) x4).2 12 ((6 * e1) + 5)))) hx hb hK hP 16 15 rfl rfl (xb_in (xb_lit e1 rfl) (by omega) (by decide)) (xb_cl (xb_lit e1 rfl) (by omega)) xb_i_hit d_M_initTaken_212 ?_
              refine lv_if_ne (tgt := 225) hx hb d_M_initTaken_213 (by decide) (fun c18 => ?_) (fun c18 => ?_)
              · skip
                refine lv_aload_n hx hb d_M_initTaken_225 rfl (lv_at hl 2 rfl) ?_
                refine sm_g (v := .ref (α 4)) hx hb ht hown hK hP 6 (by decide) (ht _ xw958) (fun _ h_ => h_) rfl d_M_initTaken_226 ?_
                refine lv_iload_n hx hb d_M_initTaken_229 rfl (lv_at hl 3 rfl) ?_
                refine lv_iconst (v := 2) hx hb d_M_initTaken_230 (by decide) ?_
                refine sm_paI (L := 2) (n := e1) (x := (2 : Int32)) hx hb hK hP 4 3 rfl rfl hD hS (xb_in (xb_lit e1 rfl) (by omega) (by decide)) (xb_cl (xb_lit e1 rfl) (by omega)) sm_s_4 d_M_initTaken_231 (fun H locs hP hS => ?_)
                refine lv_iload_n hx hb d_M_initTaken_232 rfl (lv_at hl 3 rfl) ?_
                refine lv_if_ne (tgt := 270) hx hb d_M_initTaken_233 (by decide) (fun c19 => ?_) (fun c19 => ?_)
                · skip
                  have nc19 := mt (xb_eqN (xb_lit e1 rfl) (xb_lit (x := (0 : Int32)) 0 rfl) (by omega) (by omega)).mpr c19
                  exact W.vret hx hb hr (fun t ht_ hW => ⟨⟨(xb_si (xb_si (xb_si (xb_sl (xb_sl (xb_sl σ 12 ((6 * e1) + (3 * (1 - e1))) x2) 12 (((6 * e1) + (3 * (1 - e1))) + 1) x3) 12 (((6 * e1) + (3 * (1 - e1))) + 2) x4) 15 e1 (g_common ((xb_sl (xb_sl (xb_sl σ 12 ((6 * e1) + (3 * (1 - e1))) x2) 12 (((6 * e1) + (3 * (1 - e1))) + 1) x3) 12 (((6 * e1) + (3 * (1 - e1))) + 2) x4).2 12 ((6 * e1) + 1)) ((xb_sl (xb_sl (xb_sl σ 12 ((6 * e1) + (3 * (1 - e1))) x2) 12 (((6 * e1) + (3 * (1 - e1))) + 1) x3) 12 (((6 * e1) + (3 * (1 - e1))) + 2) x4).2 12 ((6 * e1) + 4)))) 16 e1 (g_common ((xb_sl (xb_sl (xb_sl σ 12 ((6 * e1) + (3 * (1 - e1))) x2) 12 (((6 * e1) + (3 * (1 - e1))) + 1) x3) 12 (((6 * e1) + (3 * (1 - e1))) + 2) x4).2 12 ((6 * e1) + 2)) ((xb_sl (xb_sl (xb_sl σ 12 ((6 * e1) + (3 * (1 - e1))) x2) 12 (((6 * e1) + (3 * (1 - e1))) + 1) x3) 12 (((6 * e1) + (3 * (1 - e1))) + 2) x4).2 12 ((6 * e1) + 5)))) 4 e1 (2 : Int32)), rfl, ((if_neg c1).trans ((if_pos c13).trans ((if_pos c14).trans ((if_neg c15).trans ((if_neg c16).trans ((if_neg c17).trans ((if_neg c18).trans ((if_neg c19))))))))).symm, by rw [sm_B, ht_]; exact hP⟩, hS.F ht_⟩) hS.2.2 d_M_initTaken_270
                · skip
                  have nc19 := (xb_eqN (xb_lit e1 rfl) (xb_lit (x := (0 : Int32)) 0 rfl) (by omega) (by omega)).mp c19
                  refine lv_aload_n hx hb d_M_initTaken_236 rfl (lv_at hl 2 rfl) ?_
                  refine sm_g (v := .ref (α 14)) hx hb ht hown hK hP 16 (by decide) (ht _ xw968) (fun _ h_ => h_) rfl d_M_initTaken_237 ?_
                  refine lv_iconst (v := 0) hx hb d_M_initTaken_240 (by decide) ?_
                  refine lv_ldc2 hx hb hown (ht _ xw1133) d_M_initTaken_241 ?_
                  refine lv_aload_n hx hb d_M_initTaken_244 rfl (lv_at hl 2 rfl) ?_
                  refine sm_g (v := .ref (α 13)) hx hb ht hown hK hP 15 (by decide) (ht _ xw967) (fun _ h_ => h_) rfl d_M_initTaken_245 ?_
                  refine lv_iconst (v := 0) hx hb d_M_initTaken_248 (by decide) ?_
                  refine sm_gaJ (L := 2) (n := 0) (v := (σ.2 13 0)) hx hb hK hP 13 12 rfl rfl (xb_in (xb_lit (x := (0 : Int32)) 0 rfl) (by omega) (by decide)) (xb_cl (xb_lit (x := (0 : Int32)) 0 rfl) (by omega)) ((xb_l_i).trans ((xb_l_i).trans ((xb_l_i).trans (((xb_l_nk (by decide))).trans (((xb_l_nk (by decide))).trans ((xb_l_nk (by decide)))))))) d_M_initTaken_249 ?_
                  refine vp_callSl (W.runS (As := [.long (7 : Int64), .long (σ.2 13 0)]) (rest := [.int (0 : Int32), .ref (α 14)]) ⟨hx, hb, hml, hown, hts⟩ (c_M_power l (7 : Int64) (σ.2 13 0)) (cwS 2 hts (xa_S xw1134 xw1135 xw11 xw1136) rfl rfl rfl (by decide +kernel) ⟨Nat.le_of_ble_eq_true rfl, Nat.le_of_ble_eq_true rfl⟩) preEq rfl rfl hl.1 rfl (lv_room (Nat.le_of_ble_eq_true rfl)) d_M_initTaken_250 ⟨Nat.le_of_ble_eq_true rfl, Nat.le_of_ble_eq_true rfl⟩) (fun r_ e_ => ?_)
                  subst e_
                  refine sm_paJ (L := 2) (n := 0) (x := (g_power (7 : Int64) (σ.2 13 0))) hx hb hK hP 14 13 rfl rfl hD hS (xb_in (xb_lit (x := (0 : Int32)) 0 rfl) (by omega) (by decide)) (xb_cl (xb_lit (x := (0 : Int32)) 0 rfl) (by omega)) sm_s_14 d_M_initTaken_253 (fun H locs hP hS => ?_)
                  refine lv_aload_n hx hb d_M_initTaken_254 rfl (lv_at hl 2 rfl) ?_
                  refine lv_iconst (v := 0) hx hb d_M_initTaken_255 (by decide) ?_
                  refine lv_bipush (v := 30) hx hb d_M_initTaken_256 (by decide) ?_
                  refine lv_aload_n hx hb d_M_initTaken_258 rfl (lv_at hl 2 rfl) ?_
                  refine sm_g (v := .ref (α 14)) hx hb ht hown hK hP 16 (by decide) (ht _ xw968) (fun _ h_ => h_) rfl d_M_initTaken_259 ?_
                  refine lv_iconst (v := 0) hx hb d_M_initTaken_262 (by decide) ?_
                  refine sm_gaJ (L := 2) (n := 0) (v := (g_power (7 : Int64) (σ.2 13 0))) hx hb hK hP 14 13 rfl rfl (xb_in (xb_lit (x := (0 : Int32)) 0 rfl) (by omega) (by decide)) (xb_cl (xb_lit (x := (0 : Int32)) 0 rfl) (by omega)) xb_l_hit d_M_initTaken_263 ?_
                  refine lv_lconst (v := 0) hx hb d_M_initTaken_264 (by decide) ?_
                  refine lv_lconst (v := 0) hx hb d_M_initTaken_265 (by decide) ?_
                  refine lv_lconst (v := 0) hx hb d_M_initTaken_266 (by decide) ?_
                  refine sm_cv (va_runV (As := [.int (0 : Int32), .int (30 : Int32), .long (g_power (7 : Int64) (σ.2 13 0)), .long (0 : Int64), .long (0 : Int64), .long (0 : Int64)]) (rest := []) ⟨hx, hb, hml, hown, hts⟩ (c_M_send l D α κ hα (xb_sl (xb_si (xb_si (xb_si (xb_sl (xb_sl (xb_sl σ 12 ((6 * e1) + (3 * (1 - e1))) x2) 12 (((6 * e1) + (3 * (1 - e1))) + 1) x3) 12 (((6 * e1) + (3 * (1 - e1))) + 2) x4) 15 e1 (g_common ((xb_sl (xb_sl (xb_sl σ 12 ((6 * e1) + (3 * (1 - e1))) x2) 12 (((6 * e1) + (3 * (1 - e1))) + 1) x3) 12 (((6 * e1) + (3 * (1 - e1))) + 2) x4).2 12 ((6 * e1) + 1)) ((xb_sl (xb_sl (xb_sl σ 12 ((6 * e1) + (3 * (1 - e1))) x2) 12 (((6 * e1) + (3 * (1 - e1))) + 1) x3) 12 (((6 * e1) + (3 * (1 - e1))) + 2) x4).2 12 ((6 * e1) + 4)))) 16 e1 (g_common ((xb_sl (xb_sl (xb_sl σ 12 ((6 * e1) + (3 * (1 - e1))) x2) 12 (((6 * e1) + (3 * (1 - e1))) + 1) x3) 12 (((6 * e1) + (3 * (1 - e1))) + 2) x4).2 12 ((6 * e1) + 2)) ((xb_sl (xb_sl (xb_sl σ 12 ((6 * e1) + (3 * (1 - e1))) x2) 12 (((6 * e1) + (3 * (1 - e1))) + 1) x3) 12 (((6 * e1) + (3 * (1 - e1))) + 2) x4).2 12 ((6 * e1) + 5)))) 4 e1 (2 : Int32)) 14 0 (g_power (7 : Int64) (σ.2 13 0))) (0 : Int32) 0 (xb_lit (x := (0 : Int32)) 0 rfl) (by omega) (30 : Int32) (g_power (7 : Int64) (σ.2 13 0)) (0 : Int64) (0 : Int64) (0 : Int64) (mk_sl (mk_si (mk_si (mk_si (mk_sl (mk_sl (mk_sl ok))) (by decide)) (by decide)) (by decide)))) (cwV 6 hts (xa_V xw1084 xw1086 xs6 xw11 xw1087) rfl rfl rfl (by decide +kernel) ⟨Nat.le_of_ble_eq_true rfl, Nat.le_of_ble_eq_true rfl⟩) ⟨sm_blind, va_recv (q0 := 0) (ci := 9) hK hP rfl rfl, sm_pre hP hK hN _⟩ rfl rfl hl.1 rfl (lv_room (Nat.le_of_ble_eq_true rfl)) d_M_initTaken_267 ⟨Nat.le_of_ble_eq_true rfl, Nat.le_of_ble_eq_true rfl⟩) hS (fun _ h_ => h_) (fun H locs hP hS => ?_)
                  obtain ⟨τ15, hτ15⟩ : ∃ t_, t_ = (q_send 0 (30 : Int32) (g_power (7 : Int64) (σ.2 13 0)) (0 : Int64) (0 : Int64) (0 : Int64) (xb_sl (xb_si (xb_si (xb_si (xb_sl (xb_sl (xb_sl σ 12 ((6 * e1) + (3 * (1 - e1))) x2) 12 (((6 * e1) + (3 * (1 - e1))) + 1) x3) 12 (((6 * e1) + (3 * (1 - e1))) + 2) x4) 15 e1 (g_common ((xb_sl (xb_sl (xb_sl σ 12 ((6 * e1) + (3 * (1 - e1))) x2) 12 (((6 * e1) + (3 * (1 - e1))) + 1) x3) 12 (((6 * e1) + (3 * (1 - e1))) + 2) x4).2 12 ((6 * e1) + 1)) ((xb_sl (xb_sl (xb_sl σ 12 ((6 * e1) + (3 * (1 - e1))) x2) 12 (((6 * e1) + (3 * (1 - e1))) + 1) x3) 12 (((6 * e1) + (3 * (1 - e1))) + 2) x4).2 12 ((6 * e1) + 4)))) 16 e1 (g_common ((xb_sl (xb_sl (xb_sl σ 12 ((6 * e1) + (3 * (1 - e1))) x2) 12 (((6 * e1) + (3 * (1 - e1))) + 1) x3) 12 (((6 * e1) + (3 * (1 - e1))) + 2) x4).2 12 ((6 * e1) + 2)) ((xb_sl (xb_sl (xb_sl σ 12 ((6 * e1) + (3 * (1 - e1))) x2) 12 (((6 * e1) + (3 * (1 - e1))) + 1) x3) 12 (((6 * e1) + (3 * (1 - e1))) + 2) x4).2 12 ((6 * e1) + 5)))) 4 e1 (2 : Int32)) 14 0 (g_power (7 : Int64) (σ.2 13 0)))) := ⟨_, rfl⟩
                  rw [← hτ15] at hP
                  have okτ15 : sm_ok τ15 := by rw [hτ15]; exact (ok_q_send 0 (30 : Int32) (g_power (7 : Int64) (σ.2 13 0)) (0 : Int64) (0 : Int64) (0 : Int64) (by omega) (mk_sl (mk_si (mk_si (mk_si (mk_sl (mk_sl (mk_sl ok))) (by decide)) (by decide)) (by decide))))
                  exact W.vret hx hb hr (fun t ht_ hW => ⟨⟨τ15, rfl, (by subst hτ15; exact ((if_neg c1).trans ((if_pos c13).trans ((if_pos c14).trans ((if_neg c15).trans ((if_neg c16).trans ((if_neg c17).trans ((if_neg c18).trans ((if_pos c19))))))))).symm), by rw [sm_B, ht_]; exact hP⟩, hS.F ht_⟩) hS.2.2 d_M_initTaken_270
              · skip
                refine lv_aload_n hx hb d_M_initTaken_216 rfl (lv_at hl 2 rfl) ?_
                refine lv_iload_n hx hb d_M_initTaken_217 rfl (lv_at hl 3 rfl) ?_
                refine lv_ldc2 hx hb hown (ht _ xw1132) d_M_initTaken_218 ?_
                refine sm_cv (va_runV (As := [.int (nI e1), .long (3 : Int64)]) (rest := []) ⟨hx, hb, hml, hown, hts⟩ (c_M_fail l D α κ hα (xb_si (xb_si (xb_sl (xb_sl (xb_sl σ 12 ((6 * e1) + (3 * (1 - e1))) x2) 12 (((6 * e1) + (3 * (1 - e1))) + 1) x3) 12 (((6 * e1) + (3 * (1 - e1))) + 2) x4) 15 e1 (g_common ((xb_sl (xb_sl (xb_sl σ 12 ((6 * e1) + (3 * (1 - e1))) x2) 12 (((6 * e1) + (3 * (1 - e1))) + 1) x3) 12 (((6 * e1) + (3 * (1 - e1))) + 2) x4).2 12 ((6 * e1) + 1)) ((xb_sl (xb_sl (xb_sl σ 12 ((6 * e1) + (3 * (1 - e1))) x2) 12 (((6 * e1) + (3 * (1 - e1))) + 1) x3) 12 (((6 * e1) + (3 * (1 - e1))) + 2) x4).2 12 ((6 * e1) + 4)))) 16 e1 (g_common ((xb_sl (xb_sl (xb_sl σ 12 ((6 * e1) + (3 * (1 - e1))) x2) 12 (((6 * e1) + (3 * (1 - e1))) + 1) x3) 12 (((6 * e1) + (3 * (1 - e1))) + 2) x4).2 12 ((6 * e1) + 2)) ((xb_sl (xb_sl (xb_sl σ 12 ((6 * e1) + (3 * (1 - e1))) x2) 12 (((6 * e1) + (3 * (1 - e1))) + 1) x3) 12 (((6 * e1) + (3 * (1 - e1))) + 2) x4).2 12 ((6 * e1) + 5)))) (nI e1) e1 (xb_lit e1 rfl) (by omega) (3 : Int64) (mk_si (mk_si (mk_sl (mk_sl (mk_sl ok))) (by decide)) (by decide))) (cwV 2 hts (xa_V xw1112 xw1114 xs9 xw11 xw1115) rfl rfl rfl (by decide +kernel) ⟨Nat.le_of_ble_eq_true rfl, Nat.le_of_ble_eq_true rfl⟩) ⟨sm_blind, va_recv (q0 := 0) (ci := 9) hK hP rfl rfl, sm_pre hP hK hN _⟩ rfl rfl hl.1 rfl (lv_room (Nat.le_of_ble_eq_true rfl)) d_M_initTaken_221 ⟨Nat.le_of_ble_eq_true rfl, Nat.le_of_ble_eq_true rfl⟩) hS (fun _ h_ => h_) (fun H locs hP hS => ?_)
                obtain ⟨τ16, hτ16⟩ : ∃ t_, t_ = (q_fail e1 (3 : Int64) (xb_si (xb_si (xb_sl (xb_sl (xb_sl σ 12 ((6 * e1) + (3 * (1 - e1))) x2) 12 (((6 * e1) + (3 * (1 - e1))) + 1) x3) 12 (((6 * e1) + (3 * (1 - e1))) + 2) x4) 15 e1 (g_common ((xb_sl (xb_sl (xb_sl σ 12 ((6 * e1) + (3 * (1 - e1))) x2) 12 (((6 * e1) + (3 * (1 - e1))) + 1) x3) 12 (((6 * e1) + (3 * (1 - e1))) + 2) x4).2 12 ((6 * e1) + 1)) ((xb_sl (xb_sl (xb_sl σ 12 ((6 * e1) + (3 * (1 - e1))) x2) 12 (((6 * e1) + (3 * (1 - e1))) + 1) x3) 12 (((6 * e1) + (3 * (1 - e1))) + 2) x4).2 12 ((6 * e1) + 4)))) 16 e1 (g_common ((xb_sl (xb_sl (xb_sl σ 12 ((6 * e1) + (3 * (1 - e1))) x2) 12 (((6 * e1) + (3 * (1 - e1))) + 1) x3) 12 (((6 * e1) + (3 * (1 - e1))) + 2) x4).2 12 ((6 * e1) + 2)) ((xb_sl (xb_sl (xb_sl σ 12 ((6 * e1) + (3 * (1 - e1))) x2) 12 (((6 * e1) + (3 * (1 - e1))) + 1) x3) 12 (((6 * e1) + (3 * (1 - e1))) + 2) x4).2 12 ((6 * e1) + 5))))) := ⟨_, rfl⟩
                rw [← hτ16] at hP
                have okτ16 : sm_ok τ16 := by rw [hτ16]; exact (ok_q_fail e1 (3 : Int64) (by omega) (mk_si (mk_si (mk_sl (mk_sl (mk_sl ok))) (by decide)) (by decide)))
                exact W.vret hx hb hr (fun t ht_ hW => ⟨⟨τ16, rfl, (by subst hτ16; exact ((if_neg c1).trans ((if_pos c13).trans ((if_pos c14).trans ((if_neg c15).trans ((if_neg c16).trans ((if_neg c17).trans ((if_pos c18)))))))).symm), by rw [sm_B, ht_]; exact hP⟩, hS.F ht_⟩) hS.2.2 d_M_initTaken_224
      · skip
        refine lv_aload_n hx hb d_M_initTaken_48 rfl (lv_at hl 0 rfl) ?_
        refine lv_iload_n hx hb d_M_initTaken_49 rfl (lv_at hl 1 rfl) ?_
        refine sm_cv (va_runV (As := [.int (nI e1)]) (rest := []) ⟨hx, hb, hml, hown, hts⟩ (c_M_start l D α κ hα σ (nI e1) e1 (xb_lit e1 rfl) (by omega) ok) (cwV 1 hts (xa_V xw1080 xw1082 xs5 xw11 xw1083) rfl rfl rfl (by decide +kernel) ⟨Nat.le_of_ble_eq_true rfl, Nat.le_of_ble_eq_true rfl⟩) ⟨sm_blind, va_recv (q0 := 0) (ci := 9) hK hP rfl rfl, sm_pre hP hK hN _⟩ rfl rfl hl.1 rfl (lv_room (Nat.le_of_ble_eq_true rfl)) d_M_initTaken_50 ⟨Nat.le_of_ble_eq_true rfl, Nat.le_of_ble_eq_true rfl⟩) hS (fun _ h_ => h_) (fun H locs hP hS => ?_)
        obtain ⟨τ17, hτ17⟩ : ∃ t_, t_ = (q_start e1 σ) := ⟨_, rfl⟩
        rw [← hτ17] at hP
        have okτ17 : sm_ok τ17 := by rw [hτ17]; exact (ok_q_start e1 (by omega) ok)
        refine lv_bipush (v := 6) hx hb d_M_initTaken_53 (by decide) ?_
        refine lv_iload_n hx hb d_M_initTaken_55 rfl (lv_at hl 1 rfl) ?_
        refine lv_imul hx hb d_M_initTaken_56 ?_
        refine lv_iconst (v := 3) hx hb d_M_initTaken_57 (by decide) ?_
        refine lv_iconst (v := 1) hx hb d_M_initTaken_58 (by decide) ?_
        refine lv_iload_n hx hb d_M_initTaken_59 rfl (lv_at hl 1 rfl) ?_
        refine lv_isub hx hb d_M_initTaken_60 ?_
        refine lv_imul hx hb d_M_initTaken_61 ?_
        refine lv_iadd hx hb d_M_initTaken_62 ?_
        refine lv_istore (lv' := [(8, .int (((6 : Int32) * (nI e1)) + ((3 : Int32) * ((1 : Int32) - (nI e1))))), (0, .ref (α 0)), (1, .int (nI e1)), (2, .long x2), (4, .long x3), (6, .long x4)]) hx hb d_M_initTaken_63 hl (by decide) rfl (fun ls hl => ?_)
        refine lv_aload_n hx hb d_M_initTaken_65 rfl (lv_at hl 1 rfl) ?_
        refine sm_g (v := .ref (α 12)) hx hb ht hown hK hP 14 (by decide) (ht _ xw966) (fun _ h_ => h_) rfl d_M_initTaken_66 ?_
        refine lv_iload hx hb d_M_initTaken_69 (lv_at hl 0 rfl) ?_
        refine lv_lload_n hx hb d_M_initTaken_71 rfl (lv_at hl 3 rfl) ?_
        refine sm_paJ (L := 12) (n := ((6 * e1) + (3 * (1 - e1)))) (x := x2) hx hb hK hP 12 11 rfl rfl hD hS (xb_in (xb_na (xb_nm (xb_lit (x := (6 : Int32)) 6 rfl) (xb_lit e1 rfl)) (xb_nm (xb_lit (x := (3 : Int32)) 3 rfl) (xb_ns (xb_lit (x := (1 : Int32)) 1 rfl) (xb_lit e1 rfl) (by omega)))) (by omega) (by decide)) (xb_cl (xb_na (xb_nm (xb_lit (x := (6 : Int32)) 6 rfl) (xb_lit e1 rfl)) (xb_nm (xb_lit (x := (3 : Int32)) 3 rfl) (xb_ns (xb_lit (x := (1 : Int32)) 1 rfl) (xb_lit e1 rfl) (by omega)))) (by omega)) sm_s_12 d_M_initTaken_72 (fun H locs hP hS => ?_)
        refine lv_aload_n hx hb d_M_initTaken_73 rfl (lv_at hl 1 rfl) ?_
        refine sm_g (v := .ref (α 12)) hx hb ht hown hK hP 14 (by decide) (ht _ xw966) (fun _ h_ => h_) rfl d_M_initTaken_74 ?_
        refine lv_iload hx hb d_M_initTaken_77 (lv_at hl 0 rfl) ?_
        refine lv_iconst (v := 1) hx hb d_M_initTaken_79 (by decide) ?_
        refine lv_iadd hx hb d_M_initTaken_80 ?_
        refine lv_lload hx hb d_M_initTaken_81 (lv_at hl 4 rfl) ?_
        refine sm_paJ (L := 12) (n := (((6 * e1) + (3 * (1 - e1))) + 1)) (x := x3) hx hb hK hP 12 11 rfl rfl hD hS (xb_in (xb_na (xb_na (xb_nm (xb_lit (x := (6 : Int32)) 6 rfl) (xb_lit e1 rfl)) (xb_nm (xb_lit (x := (3 : Int32)) 3 rfl) (xb_ns (xb_lit (x := (1 : Int32)) 1 rfl) (xb_lit e1 rfl) (by omega)))) (xb_lit (x := (1 : Int32)) 1 rfl)) (by omega) (by decide)) (xb_cl (xb_na (xb_na (xb_nm (xb_lit (x := (6 : Int32)) 6 rfl) (xb_lit e1 rfl)) (xb_nm (xb_lit (x := (3 : Int32)) 3 rfl) (xb_ns (xb_lit (x := (1 : Int32)) 1 rfl) (xb_lit e1 rfl) (by omega)))) (xb_lit (x := (1 : Int32)) 1 rfl)) (by omega)) sm_s_12 d_M_initTaken_83 (fun H locs hP hS => ?_)
        refine lv_aload_n hx hb d_M_initTaken_84 rfl (lv_at hl 1 rfl) ?_
        refine sm_g (v := .ref (α 12)) hx hb ht hown hK hP 14 (by decide) (ht _ xw966) (fun _ h_ => h_) rfl d_M_initTaken_85 ?_
        refine lv_iload hx hb d_M_initTaken_88 (lv_at hl 0 rfl) ?_
        refine lv_iconst (v := 2) hx hb d_M_initTaken_90 (by decide) ?_
        refine lv_iadd hx hb d_M_initTaken_91 ?_
        refine lv_lload hx hb d_M_initTaken_92 (lv_at hl 5 rfl) ?_
        refine sm_paJ (L := 12) (n := (((6 * e1) + (3 * (1 - e1))) + 2)) (x := x4) hx hb hK hP 12 11 rfl rfl hD hS (xb_in (xb_na (xb_na (xb_nm (xb_lit (x := (6 : Int32)) 6 rfl) (xb_lit e1 rfl)) (xb_nm (xb_lit (x := (3 : Int32)) 3 rfl) (xb_ns (xb_lit (x := (1 : Int32)) 1 rfl) (xb_lit e1 rfl) (by omega)))) (xb_lit (x := (2 : Int32)) 2 rfl)) (by omega) (by decide)) (xb_cl (xb_na (xb_na (xb_nm (xb_lit (x := (6 : Int32)) 6 rfl) (xb_lit e1 rfl)) (xb_nm (xb_lit (x := (3 : Int32)) 3 rfl) (xb_ns (xb_lit (x := (1 : Int32)) 1 rfl) (xb_lit e1 rfl) (by omega)))) (xb_lit (x := (2 : Int32)) 2 rfl)) (by omega)) sm_s_12 d_M_initTaken_94 (fun H locs hP hS => ?_)
        refine lv_lload hx hb d_M_initTaken_95 (lv_at hl 4 rfl) ?_
        refine vp_callSi (W.runS (As := [.long x3]) (rest := []) ⟨hx, hb, hml, hown, hts⟩ (c_M_isList l x3) (cwS 1 hts (xa_S xw1125 xw1126 xw11 xw1127) rfl rfl rfl (by decide +kernel) ⟨Nat.le_of_ble_eq_true rfl, Nat.le_of_ble_eq_true rfl⟩) preEq rfl rfl hl.1 rfl (lv_room (Nat.le_of_ble_eq_true rfl)) d_M_initTaken_97 ⟨Nat.le_of_ble_eq_true rfl, Nat.le_of_ble_eq_true rfl⟩) (fun r_ e_ => ?_)
        subst e_
        refine lv_if_eq (tgt := 115) hx hb d_M_initTaken_100 (by decide) (fun c20 => ?_) (fun c20 => ?_)
        · skip
          refine lv_iconst (v := 0) hx hb d_M_initTaken_115 (by decide) ?_
          refine lv_istore (lv' := [(9, .int (0 : Int32)), (8, .int (((6 : Int32) * (nI e1)) + ((3 : Int32) * ((1 : Int32) - (nI e1))))), (0, .ref (α 0)), (1, .int (nI e1)), (2, .long x2), (4, .long x3), (6, .long x4)]) hx hb d_M_initTaken_116 hl (by decide) rfl (fun ls hl => ?_)
          refine lv_aload_n hx hb d_M_initTaken_118 rfl (lv_at hl 2 rfl) ?_
          refine sm_g (v := .ref (α 15)) hx hb ht hown hK hP 17 (by decide) (ht _ xw969) (fun _ h_ => h_) rfl d_M_initTaken_119 ?_
          refine lv_iload_n hx hb d_M_initTaken_122 rfl (lv_at hl 3 rfl) ?_
          refine lv_iload hx hb d_M_initTaken_123 (lv_at hl 0 rfl) ?_
          refine lv_if_eq (tgt := 156) hx hb d_M_initTaken_125 (by decide) (fun _ => ?_) (fun h_ => absurd h_ (by decide))
          refine lv_iconst (v := 0) hx hb d_M_initTaken_156 (by decide) ?_
          refine sm_paI (L := 2) (n := e1) (x := (0 : Int32)) hx hb hK hP 15 14 rfl rfl hD hS (xb_in (xb_lit e1 rfl) (by omega) (by decide)) (xb_cl (xb_lit e1 rfl) (by omega)) sm_s_15 d_M_initTaken_157 (fun H locs hP hS => ?_)
          refine lv_aload_n hx hb d_M_initTaken_158 rfl (lv_at hl 2 rfl) ?_
          refine sm_g (v := .ref (α 16)) hx hb ht hown hK hP 18 (by decide) (ht _ xw970) (fun _ h_ => h_) rfl d_M_initTaken_159 ?_
          refine lv_iload_n hx hb d_M_initTaken_162 rfl (lv_at hl 3 rfl) ?_
          refine lv_iload hx hb d_M_initTaken_163 (lv_at hl 0 rfl) ?_
          refine lv_if_eq (tgt := 196) hx hb d_M_initTaken_165 (by decide) (fun _ => ?_) (fun h_ => absurd h_ (by decide))
          refine lv_iconst (v := 0) hx hb d_M_initTaken_196 (by decide) ?_
          refine sm_paI (L := 2) (n := e1) (x := (0 : Int32)) hx hb hK hP 16 15 rfl rfl hD hS (xb_in (xb_lit e1 rfl) (by omega) (by decide)) (xb_cl (xb_lit e1 rfl) (by omega)) sm_s_16 d_M_initTaken_197 (fun H locs hP hS => ?_)
          refine lv_aload_n hx hb d_M_initTaken_198 rfl (lv_at hl 2 rfl) ?_
          refine sm_g (v := .ref (α 15)) hx hb ht hown hK hP 17 (by decide) (ht _ xw969) (fun _ h_ => h_) rfl d_M_initTaken_199 ?_
          refine lv_iload_n hx hb d_M_initTaken_202 rfl (lv_at hl 3 rfl) ?_
          refine sm_gaI (L := 2) (n := e1) (v := (0 : Int32)) hx hb hK hP 15 14 rfl rfl (xb_in (xb_lit e1 rfl) (by omega) (by decide)) (xb_cl (xb_lit e1 rfl) (by omega)) (((xb_i_nk (by decide))).trans (xb_i_hit)) d_M_initTaken_203 ?_
          refine lv_if_eq (tgt := 216) hx hb d_M_initTaken_204 (by decide) (fun _ => ?_) (fun h_ => absurd h_ (by decide))
          refine lv_aload_n hx hb d_M_initTaken_216 rfl (lv_at hl 2 rfl) ?_
          refine lv_iload_n hx hb d_M_initTaken_217 rfl (lv_at hl 3 rfl) ?_
          refine lv_ldc2 hx hb hown (ht _ xw1132) d_M_initTaken_218 ?_
          refine sm_cv (va_runV (As := [.int (nI e1), .long (3 : Int64)]) (rest := []) ⟨hx, hb, hml, hown, hts⟩ (c_M_fail l D α κ hα (xb_si (xb_si (xb_sl (xb_sl (xb_sl τ17 12 ((6 * e1) + (3 * (1 - e1))) x2) 12 (((6 * e1) + (3 * (1 - e1))) + 1) x3) 12 (((6 * e1) + (3 * (1 - e1))) + 2) x4) 15 e1 (0 : Int32)) 16 e1 (0 : Int32)) (nI e1) e1 (xb_lit e1 rfl) (by omega) (3 : Int64) (mk_si (mk_si (mk_sl (mk_sl (mk_sl okτ17))) (by decide)) (by decide))) (cwV 2 hts (xa_V xw1112 xw1114 xs9 xw11 xw1115) rfl rfl rfl (by decide +kernel) ⟨Nat.le_of_ble_eq_true rfl, Nat.le_of_ble_eq_true rfl⟩) ⟨sm_blind, va_recv (q0 := 0) (ci := 9) hK hP rfl rfl, sm_pre hP hK hN _⟩ rfl rfl hl.1 rfl (lv_room (Nat.le_of_ble_eq_true rfl)) d_M_initTaken_221 ⟨Nat.le_of_ble_eq_true rfl, Nat.le_of_ble_eq_true rfl⟩) hS (fun _ h_ => h_) (fun H locs hP hS => ?_)
          obtain ⟨τ18, hτ18⟩ : ∃ t_, t_ = (q_fail e1 (3 : Int64) (xb_si (xb_si (xb_sl (xb_sl (xb_sl τ17 12 ((6 * e1) + (3 * (1 - e1))) x2) 12 (((6 * e1) + (3 * (1 - e1))) + 1) x3) 12 (((6 * e1) + (3 * (1 - e1))) + 2) x4) 15 e1 (0 : Int32)) 16 e1 (0 : Int32))) := ⟨_, rfl⟩
          rw [← hτ18] at hP
          have okτ18 : sm_ok τ18 := by rw [hτ18]; exact (ok_q_fail e1 (3 : Int64) (by omega) (mk_si (mk_si (mk_sl (mk_sl (mk_sl okτ17))) (by decide)) (by decide)))
          exact W.vret hx hb hr (fun t ht_ hW => ⟨⟨τ18, rfl, (by subst hτ18; subst hτ17; exact ((if_neg c1).trans ((if_pos c13).trans ((if_neg c14).trans ((if_pos c20))))).symm), by rw [sm_B, ht_]; exact hP⟩, hS.F ht_⟩) hS.2.2 d_M_initTaken_224
        · skip
          refine lv_lload hx hb d_M_initTaken_103 (lv_at hl 5 rfl) ?_
          refine vp_callSi (W.runS (As := [.long x4]) (rest := []) ⟨hx, hb, hml, hown, hts⟩ (c_M_isList l x4) (cwS 1 hts (xa_S xw1125 xw1126 xw11 xw1127) rfl rfl rfl (by decide +kernel) ⟨Nat.le_of_ble_eq_true rfl, Nat.le_of_ble_eq_true rfl⟩) preEq rfl rfl hl.1 rfl (lv_room (Nat.le_of_ble_eq_true rfl)) d_M_initTaken_105 ⟨Nat.le_of_ble_eq_true rfl, Nat.le_of_ble_eq_true rfl⟩) (fun r_ e_ => ?_)
          subst e_
          refine lv_if_eq (tgt := 115) hx hb d_M_initTaken_108 (by decide) (fun c21 => ?_) (fun c21 => ?_)
          · skip
            refine lv_iconst (v := 0) hx hb d_M_initTaken_115 (by decide) ?_
            refine lv_istore (lv' := [(9, .int (0 : Int32)), (8, .int (((6 : Int32) * (nI e1)) + ((3 : Int32) * ((1 : Int32) - (nI e1))))), (0, .ref (α 0)), (1, .int (nI e1)), (2, .long x2), (4, .long x3), (6, .long x4)]) hx hb d_M_initTaken_116 hl (by decide) rfl (fun ls hl => ?_)
            refine lv_aload_n hx hb d_M_initTaken_118 rfl (lv_at hl 2 rfl) ?_
            refine sm_g (v := .ref (α 15)) hx hb ht hown hK hP 17 (by decide) (ht _ xw969) (fun _ h_ => h_) rfl d_M_initTaken_119 ?_
            refine lv_iload_n hx hb d_M_initTaken_122 rfl (lv_at hl 3 rfl) ?_
            refine lv_iload hx hb d_M_initTaken_123 (lv_at hl 0 rfl) ?_
            refine lv_if_eq (tgt := 156) hx hb d_M_initTaken_125 (by decide) (fun _ => ?_) (fun h_ => absurd h_ (by decide))
            refine lv_iconst (v := 0) hx hb d_M_initTaken_156 (by decide) ?_
            refine sm_paI (L := 2) (n := e1) (x := (0 : Int32)) hx hb hK hP 15 14 rfl rfl hD hS (xb_in (xb_lit e1 rfl) (by omega) (by decide)) (xb_cl (xb_lit e1 rfl) (by omega)) sm_s_15 d_M_initTaken_157 (fun H locs hP hS => ?_)
            refine lv_aload_n hx hb d_M_initTaken_158 rfl (lv_at hl 2 rfl) ?_
            refine sm_g (v := .ref (α 16)) hx hb ht hown hK hP 18 (by decide) (ht _ xw970) (fun _ h_ => h_) rfl d_M_initTaken_159 ?_
            refine lv_iload_n hx hb d_M_initTaken_162 rfl (lv_at hl 3 rfl) ?_
            refine lv_iload hx hb d_M_initTaken_163 (lv_at hl 0 rfl) ?_
            refine lv_if_eq (tgt := 196) hx hb d_M_initTaken_165 (by decide) (fun _ => ?_) (fun h_ => absurd h_ (by decide))
            refine lv_iconst (v := 0) hx hb d_M_initTaken_196 (by decide) ?_
            refine sm_paI (L := 2) (n := e1) (x := (0 : Int32)) hx hb hK hP 16 15 rfl rfl hD hS (xb_in (xb_lit e1 rfl) (by omega) (by decide)) (xb_cl (xb_lit e1 rfl) (by omega)) sm_s_16 d_M_initTaken_197 (fun H locs hP hS => ?_)
            refine lv_aload_n hx hb d_M_initTaken_198 rfl (lv_at hl 2 rfl) ?_
            refine sm_g (v := .ref (α 15)) hx hb ht hown hK hP 17 (by decide) (ht _ xw969) (fun _ h_ => h_) rfl d_M_initTaken_199 ?_
            refine lv_iload_n hx hb d_M_initTaken_202 rfl (lv_at hl 3 rfl) ?_
            refine sm_gaI (L := 2) (n := e1) (v := (0 : Int32)) hx hb hK hP 15 14 rfl rfl (xb_in (xb_lit e1 rfl) (by omega) (by decide)) (xb_cl (xb_lit e1 rfl) (by omega)) (((xb_i_nk (by decide))).trans (xb_i_hit)) d_M_initTaken_203 ?_
            refine lv_if_eq (tgt := 216) hx hb d_M_initTaken_204 (by decide) (fun _ => ?_) (fun h_ => absurd h_ (by decide))
            refine lv_aload_n hx hb d_M_initTaken_216 rfl (lv_at hl 2 rfl) ?_
            refine lv_iload_n hx hb d_M_initTaken_217 rfl (lv_at hl 3 rfl) ?_
            refine lv_ldc2 hx hb hown (ht _ xw1132) d_M_initTaken_218 ?_
            refine sm_cv (va_runV (As := [.int (nI e1), .long (3 : Int64)]) (rest := []) ⟨hx, hb, hml, hown, hts⟩ (c_M_fail l D α κ hα (xb_si (xb_si (xb_sl (xb_sl (xb_sl τ17 12 ((6 * e1) + (3 * (1 - e1))) x2) 12 (((6 * e1) + (3 * (1 - e1))) + 1) x3) 12 (((6 * e1) + (3 * (1 - e1))) + 2) x4) 15 e1 (0 : Int32)) 16 e1 (0 : Int32)) (nI e1) e1 (xb_lit e1 rfl) (by omega) (3 : Int64) (mk_si (mk_si (mk_sl (mk_sl (mk_sl okτ17))) (by decide)) (by decide))) (cwV 2 hts (xa_V xw1112 xw1114 xs9 xw11 xw1115) rfl rfl rfl (by decide +kernel) ⟨Nat.le_of_ble_eq_true rfl, Nat.le_of_ble_eq_true rfl⟩) ⟨sm_blind, va_recv (q0 := 0) (ci := 9) hK hP rfl rfl, sm_pre hP hK hN _⟩ rfl rfl hl.1 rfl (lv_room (Nat.le_of_ble_eq_true rfl)) d_M_initTaken_221 ⟨Nat.le_of_ble_eq_true rfl, Nat.le_of_ble_eq_true rfl⟩) hS (fun _ h_ => h_) (fun H locs hP hS => ?_)
            obtain ⟨τ19, hτ19⟩ : ∃ t_, t_ = (q_fail e1 (3 : Int64) (xb_si (xb_si (xb_sl (xb_sl (xb_sl τ17 12 ((6 * e1) + (3 * (1 - e1))) x2) 12 (((6 * e1) + (3 * (1 - e1))) + 1) x3) 12 (((6 * e1) + (3 * (1 - e1))) + 2) x4) 15 e1 (0 : Int32)) 16 e1 (0 : Int32))) := ⟨_, rfl⟩
            rw [← hτ19] at hP
            have okτ19 : sm_ok τ19 := by rw [hτ19]; exact (ok_q_fail e1 (3 : Int64) (by omega) (mk_si (mk_si (mk_sl (mk_sl (mk_sl okτ17))) (by decide)) (by decide)))
            exact W.vret hx hb hr (fun t ht_ hW => ⟨⟨τ19, rfl, (by subst hτ19; subst hτ17; exact ((if_neg c1).trans ((if_pos c13).trans ((if_neg c14).trans ((if_neg c20).trans ((if_pos c21)))))).symm), by rw [sm_B, ht_]; exact hP⟩, hS.F ht_⟩) hS.2.2 d_M_initTaken_224
          · skip
            refine lv_iconst (v := 1) hx hb d_M_initTaken_111 (by decide) ?_
            refine lv_goto (tgt := 116) hx hb d_M_initTaken_112 (by decide) ?_
            refine lv_istore (lv' := [(9, .int (1 : Int32)), (8, .int (((6 : Int32) * (nI e1)) + ((3 : Int32) * ((1 : Int32) - (nI e1))))), (0, .ref (α 0)), (1, .int (nI e1)), (2, .long x2), (4, .long x3), (6, .long x4)]) hx hb d_M_initTaken_116 hl (by decide) rfl (fun ls hl => ?_)
            refine lv_aload_n hx hb d_M_initTaken_118 rfl (lv_at hl 2 rfl) ?_
            refine sm_g (v := .ref (α 15)) hx hb ht hown hK hP 17 (by decide) (ht _ xw969) (fun _ h_ => h_) rfl d_M_initTaken_119 ?_
            refine lv_iload_n hx hb d_M_initTaken_122 rfl (lv_at hl 3 rfl) ?_
            refine lv_iload hx hb d_M_initTaken_123 (lv_at hl 0 rfl) ?_
            refine lv_if_eq (tgt := 156) hx hb d_M_initTaken_125 (by decide) (fun h_ => absurd h_ (by decide)) (fun _ => ?_)
            refine lv_aload_n hx hb d_M_initTaken_128 rfl (lv_at hl 2 rfl) ?_
            refine sm_g (v := .ref (α 12)) hx hb ht hown hK hP 14 (by decide) (ht _ xw966) (fun _ h_ => h_) rfl d_M_initTaken_129 ?_
            refine lv_bipush (v := 6) hx hb d_M_initTaken_132 (by decide) ?_
            refine lv_iload_n hx hb d_M_initTaken_134 rfl (lv_at hl 3 rfl) ?_
            refine lv_imul hx hb d_M_initTaken_135 ?_
            refine lv_iconst (v := 1) hx hb d_M_initTaken_136 (by decide) ?_
            refine lv_iadd hx hb d_M_initTaken_137 ?_
            refine sm_gaJ (L := 12) (n := ((6 * e1) + 1)) (v := ((xb_sl (xb_sl (xb_sl τ17 12 ((6 * e1) + (3 * (1 - e1))) x2) 12 (((6 * e1) + (3 * (1 - e1))) + 1) x3) 12 (((6 * e1) + (3 * (1 - e1))) + 2) x4).2 12 ((6 * e1) + 1))) hx hb hK hP 12 11 rfl rfl (xb_in (xb_na (xb_nm (xb_lit (x := (6 : Int32)) 6 rfl) (xb_lit e1 rfl)) (xb_lit (x := (1 : Int32)) 1 rfl)) (by omega) (by decide)) (xb_cl (xb_na (xb_nm (xb_lit (x := (6 : Int32)) 6 rfl) (xb_lit e1 rfl)) (xb_lit (x := (1 : Int32)) 1 rfl)) (by omega)) rfl d_M_initTaken_138 ?_
            refine lv_aload_n hx hb d_M_initTaken_139 rfl (lv_at hl 2 rfl) ?_
            refine sm_g (v := .ref (α 12)) hx hb ht hown hK hP 14 (by decide) (ht _ xw966) (fun _ h_ => h_) rfl d_M_initTaken_140 ?_
            refine lv_bipush (v := 6) hx hb d_M_initTaken_143 (by decide) ?_
            refine lv_iload_n hx hb d_M_initTaken_145 rfl (lv_at hl 3 rfl) ?_
            refine lv_imul hx hb d_M_initTaken_146 ?_
            refine lv_iconst (v := 4) hx hb d_M_initTaken_147 (by decide) ?_
            refine lv_iadd hx hb d_M_initTaken_148 ?_
            refine sm_gaJ (L := 12) (n := ((6 * e1) + 4)) (v := ((xb_sl (xb_sl (xb_sl τ17 12 ((6 * e1) + (3 * (1 - e1))) x2) 12 (((6 * e1) + (3 * (1 - e1))) + 1) x3) 12 (((6 * e1) + (3 * (1 - e1))) + 2) x4).2 12 ((6 * e1) + 4))) hx hb hK hP 12 11 rfl rfl (xb_in (xb_na (xb_nm (xb_lit (x := (6 : Int32)) 6 rfl) (xb_lit e1 rfl)) (xb_lit (x := (4 : Int32)) 4 rfl)) (by omega) (by decide)) (xb_cl (xb_na (xb_nm (xb_lit (x := (6 : Int32)) 6 rfl) (xb_lit e1 rfl)) (xb_lit (x := (4 : Int32)) 4 rfl)) (by omega)) rfl d_M_initTaken_149 ?_
            refine vp_callSi (W.runS (As := [.long ((xb_sl (xb_sl (xb_sl τ17 12 ((6 * e1) + (3 * (1 - e1))) x2) 12 (((6 * e1) + (3 * (1 - e1))) + 1) x3) 12 (((6 * e1) + (3 * (1 - e1))) + 2) x4).2 12 ((6 * e1) + 1)), .long ((xb_sl (xb_sl (xb_sl τ17 12 ((6 * e1) + (3 * (1 - e1))) x2) 12 (((6 * e1) + (3 * (1 - e1))) + 1) x3) 12 (((6 * e1) + (3 * (1 - e1))) + 2) x4).2 12 ((6 * e1) + 4))]) (rest := [.int (nI e1), .ref (α 15)]) ⟨hx, hb, hml, hown, hts⟩ (c_M_common l ((xb_sl (xb_sl (xb_sl τ17 12 ((6 * e1) + (3 * (1 - e1))) x2) 12 (((6 * e1) + (3 * (1 - e1))) + 1) x3) 12 (((6 * e1) + (3 * (1 - e1))) + 2) x4).2 12 ((6 * e1) + 1)) ((xb_sl (xb_sl (xb_sl τ17 12 ((6 * e1) + (3 * (1 - e1))) x2) 12 (((6 * e1) + (3 * (1 - e1))) + 1) x3) 12 (((6 * e1) + (3 * (1 - e1))) + 2) x4).2 12 ((6 * e1) + 4))) (cwS 2 hts (xa_S xw1129 xw1130 xw11 xw1131) rfl rfl rfl (by decide +kernel) ⟨Nat.le_of_ble_eq_true rfl, Nat.le_of_ble_eq_true rfl⟩) preEq rfl rfl hl.1 rfl (lv_room (Nat.le_of_ble_eq_true rfl)) d_M_initTaken_150 ⟨Nat.le_of_ble_eq_true rfl, Nat.le_of_ble_eq_true rfl⟩) (fun r_ e_ => ?_)
            subst e_
            refine lv_goto (tgt := 157) hx hb d_M_initTaken_153 (by decide) ?_
            refine sm_paI (L := 2) (n := e1) (x := (g_common ((xb_sl (xb_sl (xb_sl τ17 12 ((6 * e1) + (3 * (1 - e1))) x2) 12 (((6 * e1) + (3 * (1 - e1))) + 1) x3) 12 (((6 * e1) + (3 * (1 - e1))) + 2) x4).2 12 ((6 * e1) + 1)) ((xb_sl (xb_sl (xb_sl τ17 12 ((6 * e1) + (3 * (1 - e1))) x2) 12 (((6 * e1) + (3 * (1 - e1))) + 1) x3) 12 (((6 * e1) + (3 * (1 - e1))) + 2) x4).2 12 ((6 * e1) + 4)))) hx hb hK hP 15 14 rfl rfl hD hS (xb_in (xb_lit e1 rfl) (by omega) (by decide)) (xb_cl (xb_lit e1 rfl) (by omega)) sm_s_15 d_M_initTaken_157 (fun H locs hP hS => ?_)
            refine lv_aload_n hx hb d_M_initTaken_158 rfl (lv_at hl 2 rfl) ?_
            refine sm_g (v := .ref (α 16)) hx hb ht hown hK hP 18 (by decide) (ht _ xw970) (fun _ h_ => h_) rfl d_M_initTaken_159 ?_
            refine lv_iload_n hx hb d_M_initTaken_162 rfl (lv_at hl 3 rfl) ?_
            refine lv_iload hx hb d_M_initTaken_163 (lv_at hl 0 rfl) ?_
            refine lv_if_eq (tgt := 196) hx hb d_M_initTaken_165 (by decide) (fun h_ => absurd h_ (by decide)) (fun _ => ?_)
            refine lv_aload_n hx hb d_M_initTaken_168 rfl (lv_at hl 2 rfl) ?_
            refine sm_g (v := .ref (α 12)) hx hb ht hown hK hP 14 (by decide) (ht _ xw966) (fun _ h_ => h_) rfl d_M_initTaken_169 ?_
            refine lv_bipush (v := 6) hx hb d_M_initTaken_172 (by decide) ?_
            refine lv_iload_n hx hb d_M_initTaken_174 rfl (lv_at hl 3 rfl) ?_
            refine lv_imul hx hb d_M_initTaken_175 ?_
            refine lv_iconst (v := 2) hx hb d_M_initTaken_176 (by decide) ?_
            refine lv_iadd hx hb d_M_initTaken_177 ?_
            refine sm_gaJ (L := 12) (n := ((6 * e1) + 2)) (v := ((xb_sl (xb_sl (xb_sl τ17 12 ((6 * e1) + (3 * (1 - e1))) x2) 12 (((6 * e1) + (3 * (1 - e1))) + 1) x3) 12 (((6 * e1) + (3 * (1 - e1))) + 2) x4).2 12 ((6 * e1) + 2))) hx hb hK hP 12 11 rfl rfl (xb_in (xb_na (xb_nm (xb_lit (x := (6 : Int32)) 6 rfl) (xb_lit e1 rfl)) (xb_lit (x := (2 : Int32)) 2 rfl)) (by omega) (by decide)) (xb_cl (xb_na (xb_nm (xb_lit (x := (6 : Int32)) 6 rfl) (xb_lit e1 rfl)) (xb_lit (x := (2 : Int32)) 2 rfl)) (by omega)) xb_l_i d_M_initTaken_178 ?_
            refine lv_aload_n hx hb d_M_initTaken_179 rfl (lv_at hl 2 rfl) ?_
            refine sm_g (v := .ref (α 12)) hx hb ht hown hK hP 14 (by decide) (ht _ xw966) (fun _ h_ => h_) rfl d_M_initTaken_180 ?_
            refine lv_bipush (v := 6) hx hb d_M_initTaken_183 (by decide) ?_
            refine lv_iload_n hx hb d_M_initTaken_185 rfl (lv_at hl 3 rfl) ?_
            refine lv_imul hx hb d_M_initTaken_186 ?_
            refine lv_iconst (v := 5) hx hb d_M_initTaken_187 (by decide) ?_
            refine lv_iadd hx hb d_M_initTaken_188 ?_
            refine sm_gaJ (L := 12) (n := ((6 * e1) + 5)) (v := ((xb_sl (xb_sl (xb_sl τ17 12 ((6 * e1) + (3 * (1 - e1))) x2) 12 (((6 * e1) + (3 * (1 - e1))) + 1) x3) 12 (((6 * e1) + (3 * (1 - e1))) + 2) x4).2 12 ((6 * e1) + 5))) hx hb hK hP 12 11 rfl rfl (xb_in (xb_na (xb_nm (xb_lit (x := (6 : Int32)) 6 rfl) (xb_lit e1 rfl)) (xb_lit (x := (5 : Int32)) 5 rfl)) (by omega) (by decide)) (xb_cl (xb_na (xb_nm (xb_lit (x := (6 : Int32)) 6 rfl) (xb_lit e1 rfl)) (xb_lit (x := (5 : Int32)) 5 rfl)) (by omega)) xb_l_i d_M_initTaken_189 ?_
            refine vp_callSi (W.runS (As := [.long ((xb_sl (xb_sl (xb_sl τ17 12 ((6 * e1) + (3 * (1 - e1))) x2) 12 (((6 * e1) + (3 * (1 - e1))) + 1) x3) 12 (((6 * e1) + (3 * (1 - e1))) + 2) x4).2 12 ((6 * e1) + 2)), .long ((xb_sl (xb_sl (xb_sl τ17 12 ((6 * e1) + (3 * (1 - e1))) x2) 12 (((6 * e1) + (3 * (1 - e1))) + 1) x3) 12 (((6 * e1) + (3 * (1 - e1))) + 2) x4).2 12 ((6 * e1) + 5))]) (rest := [.int (nI e1), .ref (α 16)]) ⟨hx, hb, hml, hown, hts⟩ (c_M_common l ((xb_sl (xb_sl (xb_sl τ17 12 ((6 * e1) + (3 * (1 - e1))) x2) 12 (((6 * e1) + (3 * (1 - e1))) + 1) x3) 12 (((6 * e1) + (3 * (1 - e1))) + 2) x4).2 12 ((6 * e1) + 2)) ((xb_sl (xb_sl (xb_sl τ17 12 ((6 * e1) + (3 * (1 - e1))) x2) 12 (((6 * e1) + (3 * (1 - e1))) + 1) x3) 12 (((6 * e1) + (3 * (1 - e1))) + 2) x4).2 12 ((6 * e1) + 5))) (cwS 2 hts (xa_S xw1129 xw1130 xw11 xw1131) rfl rfl rfl (by decide +kernel) ⟨Nat.le_of_ble_eq_true rfl, Nat.le_of_ble_eq_true rfl⟩) preEq rfl rfl hl.1 rfl (lv_room (Nat.le_of_ble_eq_true rfl)) d_M_initTaken_190 ⟨Nat.le_of_ble_eq_true rfl, Nat.le_of_ble_eq_true rfl⟩) (fun r_ e_ => ?_)
            subst e_
            refine lv_goto (tgt := 197) hx hb d_M_initTaken_193 (by decide) ?_
            refine sm_paI (L := 2) (n := e1) (x := (g_common ((xb_sl (xb_sl (xb_sl τ17 12 ((6 * e1) + (3 * (1 - e1))) x2) 12 (((6 * e1) + (3 * (1 - e1))) + 1) x3) 12 (((6 * e1) + (3 * (1 - e1))) + 2) x4).2 12 ((6 * e1) + 2)) ((xb_sl (xb_sl (xb_sl τ17 12 ((6 * e1) + (3 * (1 - e1))) x2) 12 (((6 * e1) + (3 * (1 - e1))) + 1) x3) 12 (((6 * e1) + (3 * (1 - e1))) + 2) x4).2 12 ((6 * e1) + 5)))) hx hb hK hP 16 15 rfl rfl hD hS (xb_in (xb_lit e1 rfl) (by omega) (by decide)) (xb_cl (xb_lit e1 rfl) (by omega)) sm_s_16 d_M_initTaken_197 (fun H locs hP hS => ?_)
            refine lv_aload_n hx hb d_M_initTaken_198 rfl (lv_at hl 2 rfl) ?_
            refine sm_g (v := .ref (α 15)) hx hb ht hown hK hP 17 (by decide) (ht _ xw969) (fun _ h_ => h_) rfl d_M_initTaken_199 ?_
            refine lv_iload_n hx hb d_M_initTaken_202 rfl (lv_at hl 3 rfl) ?_
            refine sm_gaI (L := 2) (n := e1) (v := (g_common ((xb_sl (xb_sl (xb_sl τ17 12 ((6 * e1) + (3 * (1 - e1))) x2) 12 (((6 * e1) + (3 * (1 - e1))) + 1) x3) 12 (((6 * e1) + (3 * (1 - e1))) + 2) x4).2 12 ((6 * e1) + 1)) ((xb_sl (xb_sl (xb_sl τ17 12 ((6 * e1) + (3 * (1 - e1))) x2) 12 (((6 * e1) + (3 * (1 - e1))) + 1) x3) 12 (((6 * e1) + (3 * (1 - e1))) + 2) x4).2 12 ((6 * e1) + 4)))) hx hb hK hP 15 14 rfl rfl (xb_in (xb_lit e1 rfl) (by omega) (by decide)) (xb_cl (xb_lit e1 rfl) (by omega)) (((xb_i_nk (by decide))).trans (xb_i_hit)) d_M_initTaken_203 ?_
            refine lv_if_eq (tgt := 216) hx hb d_M_initTaken_204 (by decide) (fun c22 => ?_) (fun c22 => ?_)
            · skip
              refine lv_aload_n hx hb d_M_initTaken_216 rfl (lv_at hl 2 rfl) ?_
              refine lv_iload_n hx hb d_M_initTaken_217 rfl (lv_at hl 3 rfl) ?_
              refine lv_ldc2 hx hb hown (ht _ xw1132) d_M_initTaken_218 ?_
              refine sm_cv (va_runV (As := [.int (nI e1), .long (3 : Int64)]) (rest := []) ⟨hx, hb, hml, hown, hts⟩ (c_M_fail l D α κ hα (xb_si (xb_si (xb_sl (xb_sl (xb_sl τ17 12 ((6 * e1) + (3 * (1 - e1))) x2) 12 (((6 * e1) + (3 * (1 - e1))) + 1) x3) 12 (((6 * e1) + (3 * (1 - e1))) + 2) x4) 15 e1 (g_common ((xb_sl (xb_sl (xb_sl τ17 12 ((6 * e1) + (3 * (1 - e1))) x2) 12 (((6 * e1) + (3 * (1 - e1))) + 1) x3) 12 (((6 * e1) + (3 * (1 - e1))) + 2) x4).2 12 ((6 * e1) + 1)) ((xb_sl (xb_sl (xb_sl τ17 12 ((6 * e1) + (3 * (1 - e1))) x2) 12 (((6 * e1) + (3 * (1 - e1))) + 1) x3) 12 (((6 * e1) + (3 * (1 - e1))) + 2) x4).2 12 ((6 * e1) + 4)))) 16 e1 (g_common ((xb_sl (xb_sl (xb_sl τ17 12 ((6 * e1) + (3 * (1 - e1))) x2) 12 (((6 * e1) + (3 * (1 - e1))) + 1) x3) 12 (((6 * e1) + (3 * (1 - e1))) + 2) x4).2 12 ((6 * e1) + 2)) ((xb_sl (xb_sl (xb_sl τ17 12 ((6 * e1) + (3 * (1 - e1))) x2) 12 (((6 * e1) + (3 * (1 - e1))) + 1) x3) 12 (((6 * e1) + (3 * (1 - e1))) + 2) x4).2 12 ((6 * e1) + 5)))) (nI e1) e1 (xb_lit e1 rfl) (by omega) (3 : Int64) (mk_si (mk_si (mk_sl (mk_sl (mk_sl okτ17))) (by decide)) (by decide))) (cwV 2 hts (xa_V xw1112 xw1114 xs9 xw11 xw1115) rfl rfl rfl (by decide +kernel) ⟨Nat.le_of_ble_eq_true rfl, Nat.le_of_ble_eq_true rfl⟩) ⟨sm_blind, va_recv (q0 := 0) (ci := 9) hK hP rfl rfl, sm_pre hP hK hN _⟩ rfl rfl hl.1 rfl (lv_room (Nat.le_of_ble_eq_true rfl)) d_M_initTaken_221 ⟨Nat.le_of_ble_eq_true rfl, Nat.le_of_ble_eq_true rfl⟩) hS (fun _ h_ => h_) (fun H locs hP hS => ?_)
              obtain ⟨τ20, hτ20⟩ : ∃ t_, t_ = (q_fail e1 (3 : Int64) (xb_si (xb_si (xb_sl (xb_sl (xb_sl τ17 12 ((6 * e1) + (3 * (1 - e1))) x2) 12 (((6 * e1) + (3 * (1 - e1))) + 1) x3) 12 (((6 * e1) + (3 * (1 - e1))) + 2) x4) 15 e1 (g_common ((xb_sl (xb_sl (xb_sl τ17 12 ((6 * e1) + (3 * (1 - e1))) x2) 12 (((6 * e1) + (3 * (1 - e1))) + 1) x3) 12 (((6 * e1) + (3 * (1 - e1))) + 2) x4).2 12 ((6 * e1) + 1)) ((xb_sl (xb_sl (xb_sl τ17 12 ((6 * e1) + (3 * (1 - e1))) x2) 12 (((6 * e1) + (3 * (1 - e1))) + 1) x3) 12 (((6 * e1) + (3 * (1 - e1))) + 2) x4).2 12 ((6 * e1) + 4)))) 16 e1 (g_common ((xb_sl (xb_sl (xb_sl τ17 12 ((6 * e1) + (3 * (1 - e1))) x2) 12 (((6 * e1) + (3 * (1 - e1))) + 1) x3) 12 (((6 * e1) + (3 * (1 - e1))) + 2) x4).2 12 ((6 * e1) + 2)) ((xb_sl (xb_sl (xb_sl τ17 12 ((6 * e1) + (3 * (1 - e1))) x2) 12 (((6 * e1) + (3 * (1 - e1))) + 1) x3) 12 (((6 * e1) + (3 * (1 - e1))) + 2) x4).2 12 ((6 * e1) + 5))))) := ⟨_, rfl⟩
              rw [← hτ20] at hP
              have okτ20 : sm_ok τ20 := by rw [hτ20]; exact (ok_q_fail e1 (3 : Int64) (by omega) (mk_si (mk_si (mk_sl (mk_sl (mk_sl okτ17))) (by decide)) (by decide)))
              exact W.vret hx hb hr (fun t ht_ hW => ⟨⟨τ20, rfl, (by subst hτ20; subst hτ17; exact ((if_neg c1).trans ((if_pos c13).trans ((if_neg c14).trans ((if_neg c20).trans ((if_neg c21).trans ((if_pos c22))))))).symm), by rw [sm_B, ht_]; exact hP⟩, hS.F ht_⟩) hS.2.2 d_M_initTaken_224
            · skip
              refine lv_aload_n hx hb d_M_initTaken_207 rfl (lv_at hl 2 rfl) ?_
              refine sm_g (v := .ref (α 16)) hx hb ht hown hK hP 18 (by decide) (ht _ xw970) (fun _ h_ => h_) rfl d_M_initTaken_208 ?_
              refine lv_iload_n hx hb d_M_initTaken_211 rfl (lv_at hl 3 rfl) ?_
              refine sm_gaI (L := 2) (n := e1) (v := (g_common ((xb_sl (xb_sl (xb_sl τ17 12 ((6 * e1) + (3 * (1 - e1))) x2) 12 (((6 * e1) + (3 * (1 - e1))) + 1) x3) 12 (((6 * e1) + (3 * (1 - e1))) + 2) x4).2 12 ((6 * e1) + 2)) ((xb_sl (xb_sl (xb_sl τ17 12 ((6 * e1) + (3 * (1 - e1))) x2) 12 (((6 * e1) + (3 * (1 - e1))) + 1) x3) 12 (((6 * e1) + (3 * (1 - e1))) + 2) x4).2 12 ((6 * e1) + 5)))) hx hb hK hP 16 15 rfl rfl (xb_in (xb_lit e1 rfl) (by omega) (by decide)) (xb_cl (xb_lit e1 rfl) (by omega)) xb_i_hit d_M_initTaken_212 ?_
              refine lv_if_ne (tgt := 225) hx hb d_M_initTaken_213 (by decide) (fun c23 => ?_) (fun c23 => ?_)
              · skip
                refine lv_aload_n hx hb d_M_initTaken_225 rfl (lv_at hl 2 rfl) ?_
                refine sm_g (v := .ref (α 4)) hx hb ht hown hK hP 6 (by decide) (ht _ xw958) (fun _ h_ => h_) rfl d_M_initTaken_226 ?_
                refine lv_iload_n hx hb d_M_initTaken_229 rfl (lv_at hl 3 rfl) ?_
                refine lv_iconst (v := 2) hx hb d_M_initTaken_230 (by decide) ?_
                refine sm_paI (L := 2) (n := e1) (x := (2 : Int32)) hx hb hK hP 4 3 rfl rfl hD hS (xb_in (xb_lit e1 rfl) (by omega) (by decide)) (xb_cl (xb_lit e1 rfl) (by omega)) sm_s_4 d_M_initTaken_231 (fun H locs hP hS => ?_)
                refine lv_iload_n hx hb d_M_initTaken_232 rfl (lv_at hl 3 rfl) ?_
                refine lv_if_ne (tgt := 270) hx hb d_M_initTaken_233 (by decide) (fun c24 => ?_) (fun c24 => ?_)
                · skip
                  have nc24 := mt (xb_eqN (xb_lit e1 rfl) (xb_lit (x := (0 : Int32)) 0 rfl) (by omega) (by omega)).mpr c24
                  exact W.vret hx hb hr (fun t ht_ hW => ⟨⟨(xb_si (xb_si (xb_si (xb_sl (xb_sl (xb_sl τ17 12 ((6 * e1) + (3 * (1 - e1))) x2) 12 (((6 * e1) + (3 * (1 - e1))) + 1) x3) 12 (((6 * e1) + (3 * (1 - e1))) + 2) x4) 15 e1 (g_common ((xb_sl (xb_sl (xb_sl τ17 12 ((6 * e1) + (3 * (1 - e1))) x2) 12 (((6 * e1) + (3 * (1 - e1))) + 1) x3) 12 (((6 * e1) + (3 * (1 - e1))) + 2) x4).2 12 ((6 * e1) + 1)) ((xb_sl (xb_sl (xb_sl τ17 12 ((6 * e1) + (3 * (1 - e1))) x2) 12 (((6 * e1) + (3 * (1 - e1))) + 1) x3) 12 (((6 * e1) + (3 * (1 - e1))) + 2) x4).2 12 ((6 * e1) + 4)))) 16 e1 (g_common ((xb_sl (xb_sl (xb_sl τ17 12 ((6 * e1) + (3 * (1 - e1))) x2) 12 (((6 * e1) + (3 * (1 - e1))) + 1) x3) 12 (((6 * e1) + (3 * (1 - e1))) + 2) x4).2 12 ((6 * e1) + 2)) ((xb_sl (xb_sl (xb_sl τ17 12 ((6 * e1) + (3 * (1 - e1))) x2) 12 (((6 * e1) + (3 * (1 - e1))) + 1) x3) 12 (((6 * e1) + (3 * (1 - e1))) + 2) x4).2 12 ((6 * e1) + 5)))) 4 e1 (2 : Int32)), rfl, (by subst hτ17; exact ((if_neg c1).trans ((if_pos c13).trans ((if_neg c14).trans ((if_neg c20).trans ((if_neg c21).trans ((if_neg c22).trans ((if_neg c23).trans ((if_neg c24))))))))).symm), by rw [sm_B, ht_]; exact hP⟩, hS.F ht_⟩) hS.2.2 d_M_initTaken_270
                · skip
                  have nc24 := (xb_eqN (xb_lit e1 rfl) (xb_lit (x := (0 : Int32)) 0 rfl) (by omega) (by omega)).mp c24
                  refine lv_aload_n hx hb d_M_initTaken_236 rfl (lv_at hl 2 rfl) ?_
                  refine sm_g (v := .ref (α 14)) hx hb ht hown hK hP 16 (by decide) (ht _ xw968) (fun _ h_ => h_) rfl d_M_initTaken_237 ?_
                  refine lv_iconst (v := 0) hx hb d_M_initTaken_240 (by decide) ?_
                  refine lv_ldc2 hx hb hown (ht _ xw1133) d_M_initTaken_241 ?_
                  refine lv_aload_n hx hb d_M_initTaken_244 rfl (lv_at hl 2 rfl) ?_
                  refine sm_g (v := .ref (α 13)) hx hb ht hown hK hP 15 (by decide) (ht _ xw967) (fun _ h_ => h_) rfl d_M_initTaken_245 ?_
                  refine lv_iconst (v := 0) hx hb d_M_initTaken_248 (by decide) ?_
                  refine sm_gaJ (L := 2) (n := 0) (v := (τ17.2 13 0)) hx hb hK hP 13 12 rfl rfl (xb_in (xb_lit (x := (0 : Int32)) 0 rfl) (by omega) (by decide)) (xb_cl (xb_lit (x := (0 : Int32)) 0 rfl) (by omega)) ((xb_l_i).trans ((xb_l_i).trans ((xb_l_i).trans (((xb_l_nk (by decide))).trans (((xb_l_nk (by decide))).trans ((xb_l_nk (by decide)))))))) d_M_initTaken_249 ?_
                  refine vp_callSl (W.runS (As := [.long (7 : Int64), .long (τ17.2 13 0)]) (rest := [.int (0 : Int32), .ref (α 14)]) ⟨hx, hb, hml, hown, hts⟩ (c_M_power l (7 : Int64) (τ17.2 13 0)) (cwS 2 hts (xa_S xw1134 xw1135 xw11 xw1136) rfl rfl rfl (by decide +kernel) ⟨Nat.le_of_ble_eq_true rfl, Nat.le_of_ble_eq_true rfl⟩) preEq rfl rfl hl.1 rfl (lv_room (Nat.le_of_ble_eq_true rfl)) d_M_initTaken_250 ⟨Nat.le_of_ble_eq_true rfl, Nat.le_of_ble_eq_true rfl⟩) (fun r_ e_ => ?_)
                  subst e_
                  refine sm_paJ (L := 2) (n := 0) (x := (g_power (7 : Int64) (τ17.2 13 0))) hx hb hK hP 14 13 rfl rfl hD hS (xb_in (xb_lit (x := (0 : Int32)) 0 rfl) (by omega) (by decide)) (xb_cl (xb_lit (x := (0 : Int32)) 0 rfl) (by omega)) sm_s_14 d_M_initTaken_253 (fun H locs hP hS => ?_)
                  refine lv_aload_n hx hb d_M_initTaken_254 rfl (lv_at hl 2 rfl) ?_
                  refine lv_iconst (v := 0) hx hb d_M_initTaken_255 (by decide) ?_
                  refine lv_bipush (v := 30) hx hb d_M_initTaken_256 (by decide) ?_
                  refine lv_aload_n hx hb d_M_initTaken_258 rfl (lv_at hl 2 rfl) ?_
                  refine sm_g (v := .ref (α 14)) hx hb ht hown hK hP 16 (by decide) (ht _ xw968) (fun _ h_ => h_) rfl d_M_initTaken_259 ?_
                  refine lv_iconst (v := 0) hx hb d_M_initTaken_262 (by decide) ?_
                  refine sm_gaJ (L := 2) (n := 0) (v := (g_power (7 : Int64) (τ17.2 13 0))) hx hb hK hP 14 13 rfl rfl (xb_in (xb_lit (x := (0 : Int32)) 0 rfl) (by omega) (by decide)) (xb_cl (xb_lit (x := (0 : Int32)) 0 rfl) (by omega)) xb_l_hit d_M_initTaken_263 ?_
                  refine lv_lconst (v := 0) hx hb d_M_initTaken_264 (by decide) ?_
                  refine lv_lconst (v := 0) hx hb d_M_initTaken_265 (by decide) ?_
                  refine lv_lconst (v := 0) hx hb d_M_initTaken_266 (by decide) ?_
                  refine sm_cv (va_runV (As := [.int (0 : Int32), .int (30 : Int32), .long (g_power (7 : Int64) (τ17.2 13 0)), .long (0 : Int64), .long (0 : Int64), .long (0 : Int64)]) (rest := []) ⟨hx, hb, hml, hown, hts⟩ (c_M_send l D α κ hα (xb_sl (xb_si (xb_si (xb_si (xb_sl (xb_sl (xb_sl τ17 12 ((6 * e1) + (3 * (1 - e1))) x2) 12 (((6 * e1) + (3 * (1 - e1))) + 1) x3) 12 (((6 * e1) + (3 * (1 - e1))) + 2) x4) 15 e1 (g_common ((xb_sl (xb_sl (xb_sl τ17 12 ((6 * e1) + (3 * (1 - e1))) x2) 12 (((6 * e1) + (3 * (1 - e1))) + 1) x3) 12 (((6 * e1) + (3 * (1 - e1))) + 2) x4).2 12 ((6 * e1) + 1)) ((xb_sl (xb_sl (xb_sl τ17 12 ((6 * e1) + (3 * (1 - e1))) x2) 12 (((6 * e1) + (3 * (1 - e1))) + 1) x3) 12 (((6 * e1) + (3 * (1 - e1))) + 2) x4).2 12 ((6 * e1) + 4)))) 16 e1 (g_common ((xb_sl (xb_sl (xb_sl τ17 12 ((6 * e1) + (3 * (1 - e1))) x2) 12 (((6 * e1) + (3 * (1 - e1))) + 1) x3) 12 (((6 * e1) + (3 * (1 - e1))) + 2) x4).2 12 ((6 * e1) + 2)) ((xb_sl (xb_sl (xb_sl τ17 12 ((6 * e1) + (3 * (1 - e1))) x2) 12 (((6 * e1) + (3 * (1 - e1))) + 1) x3) 12 (((6 * e1) + (3 * (1 - e1))) + 2) x4).2 12 ((6 * e1) + 5)))) 4 e1 (2 : Int32)) 14 0 (g_power (7 : Int64) (τ17.2 13 0))) (0 : Int32) 0 (xb_lit (x := (0 : Int32)) 0 rfl) (by omega) (30 : Int32) (g_power (7 : Int64) (τ17.2 13 0)) (0 : Int64) (0 : Int64) (0 : Int64) (mk_sl (mk_si (mk_si (mk_si (mk_sl (mk_sl (mk_sl okτ17))) (by decide)) (by decide)) (by decide)))) (cwV 6 hts (xa_V xw1084 xw1086 xs6 xw11 xw1087) rfl rfl rfl (by decide +kernel) ⟨Nat.le_of_ble_eq_true rfl, Nat.le_of_ble_eq_true rfl⟩) ⟨sm_blind, va_recv (q0 := 0) (ci := 9) hK hP rfl rfl, sm_pre hP hK hN _⟩ rfl rfl hl.1 rfl (lv_room (Nat.le_of_ble_eq_true rfl)) d_M_initTaken_267 ⟨Nat.le_of_ble_eq_true rfl, Nat.le_of_ble_eq_true rfl⟩) hS (fun _ h_ => h_) (fun H locs hP hS => ?_)
                  obtain ⟨τ21, hτ21⟩ : ∃ t_, t_ = (q_send 0 (30 : Int32) (g_power (7 : Int64) (τ17.2 13 0)) (0 : Int64) (0 : Int64) (0 : Int64) (xb_sl (xb_si (xb_si (xb_si (xb_sl (xb_sl (xb_sl τ17 12 ((6 * e1) + (3 * (1 - e1))) x2) 12 (((6 * e1) + (3 * (1 - e1))) + 1) x3) 12 (((6 * e1) + (3 * (1 - e1))) + 2) x4) 15 e1 (g_common ((xb_sl (xb_sl (xb_sl τ17 12 ((6 * e1) + (3 * (1 - e1))) x2) 12 (((6 * e1) + (3 * (1 - e1))) + 1) x3) 12 (((6 * e1) + (3 * (1 - e1))) + 2) x4).2 12 ((6 * e1) + 1)) ((xb_sl (xb_sl (xb_sl τ17 12 ((6 * e1) + (3 * (1 - e1))) x2) 12 (((6 * e1) + (3 * (1 - e1))) + 1) x3) 12 (((6 * e1) + (3 * (1 - e1))) + 2) x4).2 12 ((6 * e1) + 4)))) 16 e1 (g_common ((xb_sl (xb_sl (xb_sl τ17 12 ((6 * e1) + (3 * (1 - e1))) x2) 12 (((6 * e1) + (3 * (1 - e1))) + 1) x3) 12 (((6 * e1) + (3 * (1 - e1))) + 2) x4).2 12 ((6 * e1) + 2)) ((xb_sl (xb_sl (xb_sl τ17 12 ((6 * e1) + (3 * (1 - e1))) x2) 12 (((6 * e1) + (3 * (1 - e1))) + 1) x3) 12 (((6 * e1) + (3 * (1 - e1))) + 2) x4).2 12 ((6 * e1) + 5)))) 4 e1 (2 : Int32)) 14 0 (g_power (7 : Int64) (τ17.2 13 0)))) := ⟨_, rfl⟩
                  rw [← hτ21] at hP
                  have okτ21 : sm_ok τ21 := by rw [hτ21]; exact (ok_q_send 0 (30 : Int32) (g_power (7 : Int64) (τ17.2 13 0)) (0 : Int64) (0 : Int64) (0 : Int64) (by omega) (mk_sl (mk_si (mk_si (mk_si (mk_sl (mk_sl (mk_sl okτ17))) (by decide)) (by decide)) (by decide))))
                  exact W.vret hx hb hr (fun t ht_ hW => ⟨⟨τ21, rfl, (by subst hτ21; subst hτ17; exact ((if_neg c1).trans ((if_pos c13).trans ((if_neg c14).trans ((if_neg c20).trans ((if_neg c21).trans ((if_neg c22).trans ((if_neg c23).trans ((if_pos c24))))))))).symm), by rw [sm_B, ht_]; exact hP⟩, hS.F ht_⟩) hS.2.2 d_M_initTaken_270
              · skip
                refine lv_aload_n hx hb d_M_initTaken_216 rfl (lv_at hl 2 rfl) ?_
                refine lv_iload_n hx hb d_M_initTaken_217 rfl (lv_at hl 3 rfl) ?_
                refine lv_ldc2 hx hb hown (ht _ xw1132) d_M_initTaken_218 ?_
                refine sm_cv (va_runV (As := [.int (nI e1), .long (3 : Int64)]) (rest := []) ⟨hx, hb, hml, hown, hts⟩ (c_M_fail l D α κ hα (xb_si (xb_si (xb_sl (xb_sl (xb_sl τ17 12 ((6 * e1) + (3 * (1 - e1))) x2) 12 (((6 * e1) + (3 * (1 - e1))) + 1) x3) 12 (((6 * e1) + (3 * (1 - e1))) + 2) x4) 15 e1 (g_common ((xb_sl (xb_sl (xb_sl τ17 12 ((6 * e1) + (3 * (1 - e1))) x2) 12 (((6 * e1) + (3 * (1 - e1))) + 1) x3) 12 (((6 * e1) + (3 * (1 - e1))) + 2) x4).2 12 ((6 * e1) + 1)) ((xb_sl (xb_sl (xb_sl τ17 12 ((6 * e1) + (3 * (1 - e1))) x2) 12 (((6 * e1) + (3 * (1 - e1))) + 1) x3) 12 (((6 * e1) + (3 * (1 - e1))) + 2) x4).2 12 ((6 * e1) + 4)))) 16 e1 (g_common ((xb_sl (xb_sl (xb_sl τ17 12 ((6 * e1) + (3 * (1 - e1))) x2) 12 (((6 * e1) + (3 * (1 - e1))) + 1) x3) 12 (((6 * e1) + (3 * (1 - e1))) + 2) x4).2 12 ((6 * e1) + 2)) ((xb_sl (xb_sl (xb_sl τ17 12 ((6 * e1) + (3 * (1 - e1))) x2) 12 (((6 * e1) + (3 * (1 - e1))) + 1) x3) 12 (((6 * e1) + (3 * (1 - e1))) + 2) x4).2 12 ((6 * e1) + 5)))) (nI e1) e1 (xb_lit e1 rfl) (by omega) (3 : Int64) (mk_si (mk_si (mk_sl (mk_sl (mk_sl okτ17))) (by decide)) (by decide))) (cwV 2 hts (xa_V xw1112 xw1114 xs9 xw11 xw1115) rfl rfl rfl (by decide +kernel) ⟨Nat.le_of_ble_eq_true rfl, Nat.le_of_ble_eq_true rfl⟩) ⟨sm_blind, va_recv (q0 := 0) (ci := 9) hK hP rfl rfl, sm_pre hP hK hN _⟩ rfl rfl hl.1 rfl (lv_room (Nat.le_of_ble_eq_true rfl)) d_M_initTaken_221 ⟨Nat.le_of_ble_eq_true rfl, Nat.le_of_ble_eq_true rfl⟩) hS (fun _ h_ => h_) (fun H locs hP hS => ?_)
                obtain ⟨τ22, hτ22⟩ : ∃ t_, t_ = (q_fail e1 (3 : Int64) (xb_si (xb_si (xb_sl (xb_sl (xb_sl τ17 12 ((6 * e1) + (3 * (1 - e1))) x2) 12 (((6 * e1) + (3 * (1 - e1))) + 1) x3) 12 (((6 * e1) + (3 * (1 - e1))) + 2) x4) 15 e1 (g_common ((xb_sl (xb_sl (xb_sl τ17 12 ((6 * e1) + (3 * (1 - e1))) x2) 12 (((6 * e1) + (3 * (1 - e1))) + 1) x3) 12 (((6 * e1) + (3 * (1 - e1))) + 2) x4).2 12 ((6 * e1) + 1)) ((xb_sl (xb_sl (xb_sl τ17 12 ((6 * e1) + (3 * (1 - e1))) x2) 12 (((6 * e1) + (3 * (1 - e1))) + 1) x3) 12 (((6 * e1) + (3 * (1 - e1))) + 2) x4).2 12 ((6 * e1) + 4)))) 16 e1 (g_common ((xb_sl (xb_sl (xb_sl τ17 12 ((6 * e1) + (3 * (1 - e1))) x2) 12 (((6 * e1) + (3 * (1 - e1))) + 1) x3) 12 (((6 * e1) + (3 * (1 - e1))) + 2) x4).2 12 ((6 * e1) + 2)) ((xb_sl (xb_sl (xb_sl τ17 12 ((6 * e1) + (3 * (1 - e1))) x2) 12 (((6 * e1) + (3 * (1 - e1))) + 1) x3) 12 (((6 * e1) + (3 * (1 - e1))) + 2) x4).2 12 ((6 * e1) + 5))))) := ⟨_, rfl⟩
                rw [← hτ22] at hP
                have okτ22 : sm_ok τ22 := by rw [hτ22]; exact (ok_q_fail e1 (3 : Int64) (by omega) (mk_si (mk_si (mk_sl (mk_sl (mk_sl okτ17))) (by decide)) (by decide)))
                exact W.vret hx hb hr (fun t ht_ hW => ⟨⟨τ22, rfl, (by subst hτ22; subst hτ17; exact ((if_neg c1).trans ((if_pos c13).trans ((if_neg c14).trans ((if_neg c20).trans ((if_neg c21).trans ((if_neg c22).trans ((if_pos c23)))))))).symm), by rw [sm_B, ht_]; exact hP⟩, hS.F ht_⟩) hS.2.2 d_M_initTaken_224
    · skip
      refine lv_aload_n hx hb d_M_initTaken_19 rfl (lv_at hl 0 rfl) ?_
      refine sm_g (v := .ref (α 4)) hx hb ht hown hK hP 6 (by decide) (ht _ xw958) (fun _ h_ => h_) rfl d_M_initTaken_20 ?_
      refine lv_iload_n hx hb d_M_initTaken_23 rfl (lv_at hl 1 rfl) ?_
      refine sm_gaI (L := 2) (n := e1) (v := (σ.1 4 e1)) hx hb hK hP 4 3 rfl rfl (xb_in (xb_lit e1 rfl) (by omega) (by decide)) (xb_cl (xb_lit e1 rfl) (by omega)) rfl d_M_initTaken_24 ?_
      refine lv_iconst (v := 1) hx hb d_M_initTaken_25 (by decide) ?_
      refine lv_icmp_eq (tgt := 38) hx hb d_M_initTaken_26 (by decide) (fun c25 => ?_) (fun c25 => ?_)
      · skip
        refine lv_aload_n hx hb d_M_initTaken_38 rfl (lv_at hl 0 rfl) ?_
        refine sm_g (v := .ref (α 4)) hx hb ht hown hK hP 6 (by decide) (ht _ xw958) (fun _ h_ => h_) rfl d_M_initTaken_39 ?_
        refine lv_iload_n hx hb d_M_initTaken_42 rfl (lv_at hl 1 rfl) ?_
        refine sm_gaI (L := 2) (n := e1) (v := (σ.1 4 e1)) hx hb hK hP 4 3 rfl rfl (xb_in (xb_lit e1 rfl) (by omega) (by decide)) (xb_cl (xb_lit e1 rfl) (by omega)) rfl d_M_initTaken_43 ?_
        refine lv_iconst (v := 1) hx hb d_M_initTaken_44 (by decide) ?_
        refine lv_icmp_eq (tgt := 53) hx hb d_M_initTaken_45 (by decide) (fun _ => ?_) (fun h_ => absurd c25 h_)
        refine lv_bipush (v := 6) hx hb d_M_initTaken_53 (by decide) ?_
        refine lv_iload_n hx hb d_M_initTaken_55 rfl (lv_at hl 1 rfl) ?_
        refine lv_imul hx hb d_M_initTaken_56 ?_
        refine lv_iconst (v := 3) hx hb d_M_initTaken_57 (by decide) ?_
        refine lv_iconst (v := 1) hx hb d_M_initTaken_58 (by decide) ?_
        refine lv_iload_n hx hb d_M_initTaken_59 rfl (lv_at hl 1 rfl) ?_
        refine lv_isub hx hb d_M_initTaken_60 ?_
        refine lv_imul hx hb d_M_initTaken_61 ?_
        refine lv_iadd hx hb d_M_initTaken_62 ?_
        refine lv_istore (lv' := [(8, .int (((6 : Int32) * (nI e1)) + ((3 : Int32) * ((1 : Int32) - (nI e1))))), (0, .ref (α 0)), (1, .int (nI e1)), (2, .long x2), (4, .long x3), (6, .long x4)]) hx hb d_M_initTaken_63 hl (by decide) rfl (fun ls hl => ?_)
        refine lv_aload_n hx hb d_M_initTaken_65 rfl (lv_at hl 1 rfl) ?_
        refine sm_g (v := .ref (α 12)) hx hb ht hown hK hP 14 (by decide) (ht _ xw966) (fun _ h_ => h_) rfl d_M_initTaken_66 ?_
        refine lv_iload hx hb d_M_initTaken_69 (lv_at hl 0 rfl) ?_
        refine lv_lload_n hx hb d_M_initTaken_71 rfl (lv_at hl 3 rfl) ?_
        refine sm_paJ (L := 12) (n := ((6 * e1) + (3 * (1 - e1)))) (x := x2) hx hb hK hP 12 11 rfl rfl hD hS (xb_in (xb_na (xb_nm (xb_lit (x := (6 : Int32)) 6 rfl) (xb_lit e1 rfl)) (xb_nm (xb_lit (x := (3 : Int32)) 3 rfl) (xb_ns (xb_lit (x := (1 : Int32)) 1 rfl) (xb_lit e1 rfl) (by omega)))) (by omega) (by decide)) (xb_cl (xb_na (xb_nm (xb_lit (x := (6 : Int32)) 6 rfl) (xb_lit e1 rfl)) (xb_nm (xb_lit (x := (3 : Int32)) 3 rfl) (xb_ns (xb_lit (x := (1 : Int32)) 1 rfl) (xb_lit e1 rfl) (by omega)))) (by omega)) sm_s_12 d_M_initTaken_72 (fun H locs hP hS => ?_)
        refine lv_aload_n hx hb d_M_initTaken_73 rfl (lv_at hl 1 rfl) ?_
        refine sm_g (v := .ref (α 12)) hx hb ht hown hK hP 14 (by decide) (ht _ xw966) (fun _ h_ => h_) rfl d_M_initTaken_74 ?_
        refine lv_iload hx hb d_M_initTaken_77 (lv_at hl 0 rfl) ?_
        refine lv_iconst (v := 1) hx hb d_M_initTaken_79 (by decide) ?_
        refine lv_iadd hx hb d_M_initTaken_80 ?_
        refine lv_lload hx hb d_M_initTaken_81 (lv_at hl 4 rfl) ?_
        refine sm_paJ (L := 12) (n := (((6 * e1) + (3 * (1 - e1))) + 1)) (x := x3) hx hb hK hP 12 11 rfl rfl hD hS (xb_in (xb_na (xb_na (xb_nm (xb_lit (x := (6 : Int32)) 6 rfl) (xb_lit e1 rfl)) (xb_nm (xb_lit (x := (3 : Int32)) 3 rfl) (xb_ns (xb_lit (x := (1 : Int32)) 1 rfl) (xb_lit e1 rfl) (by omega)))) (xb_lit (x := (1 : Int32)) 1 rfl)) (by omega) (by decide)) (xb_cl (xb_na (xb_na (xb_nm (xb_lit (x := (6 : Int32)) 6 rfl) (xb_lit e1 rfl)) (xb_nm (xb_lit (x := (3 : Int32)) 3 rfl) (xb_ns (xb_lit (x := (1 : Int32)) 1 rfl) (xb_lit e1 rfl) (by omega)))) (xb_lit (x := (1 : Int32)) 1 rfl)) (by omega)) sm_s_12 d_M_initTaken_83 (fun H locs hP hS => ?_)
        refine lv_aload_n hx hb d_M_initTaken_84 rfl (lv_at hl 1 rfl) ?_
        refine sm_g (v := .ref (α 12)) hx hb ht hown hK hP 14 (by decide) (ht _ xw966) (fun _ h_ => h_) rfl d_M_initTaken_85 ?_
        refine lv_iload hx hb d_M_initTaken_88 (lv_at hl 0 rfl) ?_
        refine lv_iconst (v := 2) hx hb d_M_initTaken_90 (by decide) ?_
        refine lv_iadd hx hb d_M_initTaken_91 ?_
        refine lv_lload hx hb d_M_initTaken_92 (lv_at hl 5 rfl) ?_
        refine sm_paJ (L := 12) (n := (((6 * e1) + (3 * (1 - e1))) + 2)) (x := x4) hx hb hK hP 12 11 rfl rfl hD hS (xb_in (xb_na (xb_na (xb_nm (xb_lit (x := (6 : Int32)) 6 rfl) (xb_lit e1 rfl)) (xb_nm (xb_lit (x := (3 : Int32)) 3 rfl) (xb_ns (xb_lit (x := (1 : Int32)) 1 rfl) (xb_lit e1 rfl) (by omega)))) (xb_lit (x := (2 : Int32)) 2 rfl)) (by omega) (by decide)) (xb_cl (xb_na (xb_na (xb_nm (xb_lit (x := (6 : Int32)) 6 rfl) (xb_lit e1 rfl)) (xb_nm (xb_lit (x := (3 : Int32)) 3 rfl) (xb_ns (xb_lit (x := (1 : Int32)) 1 rfl) (xb_lit e1 rfl) (by omega)))) (xb_lit (x := (2 : Int32)) 2 rfl)) (by omega)) sm_s_12 d_M_initTaken_94 (fun H locs hP hS => ?_)
        refine lv_lload hx hb d_M_initTaken_95 (lv_at hl 4 rfl) ?_
        refine vp_callSi (W.runS (As := [.long x3]) (rest := []) ⟨hx, hb, hml, hown, hts⟩ (c_M_isList l x3) (cwS 1 hts (xa_S xw1125 xw1126 xw11 xw1127) rfl rfl rfl (by decide +kernel) ⟨Nat.le_of_ble_eq_true rfl, Nat.le_of_ble_eq_true rfl⟩) preEq rfl rfl hl.1 rfl (lv_room (Nat.le_of_ble_eq_true rfl)) d_M_initTaken_97 ⟨Nat.le_of_ble_eq_true rfl, Nat.le_of_ble_eq_true rfl⟩) (fun r_ e_ => ?_)
        subst e_
        refine lv_if_eq (tgt := 115) hx hb d_M_initTaken_100 (by decide) (fun c26 => ?_) (fun c26 => ?_)
        · skip
          refine lv_iconst (v := 0) hx hb d_M_initTaken_115 (by decide) ?_
          refine lv_istore (lv' := [(9, .int (0 : Int32)), (8, .int (((6 : Int32) * (nI e1)) + ((3 : Int32) * ((1 : Int32) - (nI e1))))), (0, .ref (α 0)), (1, .int (nI e1)), (2, .long x2), (4, .long x3), (6, .long x4)]) hx hb d_M_initTaken_116 hl (by decide) rfl (fun ls hl => ?_)
          refine lv_aload_n hx hb d_M_initTaken_118 rfl (lv_at hl 2 rfl) ?_
          refine sm_g (v := .ref (α 15)) hx hb ht hown hK hP 17 (by decide) (ht _ xw969) (fun _ h_ => h_) rfl d_M_initTaken_119 ?_
          refine lv_iload_n hx hb d_M_initTaken_122 rfl (lv_at hl 3 rfl) ?_
          refine lv_iload hx hb d_M_initTaken_123 (lv_at hl 0 rfl) ?_
          refine lv_if_eq (tgt := 156) hx hb d_M_initTaken_125 (by decide) (fun _ => ?_) (fun h_ => absurd h_ (by decide))
          refine lv_iconst (v := 0) hx hb d_M_initTaken_156 (by decide) ?_
          refine sm_paI (L := 2) (n := e1) (x := (0 : Int32)) hx hb hK hP 15 14 rfl rfl hD hS (xb_in (xb_lit e1 rfl) (by omega) (by decide)) (xb_cl (xb_lit e1 rfl) (by omega)) sm_s_15 d_M_initTaken_157 (fun H locs hP hS => ?_)
          refine lv_aload_n hx hb d_M_initTaken_158 rfl (lv_at hl 2 rfl) ?_
          refine sm_g (v := .ref (α 16)) hx hb ht hown hK hP 18 (by decide) (ht _ xw970) (fun _ h_ => h_) rfl d_M_initTaken_159 ?_
          refine lv_iload_n hx hb d_M_initTaken_162 rfl (lv_at hl 3 rfl) ?_
          refine lv_iload hx hb d_M_initTaken_163 (lv_at hl 0 rfl) ?_
          refine lv_if_eq (tgt := 196) hx hb d_M_initTaken_165 (by decide) (fun _ => ?_) (fun h_ => absurd h_ (by decide))
          refine lv_iconst (v := 0) hx hb d_M_initTaken_196 (by decide) ?_
          refine sm_paI (L := 2) (n := e1) (x := (0 : Int32)) hx hb hK hP 16 15 rfl rfl hD hS (xb_in (xb_lit e1 rfl) (by omega) (by decide)) (xb_cl (xb_lit e1 rfl) (by omega)) sm_s_16 d_M_initTaken_197 (fun H locs hP hS => ?_)
          refine lv_aload_n hx hb d_M_initTaken_198 rfl (lv_at hl 2 rfl) ?_
          refine sm_g (v := .ref (α 15)) hx hb ht hown hK hP 17 (by decide) (ht _ xw969) (fun _ h_ => h_) rfl d_M_initTaken_199 ?_
          refine lv_iload_n hx hb d_M_initTaken_202 rfl (lv_at hl 3 rfl) ?_
          refine sm_gaI (L := 2) (n := e1) (v := (0 : Int32)) hx hb hK hP 15 14 rfl rfl (xb_in (xb_lit e1 rfl) (by omega) (by decide)) (xb_cl (xb_lit e1 rfl) (by omega)) (((xb_i_nk (by decide))).trans (xb_i_hit)) d_M_initTaken_203 ?_
          refine lv_if_eq (tgt := 216) hx hb d_M_initTaken_204 (by decide) (fun _ => ?_) (fun h_ => absurd h_ (by decide))
          refine lv_aload_n hx hb d_M_initTaken_216 rfl (lv_at hl 2 rfl) ?_
          refine lv_iload_n hx hb d_M_initTaken_217 rfl (lv_at hl 3 rfl) ?_
          refine lv_ldc2 hx hb hown (ht _ xw1132) d_M_initTaken_218 ?_
          refine sm_cv (va_runV (As := [.int (nI e1), .long (3 : Int64)]) (rest := []) ⟨hx, hb, hml, hown, hts⟩ (c_M_fail l D α κ hα (xb_si (xb_si (xb_sl (xb_sl (xb_sl σ 12 ((6 * e1) + (3 * (1 - e1))) x2) 12 (((6 * e1) + (3 * (1 - e1))) + 1) x3) 12 (((6 * e1) + (3 * (1 - e1))) + 2) x4) 15 e1 (0 : Int32)) 16 e1 (0 : Int32)) (nI e1) e1 (xb_lit e1 rfl) (by omega) (3 : Int64) (mk_si (mk_si (mk_sl (mk_sl (mk_sl ok))) (by decide)) (by decide))) (cwV 2 hts (xa_V xw1112 xw1114 xs9 xw11 xw1115) rfl rfl rfl (by decide +kernel) ⟨Nat.le_of_ble_eq_true rfl, Nat.le_of_ble_eq_true rfl⟩) ⟨sm_blind, va_recv (q0 := 0) (ci := 9) hK hP rfl rfl, sm_pre hP hK hN _⟩ rfl rfl hl.1 rfl (lv_room (Nat.le_of_ble_eq_true rfl)) d_M_initTaken_221 ⟨Nat.le_of_ble_eq_true rfl, Nat.le_of_ble_eq_true rfl⟩) hS (fun _ h_ => h_) (fun H locs hP hS => ?_)
          obtain ⟨τ23, hτ23⟩ : ∃ t_, t_ = (q_fail e1 (3 : Int64) (xb_si (xb_si (xb_sl (xb_sl (xb_sl σ 12 ((6 * e1) + (3 * (1 - e1))) x2) 12 (((6 * e1) + (3 * (1 - e1))) + 1) x3) 12 (((6 * e1) + (3 * (1 - e1))) + 2) x4) 15 e1 (0 : Int32)) 16 e1 (0 : Int32))) := ⟨_, rfl⟩
          rw [← hτ23] at hP
          have okτ23 : sm_ok τ23 := by rw [hτ23]; exact (ok_q_fail e1 (3 : Int64) (by omega) (mk_si (mk_si (mk_sl (mk_sl (mk_sl ok))) (by decide)) (by decide)))
          exact W.vret hx hb hr (fun t ht_ hW => ⟨⟨τ23, rfl, (by subst hτ23; exact ((if_neg c1).trans ((if_neg c13).trans ((if_pos c25).trans ((if_pos c26))))).symm), by rw [sm_B, ht_]; exact hP⟩, hS.F ht_⟩) hS.2.2 d_M_initTaken_224
        · skip
          refine lv_lload hx hb d_M_initTaken_103 (lv_at hl 5 rfl) ?_
          refine vp_callSi (W.runS (As := [.long x4]) (rest := []) ⟨hx, hb, hml, hown, hts⟩ (c_M_isList l x4) (cwS 1 hts (xa_S xw1125 xw1126 xw11 xw1127) rfl rfl rfl (by decide +kernel) ⟨Nat.le_of_ble_eq_true rfl, Nat.le_of_ble_eq_true rfl⟩) preEq rfl rfl hl.1 rfl (lv_room (Nat.le_of_ble_eq_true rfl)) d_M_initTaken_105 ⟨Nat.le_of_ble_eq_true rfl, Nat.le_of_ble_eq_true rfl⟩) (fun r_ e_ => ?_)
          subst e_
          refine lv_if_eq (tgt := 115) hx hb d_M_initTaken_108 (by decide) (fun c27 => ?_) (fun c27 => ?_)
          · skip
            refine lv_iconst (v := 0) hx hb d_M_initTaken_115 (by decide) ?_
            refine lv_istore (lv' := [(9, .int (0 : Int32)), (8, .int (((6 : Int32) * (nI e1)) + ((3 : Int32) * ((1 : Int32) - (nI e1))))), (0, .ref (α 0)), (1, .int (nI e1)), (2, .long x2), (4, .long x3), (6, .long x4)]) hx hb d_M_initTaken_116 hl (by decide) rfl (fun ls hl => ?_)
            refine lv_aload_n hx hb d_M_initTaken_118 rfl (lv_at hl 2 rfl) ?_
            refine sm_g (v := .ref (α 15)) hx hb ht hown hK hP 17 (by decide) (ht _ xw969) (fun _ h_ => h_) rfl d_M_initTaken_119 ?_
            refine lv_iload_n hx hb d_M_initTaken_122 rfl (lv_at hl 3 rfl) ?_
            refine lv_iload hx hb d_M_initTaken_123 (lv_at hl 0 rfl) ?_
            refine lv_if_eq (tgt := 156) hx hb d_M_initTaken_125 (by decide) (fun _ => ?_) (fun h_ => absurd h_ (by decide))
            refine lv_iconst (v := 0) hx hb d_M_initTaken_156 (by decide) ?_
            refine sm_paI (L := 2) (n := e1) (x := (0 : Int32)) hx hb hK hP 15 14 rfl rfl hD hS (xb_in (xb_lit e1 rfl) (by omega) (by decide)) (xb_cl (xb_lit e1 rfl) (by omega)) sm_s_15 d_M_initTaken_157 (fun H locs hP hS => ?_)
            refine lv_aload_n hx hb d_M_initTaken_158 rfl (lv_at hl 2 rfl) ?_
            refine sm_g (v := .ref (α 16)) hx hb ht hown hK hP 18 (by decide) (ht _ xw970) (fun _ h_ => h_) rfl d_M_initTaken_159 ?_
            refine lv_iload_n hx hb d_M_initTaken_162 rfl (lv_at hl 3 rfl) ?_
            refine lv_iload hx hb d_M_initTaken_163 (lv_at hl 0 rfl) ?_
            refine lv_if_eq (tgt := 196) hx hb d_M_initTaken_165 (by decide) (fun _ => ?_) (fun h_ => absurd h_ (by decide))
            refine lv_iconst (v := 0) hx hb d_M_initTaken_196 (by decide) ?_
            refine sm_paI (L := 2) (n := e1) (x := (0 : Int32)) hx hb hK hP 16 15 rfl rfl hD hS (xb_in (xb_lit e1 rfl) (by omega) (by decide)) (xb_cl (xb_lit e1 rfl) (by omega)) sm_s_16 d_M_initTaken_197 (fun H locs hP hS => ?_)
            refine lv_aload_n hx hb d_M_initTaken_198 rfl (lv_at hl 2 rfl) ?_
            refine sm_g (v := .ref (α 15)) hx hb ht hown hK hP 17 (by decide) (ht _ xw969) (fun _ h_ => h_) rfl d_M_initTaken_199 ?_
            refine lv_iload_n hx hb d_M_initTaken_202 rfl (lv_at hl 3 rfl) ?_
            refine sm_gaI (L := 2) (n := e1) (v := (0 : Int32)) hx hb hK hP 15 14 rfl rfl (xb_in (xb_lit e1 rfl) (by omega) (by decide)) (xb_cl (xb_lit e1 rfl) (by omega)) (((xb_i_nk (by decide))).trans (xb_i_hit)) d_M_initTaken_203 ?_
            refine lv_if_eq (tgt := 216) hx hb d_M_initTaken_204 (by decide) (fun _ => ?_) (fun h_ => absurd h_ (by decide))
            refine lv_aload_n hx hb d_M_initTaken_216 rfl (lv_at hl 2 rfl) ?_
            refine lv_iload_n hx hb d_M_initTaken_217 rfl (lv_at hl 3 rfl) ?_
            refine lv_ldc2 hx hb hown (ht _ xw1132) d_M_initTaken_218 ?_
            refine sm_cv (va_runV (As := [.int (nI e1), .long (3 : Int64)]) (rest := []) ⟨hx, hb, hml, hown, hts⟩ (c_M_fail l D α κ hα (xb_si (xb_si (xb_sl (xb_sl (xb_sl σ 12 ((6 * e1) + (3 * (1 - e1))) x2) 12 (((6 * e1) + (3 * (1 - e1))) + 1) x3) 12 (((6 * e1) + (3 * (1 - e1))) + 2) x4) 15 e1 (0 : Int32)) 16 e1 (0 : Int32)) (nI e1) e1 (xb_lit e1 rfl) (by omega) (3 : Int64) (mk_si (mk_si (mk_sl (mk_sl (mk_sl ok))) (by decide)) (by decide))) (cwV 2 hts (xa_V xw1112 xw1114 xs9 xw11 xw1115) rfl rfl rfl (by decide +kernel) ⟨Nat.le_of_ble_eq_true rfl, Nat.le_of_ble_eq_true rfl⟩) ⟨sm_blind, va_recv (q0 := 0) (ci := 9) hK hP rfl rfl, sm_pre hP hK hN _⟩ rfl rfl hl.1 rfl (lv_room (Nat.le_of_ble_eq_true rfl)) d_M_initTaken_221 ⟨Nat.le_of_ble_eq_true rfl, Nat.le_of_ble_eq_true rfl⟩) hS (fun _ h_ => h_) (fun H locs hP hS => ?_)
            obtain ⟨τ24, hτ24⟩ : ∃ t_, t_ = (q_fail e1 (3 : Int64) (xb_si (xb_si (xb_sl (xb_sl (xb_sl σ 12 ((6 * e1) + (3 * (1 - e1))) x2) 12 (((6 * e1) + (3 * (1 - e1))) + 1) x3) 12 (((6 * e1) + (3 * (1 - e1))) + 2) x4) 15 e1 (0 : Int32)) 16 e1 (0 : Int32))) := ⟨_, rfl⟩
            rw [← hτ24] at hP
            have okτ24 : sm_ok τ24 := by rw [hτ24]; exact (ok_q_fail e1 (3 : Int64) (by omega) (mk_si (mk_si (mk_sl (mk_sl (mk_sl ok))) (by decide)) (by decide)))
            exact W.vret hx hb hr (fun t ht_ hW => ⟨⟨τ24, rfl, (by subst hτ24; exact ((if_neg c1).trans ((if_neg c13).trans ((if_pos c25).trans ((if_neg c26).trans ((if_pos c27)))))).symm), by rw [sm_B, ht_]; exact hP⟩, hS.F ht_⟩) hS.2.2 d_M_initTaken_224
          · skip
            refine lv_iconst (v := 1) hx hb d_M_initTaken_111 (by decide) ?_
            refine lv_goto (tgt := 116) hx hb d_M_initTaken_112 (by decide) ?_
            refine lv_istore (lv' := [(9, .int (1 : Int32)), (8, .int (((6 : Int32) * (nI e1)) + ((3 : Int32) * ((1 : Int32) - (nI e1))))), (0, .ref (α 0)), (1, .int (nI e1)), (2, .long x2), (4, .long x3), (6, .long x4)]) hx hb d_M_initTaken_116 hl (by decide) rfl (fun ls hl => ?_)
            refine lv_aload_n hx hb d_M_initTaken_118 rfl (lv_at hl 2 rfl) ?_
            refine sm_g (v := .ref (α 15)) hx hb ht hown hK hP 17 (by decide) (ht _ xw969) (fun _ h_ => h_) rfl d_M_initTaken_119 ?_
            refine lv_iload_n hx hb d_M_initTaken_122 rfl (lv_at hl 3 rfl) ?_
            refine lv_iload hx hb d_M_initTaken_123 (lv_at hl 0 rfl) ?_
            refine lv_if_eq (tgt := 156) hx hb d_M_initTaken_125 (by decide) (fun h_ => absurd h_ (by decide)) (fun _ => ?_)
            refine lv_aload_n hx hb d_M_initTaken_128 rfl (lv_at hl 2 rfl) ?_
            refine sm_g (v := .ref (α 12)) hx hb ht hown hK hP 14 (by decide) (ht _ xw966) (fun _ h_ => h_) rfl d_M_initTaken_129 ?_
            refine lv_bipush (v := 6) hx hb d_M_initTaken_132 (by decide) ?_
            refine lv_iload_n hx hb d_M_initTaken_134 rfl (lv_at hl 3 rfl) ?_
            refine lv_imul hx hb d_M_initTaken_135 ?_
            refine lv_iconst (v := 1) hx hb d_M_initTaken_136 (by decide) ?_
            refine lv_iadd hx hb d_M_initTaken_137 ?_
            refine sm_gaJ (L := 12) (n := ((6 * e1) + 1)) (v := ((xb_sl (xb_sl (xb_sl σ 12 ((6 * e1) + (3 * (1 - e1))) x2) 12 (((6 * e1) + (3 * (1 - e1))) + 1) x3) 12 (((6 * e1) + (3 * (1 - e1))) + 2) x4).2 12 ((6 * e1) + 1))) hx hb hK hP 12 11 rfl rfl (xb_in (xb_na (xb_nm (xb_lit (x := (6 : Int32)) 6 rfl) (xb_lit e1 rfl)) (xb_lit (x := (1 : Int32)) 1 rfl)) (by omega) (by decide)) (xb_cl (xb_na (xb_nm (xb_lit (x := (6 : Int32)) 6 rfl) (xb_lit e1 rfl)) (xb_lit (x := (1 : Int32)) 1 rfl)) (by omega)) rfl d_M_initTaken_138 ?_
            refine lv_aload_n hx hb d_M_initTaken_139 rfl (lv_at hl 2 rfl) ?_
            refine sm_g (v := .ref (α 12)) hx hb ht hown hK hP 14 (by decide) (ht _ xw966) (fun _ h_ => h_) rfl d_M_initTaken_140 ?_
            refine lv_bipush (v := 6) hx hb d_M_initTaken_143 (by decide) ?_
            refine lv_iload_n hx hb d_M_initTaken_145 rfl (lv_at hl 3 rfl) ?_
            refine lv_imul hx hb d_M_initTaken_146 ?_
            refine lv_iconst (v := 4) hx hb d_M_initTaken_147 (by decide) ?_
            refine lv_iadd hx hb d_M_initTaken_148 ?_
            refine sm_gaJ (L := 12) (n := ((6 * e1) + 4)) (v := ((xb_sl (xb_sl (xb_sl σ 12 ((6 * e1) + (3 * (1 - e1))) x2) 12 (((6 * e1) + (3 * (1 - e1))) + 1) x3) 12 (((6 * e1) + (3 * (1 - e1))) + 2) x4).2 12 ((6 * e1) + 4))) hx hb hK hP 12 11 rfl rfl (xb_in (xb_na (xb_nm (xb_lit (x := (6 : Int32)) 6 rfl) (xb_lit e1 rfl)) (xb_lit (x := (4 : Int32)) 4 rfl)) (by omega) (by decide)) (xb_cl (xb_na (xb_nm (xb_lit (x := (6 : Int32)) 6 rfl) (xb_lit e1 rfl)) (xb_lit (x := (4 : Int32)) 4 rfl)) (by omega)) rfl d_M_initTaken_149 ?_
            refine vp_callSi (W.runS (As := [.long ((xb_sl (xb_sl (xb_sl σ 12 ((6 * e1) + (3 * (1 - e1))) x2) 12 (((6 * e1) + (3 * (1 - e1))) + 1) x3) 12 (((6 * e1) + (3 * (1 - e1))) + 2) x4).2 12 ((6 * e1) + 1)), .long ((xb_sl (xb_sl (xb_sl σ 12 ((6 * e1) + (3 * (1 - e1))) x2) 12 (((6 * e1) + (3 * (1 - e1))) + 1) x3) 12 (((6 * e1) + (3 * (1 - e1))) + 2) x4).2 12 ((6 * e1) + 4))]) (rest := [.int (nI e1), .ref (α 15)]) ⟨hx, hb, hml, hown, hts⟩ (c_M_common l ((xb_sl (xb_sl (xb_sl σ 12 ((6 * e1) + (3 * (1 - e1))) x2) 12 (((6 * e1) + (3 * (1 - e1))) + 1) x3) 12 (((6 * e1) + (3 * (1 - e1))) + 2) x4).2 12 ((6 * e1) + 1)) ((xb_sl (xb_sl (xb_sl σ 12 ((6 * e1) + (3 * (1 - e1))) x2) 12 (((6 * e1) + (3 * (1 - e1))) + 1) x3) 12 (((6 * e1) + (3 * (1 - e1))) + 2) x4).2 12 ((6 * e1) + 4))) (cwS 2 hts (xa_S xw1129 xw1130 xw11 xw1131) rfl rfl rfl (by decide +kernel) ⟨Nat.le_of_ble_eq_true rfl, Nat.le_of_ble_eq_true rfl⟩) preEq rfl rfl hl.1 rfl (lv_room (Nat.le_of_ble_eq_true rfl)) d_M_initTaken_150 ⟨Nat.le_of_ble_eq_true rfl, Nat.le_of_ble_eq_true rfl⟩) (fun r_ e_ => ?_)
            subst e_
            refine lv_goto (tgt := 157) hx hb d_M_initTaken_153 (by decide) ?_
            refine sm_paI (L := 2) (n := e1) (x := (g_common ((xb_sl (xb_sl (xb_sl σ 12 ((6 * e1) + (3 * (1 - e1))) x2) 12 (((6 * e1) + (3 * (1 - e1))) + 1) x3) 12 (((6 * e1) + (3 * (1 - e1))) + 2) x4).2 12 ((6 * e1) + 1)) ((xb_sl (xb_sl (xb_sl σ 12 ((6 * e1) + (3 * (1 - e1))) x2) 12 (((6 * e1) + (3 * (1 - e1))) + 1) x3) 12 (((6 * e1) + (3 * (1 - e1))) + 2) x4).2 12 ((6 * e1) + 4)))) hx hb hK hP 15 14 rfl rfl hD hS (xb_in (xb_lit e1 rfl) (by omega) (by decide)) (xb_cl (xb_lit e1 rfl) (by omega)) sm_s_15 d_M_initTaken_157 (fun H locs hP hS => ?_)
            refine lv_aload_n hx hb d_M_initTaken_158 rfl (lv_at hl 2 rfl) ?_
            refine sm_g (v := .ref (α 16)) hx hb ht hown hK hP 18 (by decide) (ht _ xw970) (fun _ h_ => h_) rfl d_M_initTaken_159 ?_
            refine lv_iload_n hx hb d_M_initTaken_162 rfl (lv_at hl 3 rfl) ?_
            refine lv_iload hx hb d_M_initTaken_163 (lv_at hl 0 rfl) ?_
            refine lv_if_eq (tgt := 196) hx hb d_M_initTaken_165 (by decide) (fun h_ => absurd h_ (by decide)) (fun _ => ?_)
            refine lv_aload_n hx hb d_M_initTaken_168 rfl (lv_at hl 2 rfl) ?_
            refine sm_g (v := .ref (α 12)) hx hb ht hown hK hP 14 (by decide) (ht _ xw966) (fun _ h_ => h_) rfl d_M_initTaken_169 ?_
            refine lv_bipush (v := 6) hx hb d_M_initTaken_172 (by decide) ?_
            refine lv_iload_n hx hb d_M_initTaken_174 rfl (lv_at hl 3 rfl) ?_
            refine lv_imul hx hb d_M_initTaken_175 ?_
            refine lv_iconst (v := 2) hx hb d_M_initTaken_176 (by decide) ?_
            refine lv_iadd hx hb d_M_initTaken_177 ?_
            refine sm_gaJ (L := 12) (n := ((6 * e1) + 2)) (v := ((xb_sl (xb_sl (xb_sl σ 12 ((6 * e1) + (3 * (1 - e1))) x2) 12 (((6 * e1) + (3 * (1 - e1))) + 1) x3) 12 (((6 * e1) + (3 * (1 - e1))) + 2) x4).2 12 ((6 * e1) + 2))) hx hb hK hP 12 11 rfl rfl (xb_in (xb_na (xb_nm (xb_lit (x := (6 : Int32)) 6 rfl) (xb_lit e1 rfl)) (xb_lit (x := (2 : Int32)) 2 rfl)) (by omega) (by decide)) (xb_cl (xb_na (xb_nm (xb_lit (x := (6 : Int32)) 6 rfl) (xb_lit e1 rfl)) (xb_lit (x := (2 : Int32)) 2 rfl)) (by omega)) xb_l_i d_M_initTaken_178 ?_
            refine lv_aload_n hx hb d_M_initTaken_179 rfl (lv_at hl 2 rfl) ?_
            refine sm_g (v := .ref (α 12)) hx hb ht hown hK hP 14 (by decide) (ht _ xw966) (fun _ h_ => h_) rfl d_M_initTaken_180 ?_
            refine lv_bipush (v := 6) hx hb d_M_initTaken_183 (by decide) ?_
            refine lv_iload_n hx hb d_M_initTaken_185 rfl (lv_at hl 3 rfl) ?_
            refine lv_imul hx hb d_M_initTaken_186 ?_
            refine lv_iconst (v := 5) hx hb d_M_initTaken_187 (by decide) ?_
            refine lv_iadd hx hb d_M_initTaken_188 ?_
            refine sm_gaJ (L := 12) (n := ((6 * e1) + 5)) (v := ((xb_sl (xb_sl (xb_sl σ 12 ((6 * e1) + (3 * (1 - e1))) x2) 12 (((6 * e1) + (3 * (1 - e1))) + 1) x3) 12 (((6 * e1) + (3 * (1 - e1))) + 2) x4).2 12 ((6 * e1) + 5))) hx hb hK hP 12 11 rfl rfl (xb_in (xb_na (xb_nm (xb_lit (x := (6 : Int32)) 6 rfl) (xb_lit e1 rfl)) (xb_lit (x := (5 : Int32)) 5 rfl)) (by omega) (by decide)) (xb_cl (xb_na (xb_nm (xb_lit (x := (6 : Int32)) 6 rfl) (xb_lit e1 rfl)) (xb_lit (x := (5 : Int32)) 5 rfl)) (by omega)) xb_l_i d_M_initTaken_189 ?_
            refine vp_callSi (W.runS (As := [.long ((xb_sl (xb_sl (xb_sl σ 12 ((6 * e1) + (3 * (1 - e1))) x2) 12 (((6 * e1) + (3 * (1 - e1))) + 1) x3) 12 (((6 * e1) + (3 * (1 - e1))) + 2) x4).2 12 ((6 * e1) + 2)), .long ((xb_sl (xb_sl (xb_sl σ 12 ((6 * e1) + (3 * (1 - e1))) x2) 12 (((6 * e1) + (3 * (1 - e1))) + 1) x3) 12 (((6 * e1) + (3 * (1 - e1))) + 2) x4).2 12 ((6 * e1) + 5))]) (rest := [.int (nI e1), .ref (α 16)]) ⟨hx, hb, hml, hown, hts⟩ (c_M_common l ((xb_sl (xb_sl (xb_sl σ 12 ((6 * e1) + (3 * (1 - e1))) x2) 12 (((6 * e1) + (3 * (1 - e1))) + 1) x3) 12 (((6 * e1) + (3 * (1 - e1))) + 2) x4).2 12 ((6 * e1) + 2)) ((xb_sl (xb_sl (xb_sl σ 12 ((6 * e1) + (3 * (1 - e1))) x2) 12 (((6 * e1) + (3 * (1 - e1))) + 1) x3) 12 (((6 * e1) + (3 * (1 - e1))) + 2) x4).2 12 ((6 * e1) + 5))) (cwS 2 hts (xa_S xw1129 xw1130 xw11 xw1131) rfl rfl rfl (by decide +kernel) ⟨Nat.le_of_ble_eq_true rfl, Nat.le_of_ble_eq_true rfl⟩) preEq rfl rfl hl.1 rfl (lv_room (Nat.le_of_ble_eq_true rfl)) d_M_initTaken_190 ⟨Nat.le_of_ble_eq_true rfl, Nat.le_of_ble_eq_true rfl⟩) (fun r_ e_ => ?_)
            subst e_
            refine lv_goto (tgt := 197) hx hb d_M_initTaken_193 (by decide) ?_
            refine sm_paI (L := 2) (n := e1) (x := (g_common ((xb_sl (xb_sl (xb_sl σ 12 ((6 * e1) + (3 * (1 - e1))) x2) 12 (((6 * e1) + (3 * (1 - e1))) + 1) x3) 12 (((6 * e1) + (3 * (1 - e1))) + 2) x4).2 12 ((6 * e1) + 2)) ((xb_sl (xb_sl (xb_sl σ 12 ((6 * e1) + (3 * (1 - e1))) x2) 12 (((6 * e1) + (3 * (1 - e1))) + 1) x3) 12 (((6 * e1) + (3 * (1 - e1))) + 2) x4).2 12 ((6 * e1) + 5)))) hx hb hK hP 16 15 rfl rfl hD hS (xb_in (xb_lit e1 rfl) (by omega) (by decide)) (xb_cl (xb_lit e1 rfl) (by omega)) sm_s_16 d_M_initTaken_197 (fun H locs hP hS => ?_)
            refine lv_aload_n hx hb d_M_initTaken_198 rfl (lv_at hl 2 rfl) ?_
            refine sm_g (v := .ref (α 15)) hx hb ht hown hK hP 17 (by decide) (ht _ xw969) (fun _ h_ => h_) rfl d_M_initTaken_199 ?_
            refine lv_iload_n hx hb d_M_initTaken_202 rfl (lv_at hl 3 rfl) ?_
            refine sm_gaI (L := 2) (n := e1) (v := (g_common ((xb_sl (xb_sl (xb_sl σ 12 ((6 * e1) + (3 * (1 - e1))) x2) 12 (((6 * e1) + (3 * (1 - e1))) + 1) x3) 12 (((6 * e1) + (3 * (1 - e1))) + 2) x4).2 12 ((6 * e1) + 1)) ((xb_sl (xb_sl (xb_sl σ 12 ((6 * e1) + (3 * (1 - e1))) x2) 12 (((6 * e1) + (3 * (1 - e1))) + 1) x3) 12 (((6 * e1) + (3 * (1 - e1))) + 2) x4).2 12 ((6 * e1) + 4)))) hx hb hK hP 15 14 rfl rfl (xb_in (xb_lit e1 rfl) (by omega) (by decide)) (xb_cl (xb_lit e1 rfl) (by omega)) (((xb_i_nk (by decide))).trans (xb_i_hit)) d_M_initTaken_203 ?_
            refine lv_if_eq (tgt := 216) hx hb d_M_initTaken_204 (by decide) (fun c28 => ?_) (fun c28 => ?_)
            · skip
              refine lv_aload_n hx hb d_M_initTaken_216 rfl (lv_at hl 2 rfl) ?_
              refine lv_iload_n hx hb d_M_initTaken_217 rfl (lv_at hl 3 rfl) ?_
              refine lv_ldc2 hx hb hown (ht _ xw1132) d_M_initTaken_218 ?_
              refine sm_cv (va_runV (As := [.int (nI e1), .long (3 : Int64)]) (rest := []) ⟨hx, hb, hml, hown, hts⟩ (c_M_fail l D α κ hα (xb_si (xb_si (xb_sl (xb_sl (xb_sl σ 12 ((6 * e1) + (3 * (1 - e1))) x2) 12 (((6 * e1) + (3 * (1 - e1))) + 1) x3) 12 (((6 * e1) + (3 * (1 - e1))) + 2) x4) 15 e1 (g_common ((xb_sl (xb_sl (xb_sl σ 12 ((6 * e1) + (3 * (1 - e1))) x2) 12 (((6 * e1) + (3 * (1 - e1))) + 1) x3) 12 (((6 * e1) + (3 * (1 - e1))) + 2) x4).2 12 ((6 * e1) + 1)) ((xb_sl (xb_sl (xb_sl σ 12 ((6 * e1) + (3 * (1 - e1))) x2) 12 (((6 * e1) + (3 * (1 - e1))) + 1) x3) 12 (((6 * e1) + (3 * (1 - e1))) + 2) x4).2 12 ((6 * e1) + 4)))) 16 e1 (g_common ((xb_sl (xb_sl (xb_sl σ 12 ((6 * e1) + (3 * (1 - e1))) x2) 12 (((6 * e1) + (3 * (1 - e1))) + 1) x3) 12 (((6 * e1) + (3 * (1 - e1))) + 2) x4).2 12 ((6 * e1) + 2)) ((xb_sl (xb_sl (xb_sl σ 12 ((6 * e1) + (3 * (1 - e1))) x2) 12 (((6 * e1) + (3 * (1 - e1))) + 1) x3) 12 (((6 * e1) + (3 * (1 - e1))) + 2) x4).2 12 ((6 * e1) + 5)))) (nI e1) e1 (xb_lit e1 rfl) (by omega) (3 : Int64) (mk_si (mk_si (mk_sl (mk_sl (mk_sl ok))) (by decide)) (by decide))) (cwV 2 hts (xa_V xw1112 xw1114 xs9 xw11 xw1115) rfl rfl rfl (by decide +kernel) ⟨Nat.le_of_ble_eq_true rfl, Nat.le_of_ble_eq_true rfl⟩) ⟨sm_blind, va_recv (q0 := 0) (ci := 9) hK hP rfl rfl, sm_pre hP hK hN _⟩ rfl rfl hl.1 rfl (lv_room (Nat.le_of_ble_eq_true rfl)) d_M_initTaken_221 ⟨Nat.le_of_ble_eq_true rfl, Nat.le_of_ble_eq_true rfl⟩) hS (fun _ h_ => h_) (fun H locs hP hS => ?_)
              obtain ⟨τ25, hτ25⟩ : ∃ t_, t_ = (q_fail e1 (3 : Int64) (xb_si (xb_si (xb_sl (xb_sl (xb_sl σ 12 ((6 * e1) + (3 * (1 - e1))) x2) 12 (((6 * e1) + (3 * (1 - e1))) + 1) x3) 12 (((6 * e1) + (3 * (1 - e1))) + 2) x4) 15 e1 (g_common ((xb_sl (xb_sl (xb_sl σ 12 ((6 * e1) + (3 * (1 - e1))) x2) 12 (((6 * e1) + (3 * (1 - e1))) + 1) x3) 12 (((6 * e1) + (3 * (1 - e1))) + 2) x4).2 12 ((6 * e1) + 1)) ((xb_sl (xb_sl (xb_sl σ 12 ((6 * e1) + (3 * (1 - e1))) x2) 12 (((6 * e1) + (3 * (1 - e1))) + 1) x3) 12 (((6 * e1) + (3 * (1 - e1))) + 2) x4).2 12 ((6 * e1) + 4)))) 16 e1 (g_common ((xb_sl (xb_sl (xb_sl σ 12 ((6 * e1) + (3 * (1 - e1))) x2) 12 (((6 * e1) + (3 * (1 - e1))) + 1) x3) 12 (((6 * e1) + (3 * (1 - e1))) + 2) x4).2 12 ((6 * e1) + 2)) ((xb_sl (xb_sl (xb_sl σ 12 ((6 * e1) + (3 * (1 - e1))) x2) 12 (((6 * e1) + (3 * (1 - e1))) + 1) x3) 12 (((6 * e1) + (3 * (1 - e1))) + 2) x4).2 12 ((6 * e1) + 5))))) := ⟨_, rfl⟩
              rw [← hτ25] at hP
              have okτ25 : sm_ok τ25 := by rw [hτ25]; exact (ok_q_fail e1 (3 : Int64) (by omega) (mk_si (mk_si (mk_sl (mk_sl (mk_sl ok))) (by decide)) (by decide)))
              exact W.vret hx hb hr (fun t ht_ hW => ⟨⟨τ25, rfl, (by subst hτ25; exact ((if_neg c1).trans ((if_neg c13).trans ((if_pos c25).trans ((if_neg c26).trans ((if_neg c27).trans ((if_pos c28))))))).symm), by rw [sm_B, ht_]; exact hP⟩, hS.F ht_⟩) hS.2.2 d_M_initTaken_224
            · skip
              refine lv_aload_n hx hb d_M_initTaken_207 rfl (lv_at hl 2 rfl) ?_
              refine sm_g (v := .ref (α 16)) hx hb ht hown hK hP 18 (by decide) (ht _ xw970) (fun _ h_ => h_) rfl d_M_initTaken_208 ?_
              refine lv_iload_n hx hb d_M_initTaken_211 rfl (lv_at hl 3 rfl) ?_
              refine sm_gaI (L := 2) (n := e1) (v := (g_common ((xb_sl (xb_sl (xb_sl σ 12 ((6 * e1) + (3 * (1 - e1))) x2) 12 (((6 * e1) + (3 * (1 - e1))) + 1) x3) 12 (((6 * e1) + (3 * (1 - e1))) + 2) x4).2 12 ((6 * e1) + 2)) ((xb_sl (xb_sl (xb_sl σ 12 ((6 * e1) + (3 * (1 - e1))) x2) 12 (((6 * e1) + (3 * (1 - e1))) + 1) x3) 12 (((6 * e1) + (3 * (1 - e1))) + 2) x4).2 12 ((6 * e1) + 5)))) hx hb hK hP 16 15 rfl rfl (xb_in (xb_lit e1 rfl) (by omega) (by decide)) (xb_cl (xb_lit e1 rfl) (by omega)) xb_i_hit d_M_initTaken_212 ?_
              refine lv_if_ne (tgt := 225) hx hb d_M_initTaken_213 (by decide) (fun c29 => ?_) (fun c29 => ?_)
              · skip
                refine lv_aload_n hx hb d_M_initTaken_225 rfl (lv_at hl 2 rfl) ?_
                refine sm_g (v := .ref (α 4)) hx hb ht hown hK hP 6 (by decide) (ht _ xw958) (fun _ h_ => h_) rfl d_M_initTaken_226 ?_
                refine lv_iload_n hx hb d_M_initTaken_229 rfl (lv_at hl 3 rfl) ?_
                refine lv_iconst (v := 2) hx hb d_M_initTaken_230 (by decide) ?_
                refine sm_paI (L := 2) (n := e1) (x := (2 : Int32)) hx hb hK hP 4 3 rfl rfl hD hS (xb_in (xb_lit e1 rfl) (by omega) (by decide)) (xb_cl (xb_lit e1 rfl) (by omega)) sm_s_4 d_M_initTaken_231 (fun H locs hP hS => ?_)
                refine lv_iload_n hx hb d_M_initTaken_232 rfl (lv_at hl 3 rfl) ?_
                refine lv_if_ne (tgt := 270) hx hb d_M_initTaken_233 (by decide) (fun c30 => ?_) (fun c30 => ?_)
                · skip
                  have nc30 := mt (xb_eqN (xb_lit e1 rfl) (xb_lit (x := (0 : Int32)) 0 rfl) (by omega) (by omega)).mpr c30
                  exact W.vret hx hb hr (fun t ht_ hW => ⟨⟨(xb_si (xb_si (xb_si (xb_sl (xb_sl (xb_sl σ 12 ((6 * e1) + (3 * (1 - e1))) x2) 12 (((6 * e1) + (3 * (1 - e1))) + 1) x3) 12 (((6 * e1) + (3 * (1 - e1))) + 2) x4) 15 e1 (g_common ((xb_sl (xb_sl (xb_sl σ 12 ((6 * e1) + (3 * (1 - e1))) x2) 12 (((6 * e1) + (3 * (1 - e1))) + 1) x3) 12 (((6 * e1) + (3 * (1 - e1))) + 2) x4).2 12 ((6 * e1) + 1)) ((xb_sl (xb_sl (xb_sl σ 12 ((6 * e1) + (3 * (1 - e1))) x2) 12 (((6 * e1) + (3 * (1 - e1))) + 1) x3) 12 (((6 * e1) + (3 * (1 - e1))) + 2) x4).2 12 ((6 * e1) + 4)))) 16 e1 (g_common ((xb_sl (xb_sl (xb_sl σ 12 ((6 * e1) + (3 * (1 - e1))) x2) 12 (((6 * e1) + (3 * (1 - e1))) + 1) x3) 12 (((6 * e1) + (3 * (1 - e1))) + 2) x4).2 12 ((6 * e1) + 2)) ((xb_sl (xb_sl (xb_sl σ 12 ((6 * e1) + (3 * (1 - e1))) x2) 12 (((6 * e1) + (3 * (1 - e1))) + 1) x3) 12 (((6 * e1) + (3 * (1 - e1))) + 2) x4).2 12 ((6 * e1) + 5)))) 4 e1 (2 : Int32)), rfl, ((if_neg c1).trans ((if_neg c13).trans ((if_pos c25).trans ((if_neg c26).trans ((if_neg c27).trans ((if_neg c28).trans ((if_neg c29).trans ((if_neg c30))))))))).symm, by rw [sm_B, ht_]; exact hP⟩, hS.F ht_⟩) hS.2.2 d_M_initTaken_270
                · skip
                  have nc30 := (xb_eqN (xb_lit e1 rfl) (xb_lit (x := (0 : Int32)) 0 rfl) (by omega) (by omega)).mp c30
                  refine lv_aload_n hx hb d_M_initTaken_236 rfl (lv_at hl 2 rfl) ?_
                  refine sm_g (v := .ref (α 14)) hx hb ht hown hK hP 16 (by decide) (ht _ xw968) (fun _ h_ => h_) rfl d_M_initTaken_237 ?_
                  refine lv_iconst (v := 0) hx hb d_M_initTaken_240 (by decide) ?_
                  refine lv_ldc2 hx hb hown (ht _ xw1133) d_M_initTaken_241 ?_
                  refine lv_aload_n hx hb d_M_initTaken_244 rfl (lv_at hl 2 rfl) ?_
                  refine sm_g (v := .ref (α 13)) hx hb ht hown hK hP 15 (by decide) (ht _ xw967) (fun _ h_ => h_) rfl d_M_initTaken_245 ?_
                  refine lv_iconst (v := 0) hx hb d_M_initTaken_248 (by decide) ?_
                  refine sm_gaJ (L := 2) (n := 0) (v := (σ.2 13 0)) hx hb hK hP 13 12 rfl rfl (xb_in (xb_lit (x := (0 : Int32)) 0 rfl) (by omega) (by decide)) (xb_cl (xb_lit (x := (0 : Int32)) 0 rfl) (by omega)) ((xb_l_i).trans ((xb_l_i).trans ((xb_l_i).trans (((xb_l_nk (by decide))).trans (((xb_l_nk (by decide))).trans ((xb_l_nk (by decide)))))))) d_M_initTaken_249 ?_
                  refine vp_callSl (W.runS (As := [.long (7 : Int64), .long (σ.2 13 0)]) (rest := [.int (0 : Int32), .ref (α 14)]) ⟨hx, hb, hml, hown, hts⟩ (c_M_power l (7 : Int64) (σ.2 13 0)) (cwS 2 hts (xa_S xw1134 xw1135 xw11 xw1136) rfl rfl rfl (by decide +kernel) ⟨Nat.le_of_ble_eq_true rfl, Nat.le_of_ble_eq_true rfl⟩) preEq rfl rfl hl.1 rfl (lv_room (Nat.le_of_ble_eq_true rfl)) d_M_initTaken_250 ⟨Nat.le_of_ble_eq_true rfl, Nat.le_of_ble_eq_true rfl⟩) (fun r_ e_ => ?_)
                  subst e_
                  refine sm_paJ (L := 2) (n := 0) (x := (g_power (7 : Int64) (σ.2 13 0))) hx hb hK hP 14 13 rfl rfl hD hS (xb_in (xb_lit (x := (0 : Int32)) 0 rfl) (by omega) (by decide)) (xb_cl (xb_lit (x := (0 : Int32)) 0 rfl) (by omega)) sm_s_14 d_M_initTaken_253 (fun H locs hP hS => ?_)
                  refine lv_aload_n hx hb d_M_initTaken_254 rfl (lv_at hl 2 rfl) ?_
                  refine lv_iconst (v := 0) hx hb d_M_initTaken_255 (by decide) ?_
                  refine lv_bipush (v := 30) hx hb d_M_initTaken_256 (by decide) ?_
                  refine lv_aload_n hx hb d_M_initTaken_258 rfl (lv_at hl 2 rfl) ?_
                  refine sm_g (v := .ref (α 14)) hx hb ht hown hK hP 16 (by decide) (ht _ xw968) (fun _ h_ => h_) rfl d_M_initTaken_259 ?_
                  refine lv_iconst (v := 0) hx hb d_M_initTaken_262 (by decide) ?_
                  refine sm_gaJ (L := 2) (n := 0) (v := (g_power (7 : Int64) (σ.2 13 0))) hx hb hK hP 14 13 rfl rfl (xb_in (xb_lit (x := (0 : Int32)) 0 rfl) (by omega) (by decide)) (xb_cl (xb_lit (x := (0 : Int32)) 0 rfl) (by omega)) xb_l_hit d_M_initTaken_263 ?_
                  refine lv_lconst (v := 0) hx hb d_M_initTaken_264 (by decide) ?_
                  refine lv_lconst (v := 0) hx hb d_M_initTaken_265 (by decide) ?_
                  refine lv_lconst (v := 0) hx hb d_M_initTaken_266 (by decide) ?_
                  refine sm_cv (va_runV (As := [.int (0 : Int32), .int (30 : Int32), .long (g_power (7 : Int64) (σ.2 13 0)), .long (0 : Int64), .long (0 : Int64), .long (0 : Int64)]) (rest := []) ⟨hx, hb, hml, hown, hts⟩ (c_M_send l D α κ hα (xb_sl (xb_si (xb_si (xb_si (xb_sl (xb_sl (xb_sl σ 12 ((6 * e1) + (3 * (1 - e1))) x2) 12 (((6 * e1) + (3 * (1 - e1))) + 1) x3) 12 (((6 * e1) + (3 * (1 - e1))) + 2) x4) 15 e1 (g_common ((xb_sl (xb_sl (xb_sl σ 12 ((6 * e1) + (3 * (1 - e1))) x2) 12 (((6 * e1) + (3 * (1 - e1))) + 1) x3) 12 (((6 * e1) + (3 * (1 - e1))) + 2) x4).2 12 ((6 * e1) + 1)) ((xb_sl (xb_sl (xb_sl σ 12 ((6 * e1) + (3 * (1 - e1))) x2) 12 (((6 * e1) + (3 * (1 - e1))) + 1) x3) 12 (((6 * e1) + (3 * (1 - e1))) + 2) x4).2 12 ((6 * e1) + 4)))) 16 e1 (g_common ((xb_sl (xb_sl (xb_sl σ 12 ((6 * e1) + (3 * (1 - e1))) x2) 12 (((6 * e1) + (3 * (1 - e1))) + 1) x3) 12 (((6 * e1) + (3 * (1 - e1))) + 2) x4).2 12 ((6 * e1) + 2)) ((xb_sl (xb_sl (xb_sl σ 12 ((6 * e1) + (3 * (1 - e1))) x2) 12 (((6 * e1) + (3 * (1 - e1))) + 1) x3) 12 (((6 * e1) + (3 * (1 - e1))) + 2) x4).2 12 ((6 * e1) + 5)))) 4 e1 (2 : Int32)) 14 0 (g_power (7 : Int64) (σ.2 13 0))) (0 : Int32) 0 (xb_lit (x := (0 : Int32)) 0 rfl) (by omega) (30 : Int32) (g_power (7 : Int64) (σ.2 13 0)) (0 : Int64) (0 : Int64) (0 : Int64) (mk_sl (mk_si (mk_si (mk_si (mk_sl (mk_sl (mk_sl ok))) (by decide)) (by decide)) (by decide)))) (cwV 6 hts (xa_V xw1084 xw1086 xs6 xw11 xw1087) rfl rfl rfl (by decide +kernel) ⟨Nat.le_of_ble_eq_true rfl, Nat.le_of_ble_eq_true rfl⟩) ⟨sm_blind, va_recv (q0 := 0) (ci := 9) hK hP rfl rfl, sm_pre hP hK hN _⟩ rfl rfl hl.1 rfl (lv_room (Nat.le_of_ble_eq_true rfl)) d_M_initTaken_267 ⟨Nat.le_of_ble_eq_true rfl, Nat.le_of_ble_eq_true rfl⟩) hS (fun _ h_ => h_) (fun H locs hP hS => ?_)
                  obtain ⟨τ26, hτ26⟩ : ∃ t_, t_ = (q_send 0 (30 : Int32) (g_power (7 : Int64) (σ.2 13 0)) (0 : Int64) (0 : Int64) (0 : Int64) (xb_sl (xb_si (xb_si (xb_si (xb_sl (xb_sl (xb_sl σ 12 ((6 * e1) + (3 * (1 - e1))) x2) 12 (((6 * e1) + (3 * (1 - e1))) + 1) x3) 12 (((6 * e1) + (3 * (1 - e1))) + 2) x4) 15 e1 (g_common ((xb_sl (xb_sl (xb_sl σ 12 ((6 * e1) + (3 * (1 - e1))) x2) 12 (((6 * e1) + (3 * (1 - e1))) + 1) x3) 12 (((6 * e1) + (3 * (1 - e1))) + 2) x4).2 12 ((6 * e1) + 1)) ((xb_sl (xb_sl (xb_sl σ 12 ((6 * e1) + (3 * (1 - e1))) x2) 12 (((6 * e1) + (3 * (1 - e1))) + 1) x3) 12 (((6 * e1) + (3 * (1 - e1))) + 2) x4).2 12 ((6 * e1) + 4)))) 16 e1 (g_common ((xb_sl (xb_sl (xb_sl σ 12 ((6 * e1) + (3 * (1 - e1))) x2) 12 (((6 * e1) + (3 * (1 - e1))) + 1) x3) 12 (((6 * e1) + (3 * (1 - e1))) + 2) x4).2 12 ((6 * e1) + 2)) ((xb_sl (xb_sl (xb_sl σ 12 ((6 * e1) + (3 * (1 - e1))) x2) 12 (((6 * e1) + (3 * (1 - e1))) + 1) x3) 12 (((6 * e1) + (3 * (1 - e1))) + 2) x4).2 12 ((6 * e1) + 5)))) 4 e1 (2 : Int32)) 14 0 (g_power (7 : Int64) (σ.2 13 0)))) := ⟨_, rfl⟩
                  rw [← hτ26] at hP
                  have okτ26 : sm_ok τ26 := by rw [hτ26]; exact (ok_q_send 0 (30 : Int32) (g_power (7 : Int64) (σ.2 13 0)) (0 : Int64) (0 : Int64) (0 : Int64) (by omega) (mk_sl (mk_si (mk_si (mk_si (mk_sl (mk_sl (mk_sl ok))) (by decide)) (by decide)) (by decide))))
                  exact W.vret hx hb hr (fun t ht_ hW => ⟨⟨τ26, rfl, (by subst hτ26; exact ((if_neg c1).trans ((if_neg c13).trans ((if_pos c25).trans ((if_neg c26).trans ((if_neg c27).trans ((if_neg c28).trans ((if_neg c29).trans ((if_pos c30))))))))).symm), by rw [sm_B, ht_]; exact hP⟩, hS.F ht_⟩) hS.2.2 d_M_initTaken_270
              · skip
                refine lv_aload_n hx hb d_M_initTaken_216 rfl (lv_at hl 2 rfl) ?_
                refine lv_iload_n hx hb d_M_initTaken_217 rfl (lv_at hl 3 rfl) ?_
                refine lv_ldc2 hx hb hown (ht _ xw1132) d_M_initTaken_218 ?_
                refine sm_cv (va_runV (As := [.int (nI e1), .long (3 : Int64)]) (rest := []) ⟨hx, hb, hml, hown, hts⟩ (c_M_fail l D α κ hα (xb_si (xb_si (xb_sl (xb_sl (xb_sl σ 12 ((6 * e1) + (3 * (1 - e1))) x2) 12 (((6 * e1) + (3 * (1 - e1))) + 1) x3) 12 (((6 * e1) + (3 * (1 - e1))) + 2) x4) 15 e1 (g_common ((xb_sl (xb_sl (xb_sl σ 12 ((6 * e1) + (3 * (1 - e1))) x2) 12 (((6 * e1) + (3 * (1 - e1))) + 1) x3) 12 (((6 * e1) + (3 * (1 - e1))) + 2) x4).2 12 ((6 * e1) + 1)) ((xb_sl (xb_sl (xb_sl σ 12 ((6 * e1) + (3 * (1 - e1))) x2) 12 (((6 * e1) + (3 * (1 - e1))) + 1) x3) 12 (((6 * e1) + (3 * (1 - e1))) + 2) x4).2 12 ((6 * e1) + 4)))) 16 e1 (g_common ((xb_sl (xb_sl (xb_sl σ 12 ((6 * e1) + (3 * (1 - e1))) x2) 12 (((6 * e1) + (3 * (1 - e1))) + 1) x3) 12 (((6 * e1) + (3 * (1 - e1))) + 2) x4).2 12 ((6 * e1) + 2)) ((xb_sl (xb_sl (xb_sl σ 12 ((6 * e1) + (3 * (1 - e1))) x2) 12 (((6 * e1) + (3 * (1 - e1))) + 1) x3) 12 (((6 * e1) + (3 * (1 - e1))) + 2) x4).2 12 ((6 * e1) + 5)))) (nI e1) e1 (xb_lit e1 rfl) (by omega) (3 : Int64) (mk_si (mk_si (mk_sl (mk_sl (mk_sl ok))) (by decide)) (by decide))) (cwV 2 hts (xa_V xw1112 xw1114 xs9 xw11 xw1115) rfl rfl rfl (by decide +kernel) ⟨Nat.le_of_ble_eq_true rfl, Nat.le_of_ble_eq_true rfl⟩) ⟨sm_blind, va_recv (q0 := 0) (ci := 9) hK hP rfl rfl, sm_pre hP hK hN _⟩ rfl rfl hl.1 rfl (lv_room (Nat.le_of_ble_eq_true rfl)) d_M_initTaken_221 ⟨Nat.le_of_ble_eq_true rfl, Nat.le_of_ble_eq_true rfl⟩) hS (fun _ h_ => h_) (fun H locs hP hS => ?_)
                obtain ⟨τ27, hτ27⟩ : ∃ t_, t_ = (q_fail e1 (3 : Int64) (xb_si (xb_si (xb_sl (xb_sl (xb_sl σ 12 ((6 * e1) + (3 * (1 - e1))) x2) 12 (((6 * e1) + (3 * (1 - e1))) + 1) x3) 12 (((6 * e1) + (3 * (1 - e1))) + 2) x4) 15 e1 (g_common ((xb_sl (xb_sl (xb_sl σ 12 ((6 * e1) + (3 * (1 - e1))) x2) 12 (((6 * e1) + (3 * (1 - e1))) + 1) x3) 12 (((6 * e1) + (3 * (1 - e1))) + 2) x4).2 12 ((6 * e1) + 1)) ((xb_sl (xb_sl (xb_sl σ 12 ((6 * e1) + (3 * (1 - e1))) x2) 12 (((6 * e1) + (3 * (1 - e1))) + 1) x3) 12 (((6 * e1) + (3 * (1 - e1))) + 2) x4).2 12 ((6 * e1) + 4)))) 16 e1 (g_common ((xb_sl (xb_sl (xb_sl σ 12 ((6 * e1) + (3 * (1 - e1))) x2) 12 (((6 * e1) + (3 * (1 - e1))) + 1) x3) 12 (((6 * e1) + (3 * (1 - e1))) + 2) x4).2 12 ((6 * e1) + 2)) ((xb_sl (xb_sl (xb_sl σ 12 ((6 * e1) + (3 * (1 - e1))) x2) 12 (((6 * e1) + (3 * (1 - e1))) + 1) x3) 12 (((6 * e1) + (3 * (1 - e1))) + 2) x4).2 12 ((6 * e1) + 5))))) := ⟨_, rfl⟩
                rw [← hτ27] at hP
                have okτ27 : sm_ok τ27 := by rw [hτ27]; exact (ok_q_fail e1 (3 : Int64) (by omega) (mk_si (mk_si (mk_sl (mk_sl (mk_sl ok))) (by decide)) (by decide)))
                exact W.vret hx hb hr (fun t ht_ hW => ⟨⟨τ27, rfl, (by subst hτ27; exact ((if_neg c1).trans ((if_neg c13).trans ((if_pos c25).trans ((if_neg c26).trans ((if_neg c27).trans ((if_neg c28).trans ((if_pos c29)))))))).symm), by rw [sm_B, ht_]; exact hP⟩, hS.F ht_⟩) hS.2.2 d_M_initTaken_224
      · skip
        refine lv_aload_n hx hb d_M_initTaken_29 rfl (lv_at hl 0 rfl) ?_
        refine lv_iload_n hx hb d_M_initTaken_30 rfl (lv_at hl 1 rfl) ?_
        refine lv_ldc2 hx hb hown (ht _ xw1120) d_M_initTaken_31 ?_
        refine sm_cv (va_runV (As := [.int (nI e1), .long (2 : Int64)]) (rest := []) ⟨hx, hb, hml, hown, hts⟩ (c_M_fail l D α κ hα σ (nI e1) e1 (xb_lit e1 rfl) (by omega) (2 : Int64) ok) (cwV 2 hts (xa_V xw1112 xw1114 xs9 xw11 xw1115) rfl rfl rfl (by decide +kernel) ⟨Nat.le_of_ble_eq_true rfl, Nat.le_of_ble_eq_true rfl⟩) ⟨sm_blind, va_recv (q0 := 0) (ci := 9) hK hP rfl rfl, sm_pre hP hK hN _⟩ rfl rfl hl.1 rfl (lv_room (Nat.le_of_ble_eq_true rfl)) d_M_initTaken_34 ⟨Nat.le_of_ble_eq_true rfl, Nat.le_of_ble_eq_true rfl⟩) hS (fun _ h_ => h_) (fun H locs hP hS => ?_)
        obtain ⟨τ28, hτ28⟩ : ∃ t_, t_ = (q_fail e1 (2 : Int64) σ) := ⟨_, rfl⟩
        rw [← hτ28] at hP
        have okτ28 : sm_ok τ28 := by rw [hτ28]; exact (ok_q_fail e1 (2 : Int64) (by omega) ok)
        exact W.vret hx hb hr (fun t ht_ hW => ⟨⟨τ28, rfl, (by subst hτ28; exact ((if_neg c1).trans ((if_neg c13).trans ((if_neg c25)))).symm), by rw [sm_B, ht_]; exact hP⟩, hS.F ht_⟩) hS.2.2 d_M_initTaken_37
theorem ok_q_init {σ : xb_St} (e1 : Nat) (x2 : Int64) (x3 : Int64) (x4 : Int64) (b_e1 : e1 < 2) (ok : sm_ok σ) : sm_ok (q_init e1 x2 x3 x4 σ) := by
  unfold q_init
  by_cases c1 : (σ.1 4 e1) = 0
  · rw [if_pos c1]
    by_cases c2 : (σ.1 4 e1) = (1 : Int32)
    · rw [if_pos c2]
      by_cases c3 : (g_isList x3) = 0
      · rw [if_pos c3]
        exact (ok_q_fail e1 (3 : Int64) (by omega) (mk_si (mk_si (mk_sl (mk_sl (mk_sl ok))) (by decide)) (by decide)))
      · rw [if_neg c3]
        by_cases c4 : (g_isList x4) = 0
        · rw [if_pos c4]
          exact (ok_q_fail e1 (3 : Int64) (by omega) (mk_si (mk_si (mk_sl (mk_sl (mk_sl ok))) (by decide)) (by decide)))
        · rw [if_neg c4]
          by_cases c5 : (g_common ((xb_sl (xb_sl (xb_sl σ 12 ((6 * e1) + (3 * (1 - e1))) x2) 12 (((6 * e1) + (3 * (1 - e1))) + 1) x3) 12 (((6 * e1) + (3 * (1 - e1))) + 2) x4).2 12 ((6 * e1) + 1)) ((xb_sl (xb_sl (xb_sl σ 12 ((6 * e1) + (3 * (1 - e1))) x2) 12 (((6 * e1) + (3 * (1 - e1))) + 1) x3) 12 (((6 * e1) + (3 * (1 - e1))) + 2) x4).2 12 ((6 * e1) + 4))) = 0
          · rw [if_pos c5]
            exact (ok_q_fail e1 (3 : Int64) (by omega) (mk_si (mk_si (mk_sl (mk_sl (mk_sl ok))) (by decide)) (by decide)))
          · rw [if_neg c5]
            by_cases c6 : (g_common ((xb_sl (xb_sl (xb_sl σ 12 ((6 * e1) + (3 * (1 - e1))) x2) 12 (((6 * e1) + (3 * (1 - e1))) + 1) x3) 12 (((6 * e1) + (3 * (1 - e1))) + 2) x4).2 12 ((6 * e1) + 2)) ((xb_sl (xb_sl (xb_sl σ 12 ((6 * e1) + (3 * (1 - e1))) x2) 12 (((6 * e1) + (3 * (1 - e1))) + 1) x3) 12 (((6 * e1) + (3 * (1 - e1))) + 2) x4).2 12 ((6 * e1) + 5))) = 0
            · rw [if_pos c6]
              exact (ok_q_fail e1 (3 : Int64) (by omega) (mk_si (mk_si (mk_sl (mk_sl (mk_sl ok))) (by decide)) (by decide)))
            · rw [if_neg c6]
              by_cases c7 : (nI e1) = 0
              · rw [if_pos c7]
                exact (ok_q_send 0 (30 : Int32) (g_power (7 : Int64) (σ.2 13 0)) (0 : Int64) (0 : Int64) (0 : Int64) (by omega) (mk_sl (mk_si (mk_si (mk_si (mk_sl (mk_sl (mk_sl ok))) (by decide)) (by decide)) (by decide))))
              · rw [if_neg c7]
                exact (mk_si (mk_si (mk_si (mk_sl (mk_sl (mk_sl ok))) (by decide)) (by decide)) (by decide))
    · rw [if_neg c2]
      by_cases c8 : (g_isList x3) = 0
      · rw [if_pos c8]
        exact (ok_q_fail e1 (3 : Int64) (by omega) (mk_si (mk_si (mk_sl (mk_sl (mk_sl (ok_q_start e1 (by omega) ok)))) (by decide)) (by decide)))
      · rw [if_neg c8]
        by_cases c9 : (g_isList x4) = 0
        · rw [if_pos c9]
          exact (ok_q_fail e1 (3 : Int64) (by omega) (mk_si (mk_si (mk_sl (mk_sl (mk_sl (ok_q_start e1 (by omega) ok)))) (by decide)) (by decide)))
        · rw [if_neg c9]
          by_cases c10 : (g_common ((xb_sl (xb_sl (xb_sl (q_start e1 σ) 12 ((6 * e1) + (3 * (1 - e1))) x2) 12 (((6 * e1) + (3 * (1 - e1))) + 1) x3) 12 (((6 * e1) + (3 * (1 - e1))) + 2) x4).2 12 ((6 * e1) + 1)) ((xb_sl (xb_sl (xb_sl (q_start e1 σ) 12 ((6 * e1) + (3 * (1 - e1))) x2) 12 (((6 * e1) + (3 * (1 - e1))) + 1) x3) 12 (((6 * e1) + (3 * (1 - e1))) + 2) x4).2 12 ((6 * e1) + 4))) = 0
          · rw [if_pos c10]
            exact (ok_q_fail e1 (3 : Int64) (by omega) (mk_si (mk_si (mk_sl (mk_sl (mk_sl (ok_q_start e1 (by omega) ok)))) (by decide)) (by decide)))
          · rw [if_neg c10]
            by_cases c11 : (g_common ((xb_sl (xb_sl (xb_sl (q_start e1 σ) 12 ((6 * e1) + (3 * (1 - e1))) x2) 12 (((6 * e1) + (3 * (1 - e1))) + 1) x3) 12 (((6 * e1) + (3 * (1 - e1))) + 2) x4).2 12 ((6 * e1) + 2)) ((xb_sl (xb_sl (xb_sl (q_start e1 σ) 12 ((6 * e1) + (3 * (1 - e1))) x2) 12 (((6 * e1) + (3 * (1 - e1))) + 1) x3) 12 (((6 * e1) + (3 * (1 - e1))) + 2) x4).2 12 ((6 * e1) + 5))) = 0
            · rw [if_pos c11]
              exact (ok_q_fail e1 (3 : Int64) (by omega) (mk_si (mk_si (mk_sl (mk_sl (mk_sl (ok_q_start e1 (by omega) ok)))) (by decide)) (by decide)))
            · rw [if_neg c11]
              by_cases c12 : (nI e1) = 0
              · rw [if_pos c12]
                exact (ok_q_send 0 (30 : Int32) (g_power (7 : Int64) ((q_start e1 σ).2 13 0)) (0 : Int64) (0 : Int64) (0 : Int64) (by omega) (mk_sl (mk_si (mk_si (mk_si (mk_sl (mk_sl (mk_sl (ok_q_start e1 (by omega) ok)))) (by decide)) (by decide)) (by decide))))
              · rw [if_neg c12]
                exact (mk_si (mk_si (mk_si (mk_sl (mk_sl (mk_sl (ok_q_start e1 (by omega) ok)))) (by decide)) (by decide)) (by decide))
  · rw [if_neg c1]
    by_cases c13 : (σ.1 4 e1) = (4 : Int32)
    · rw [if_pos c13]
      by_cases c14 : (σ.1 4 e1) = (1 : Int32)
      · rw [if_pos c14]
        by_cases c15 : (g_isList x3) = 0
        · rw [if_pos c15]
          exact (ok_q_fail e1 (3 : Int64) (by omega) (mk_si (mk_si (mk_sl (mk_sl (mk_sl ok))) (by decide)) (by decide)))
        · rw [if_neg c15]
          by_cases c16 : (g_isList x4) = 0
          · rw [if_pos c16]
            exact (ok_q_fail e1 (3 : Int64) (by omega) (mk_si (mk_si (mk_sl (mk_sl (mk_sl ok))) (by decide)) (by decide)))
          · rw [if_neg c16]
            by_cases c17 : (g_common ((xb_sl (xb_sl (xb_sl σ 12 ((6 * e1) + (3 * (1 - e1))) x2) 12 (((6 * e1) + (3 * (1 - e1))) + 1) x3) 12 (((6 * e1) + (3 * (1 - e1))) + 2) x4).2 12 ((6 * e1) + 1)) ((xb_sl (xb_sl (xb_sl σ 12 ((6 * e1) + (3 * (1 - e1))) x2) 12 (((6 * e1) + (3 * (1 - e1))) + 1) x3) 12 (((6 * e1) + (3 * (1 - e1))) + 2) x4).2 12 ((6 * e1) + 4))) = 0
            · rw [if_pos c17]
              exact (ok_q_fail e1 (3 : Int64) (by omega) (mk_si (mk_si (mk_sl (mk_sl (mk_sl ok))) (by decide)) (by decide)))
            · rw [if_neg c17]
              by_cases c18 : (g_common ((xb_sl (xb_sl (xb_sl σ 12 ((6 * e1) + (3 * (1 - e1))) x2) 12 (((6 * e1) + (3 * (1 - e1))) + 1) x3) 12 (((6 * e1) + (3 * (1 - e1))) + 2) x4).2 12 ((6 * e1) + 2)) ((xb_sl (xb_sl (xb_sl σ 12 ((6 * e1) + (3 * (1 - e1))) x2) 12 (((6 * e1) + (3 * (1 - e1))) + 1) x3) 12 (((6 * e1) + (3 * (1 - e1))) + 2) x4).2 12 ((6 * e1) + 5))) = 0
              · rw [if_pos c18]
                exact (ok_q_fail e1 (3 : Int64) (by omega) (mk_si (mk_si (mk_sl (mk_sl (mk_sl ok))) (by decide)) (by decide)))
              · rw [if_neg c18]
                by_cases c19 : (nI e1) = 0
                · rw [if_pos c19]
                  exact (ok_q_send 0 (30 : Int32) (g_power (7 : Int64) (σ.2 13 0)) (0 : Int64) (0 : Int64) (0 : Int64) (by omega) (mk_sl (mk_si (mk_si (mk_si (mk_sl (mk_sl (mk_sl ok))) (by decide)) (by decide)) (by decide))))
                · rw [if_neg c19]
                  exact (mk_si (mk_si (mk_si (mk_sl (mk_sl (mk_sl ok))) (by decide)) (by decide)) (by decide))
      · rw [if_neg c14]
        by_cases c20 : (g_isList x3) = 0
        · rw [if_pos c20]
          exact (ok_q_fail e1 (3 : Int64) (by omega) (mk_si (mk_si (mk_sl (mk_sl (mk_sl (ok_q_start e1 (by omega) ok)))) (by decide)) (by decide)))
        · rw [if_neg c20]
          by_cases c21 : (g_isList x4) = 0
          · rw [if_pos c21]
            exact (ok_q_fail e1 (3 : Int64) (by omega) (mk_si (mk_si (mk_sl (mk_sl (mk_sl (ok_q_start e1 (by omega) ok)))) (by decide)) (by decide)))
          · rw [if_neg c21]
            by_cases c22 : (g_common ((xb_sl (xb_sl (xb_sl (q_start e1 σ) 12 ((6 * e1) + (3 * (1 - e1))) x2) 12 (((6 * e1) + (3 * (1 - e1))) + 1) x3) 12 (((6 * e1) + (3 * (1 - e1))) + 2) x4).2 12 ((6 * e1) + 1)) ((xb_sl (xb_sl (xb_sl (q_start e1 σ) 12 ((6 * e1) + (3 * (1 - e1))) x2) 12 (((6 * e1) + (3 * (1 - e1))) + 1) x3) 12 (((6 * e1) + (3 * (1 - e1))) + 2) x4).2 12 ((6 * e1) + 4))) = 0
            · rw [if_pos c22]
              exact (ok_q_fail e1 (3 : Int64) (by omega) (mk_si (mk_si (mk_sl (mk_sl (mk_sl (ok_q_start e1 (by omega) ok)))) (by decide)) (by decide)))
            · rw [if_neg c22]
              by_cases c23 : (g_common ((xb_sl (xb_sl (xb_sl (q_start e1 σ) 12 ((6 * e1) + (3 * (1 - e1))) x2) 12 (((6 * e1) + (3 * (1 - e1))) + 1) x3) 12 (((6 * e1) + (3 * (1 - e1))) + 2) x4).2 12 ((6 * e1) + 2)) ((xb_sl (xb_sl (xb_sl (q_start e1 σ) 12 ((6 * e1) + (3 * (1 - e1))) x2) 12 (((6 * e1) + (3 * (1 - e1))) + 1) x3) 12 (((6 * e1) + (3 * (1 - e1))) + 2) x4).2 12 ((6 * e1) + 5))) = 0
              · rw [if_pos c23]
                exact (ok_q_fail e1 (3 : Int64) (by omega) (mk_si (mk_si (mk_sl (mk_sl (mk_sl (ok_q_start e1 (by omega) ok)))) (by decide)) (by decide)))
              · rw [if_neg c23]
                by_cases c24 : (nI e1) = 0
                · rw [if_pos c24]
                  exact (ok_q_send 0 (30 : Int32) (g_power (7 : Int64) ((q_start e1 σ).2 13 0)) (0 : Int64) (0 : Int64) (0 : Int64) (by omega) (mk_sl (mk_si (mk_si (mk_si (mk_sl (mk_sl (mk_sl (ok_q_start e1 (by omega) ok)))) (by decide)) (by decide)) (by decide))))
                · rw [if_neg c24]
                  exact (mk_si (mk_si (mk_si (mk_sl (mk_sl (mk_sl (ok_q_start e1 (by omega) ok)))) (by decide)) (by decide)) (by decide))
    · rw [if_neg c13]
      by_cases c25 : (σ.1 4 e1) = (1 : Int32)
      · rw [if_pos c25]
        by_cases c26 : (g_isList x3) = 0
        · rw [if_pos c26]
          exact (ok_q_fail e1 (3 : Int64) (by omega) (mk_si (mk_si (mk_sl (mk_sl (mk_sl ok))) (by decide)) (by decide)))
        · rw [if_neg c26]
          by_cases c27 : (g_isList x4) = 0
          · rw [if_pos c27]
            exact (ok_q_fail e1 (3 : Int64) (by omega) (mk_si (mk_si (mk_sl (mk_sl (mk_sl ok))) (by decide)) (by decide)))
          · rw [if_neg c27]
            by_cases c28 : (g_common ((xb_sl (xb_sl (xb_sl σ 12 ((6 * e1) + (3 * (1 - e1))) x2) 12 (((6 * e1) + (3 * (1 - e1))) + 1) x3) 12 (((6 * e1) + (3 * (1 - e1))) + 2) x4).2 12 ((6 * e1) + 1)) ((xb_sl (xb_sl (xb_sl σ 12 ((6 * e1) + (3 * (1 - e1))) x2) 12 (((6 * e1) + (3 * (1 - e1))) + 1) x3) 12 (((6 * e1) + (3 * (1 - e1))) + 2) x4).2 12 ((6 * e1) + 4))) = 0
            · rw [if_pos c28]
              exact (ok_q_fail e1 (3 : Int64) (by omega) (mk_si (mk_si (mk_sl (mk_sl (mk_sl ok))) (by decide)) (by decide)))
            · rw [if_neg c28]
              by_cases c29 : (g_common ((xb_sl (xb_sl (xb_sl σ 12 ((6 * e1) + (3 * (1 - e1))) x2) 12 (((6 * e1) + (3 * (1 - e1))) + 1) x3) 12 (((6 * e1) + (3 * (1 - e1))) + 2) x4).2 12 ((6 * e1) + 2)) ((xb_sl (xb_sl (xb_sl σ 12 ((6 * e1) + (3 * (1 - e1))) x2) 12 (((6 * e1) + (3 * (1 - e1))) + 1) x3) 12 (((6 * e1) + (3 * (1 - e1))) + 2) x4).2 12 ((6 * e1) + 5))) = 0
              · rw [if_pos c29]
                exact (ok_q_fail e1 (3 : Int64) (by omega) (mk_si (mk_si (mk_sl (mk_sl (mk_sl ok))) (by decide)) (by decide)))
              · rw [if_neg c29]
                by_cases c30 : (nI e1) = 0
                · rw [if_pos c30]
                  exact (ok_q_send 0 (30 : Int32) (g_power (7 : Int64) (σ.2 13 0)) (0 : Int64) (0 : Int64) (0 : Int64) (by omega) (mk_sl (mk_si (mk_si (mk_si (mk_sl (mk_sl (mk_sl ok))) (by decide)) (by decide)) (by decide))))
                · rw [if_neg c30]
                  exact (mk_si (mk_si (mk_si (mk_sl (mk_sl (mk_sl ok))) (by decide)) (by decide)) (by decide))
      · rw [if_neg c25]
        exact (ok_q_fail e1 (2 : Int64) (by omega) ok)
abbrev b_M_shareTaken : ByteArray := prog_12_method_25_code
def y_M_shareTaken : MethodName := ⟨"SecurePairModel", "shareTaken", "(IJ)V"⟩
abbrev w_M_shareTaken : List Cond := .code y_M_shareTaken b_M_shareTaken 20 none :: xa
theorem d_M_shareTaken_0 : decode b_M_shareTaken 0 = .ok (.iload_n 1, 1) := by decide +kernel
theorem d_M_shareTaken_1 : decode b_M_shareTaken 1 = .ok (.iconst 1, 1) := by decide +kernel
theorem d_M_shareTaken_2 : decode b_M_shareTaken 2 = .ok (.if_icmp .ne 13, 3) := by decide +kernel
theorem d_M_shareTaken_5 : decode b_M_shareTaken 5 = .ok (.aload_n 0, 1) := by decide +kernel
theorem d_M_shareTaken_6 : decode b_M_shareTaken 6 = .ok (.getfield 25, 3) := by decide +kernel
theorem d_M_shareTaken_9 : decode b_M_shareTaken 9 = .ok (.iload_n 1, 1) := by decide +kernel
theorem d_M_shareTaken_10 : decode b_M_shareTaken 10 = .ok (.iaload, 1) := by decide +kernel
theorem d_M_shareTaken_11 : decode b_M_shareTaken 11 = .ok (.iconst 2, 1) := by decide +kernel
theorem d_M_shareTaken_12 : decode b_M_shareTaken 12 = .ok (.if_icmp .eq 12, 3) := by decide +kernel
theorem d_M_shareTaken_15 : decode b_M_shareTaken 15 = .ok (.aload_n 0, 1) := by decide +kernel
theorem d_M_shareTaken_16 : decode b_M_shareTaken 16 = .ok (.iload_n 1, 1) := by decide +kernel
theorem d_M_shareTaken_17 : decode b_M_shareTaken 17 = .ok (.ldc2_w 134, 3) := by decide +kernel
theorem d_M_shareTaken_20 : decode b_M_shareTaken 20 = .ok (.invokevirtual 181, 3) := by decide +kernel
theorem d_M_shareTaken_23 : decode b_M_shareTaken 23 = .ok (.return_, 1) := by decide +kernel
theorem d_M_shareTaken_24 : decode b_M_shareTaken 24 = .ok (.lload_n 2, 1) := by decide +kernel
theorem d_M_shareTaken_25 : decode b_M_shareTaken 25 = .ok (.invokestatic 197, 3) := by decide +kernel
theorem d_M_shareTaken_28 : decode b_M_shareTaken 28 = .ok (.ifCond .ne 12, 3) := by decide +kernel
theorem d_M_shareTaken_31 : decode b_M_shareTaken 31 = .ok (.aload_n 0, 1) := by decide +kernel
theorem d_M_shareTaken_32 : decode b_M_shareTaken 32 = .ok (.iload_n 1, 1) := by decide +kernel
theorem d_M_shareTaken_33 : decode b_M_shareTaken 33 = .ok (.ldc2_w 192, 3) := by decide +kernel
theorem d_M_shareTaken_36 : decode b_M_shareTaken 36 = .ok (.invokevirtual 181, 3) := by decide +kernel
theorem d_M_shareTaken_39 : decode b_M_shareTaken 39 = .ok (.return_, 1) := by decide +kernel
theorem d_M_shareTaken_40 : decode b_M_shareTaken 40 = .ok (.lload_n 2, 1) := by decide +kernel
theorem d_M_shareTaken_41 : decode b_M_shareTaken 41 = .ok (.aload_n 0, 1) := by decide +kernel
theorem d_M_shareTaken_42 : decode b_M_shareTaken 42 = .ok (.getfield 54, 3) := by decide +kernel
theorem d_M_shareTaken_45 : decode b_M_shareTaken 45 = .ok (.iconst 1, 1) := by decide +kernel
theorem d_M_shareTaken_46 : decode b_M_shareTaken 46 = .ok (.laload, 1) := by decide +kernel
theorem d_M_shareTaken_47 : decode b_M_shareTaken 47 = .ok (.invokestatic 148, 3) := by decide +kernel
theorem d_M_shareTaken_50 : decode b_M_shareTaken 50 = .ok (.lstore 4, 2) := by decide +kernel
theorem d_M_shareTaken_52 : decode b_M_shareTaken 52 = .ok (.ldc2_w 146, 3) := by decide +kernel
theorem d_M_shareTaken_55 : decode b_M_shareTaken 55 = .ok (.aload_n 0, 1) := by decide +kernel
theorem d_M_shareTaken_56 : decode b_M_shareTaken 56 = .ok (.getfield 54, 3) := by decide +kernel
theorem d_M_shareTaken_59 : decode b_M_shareTaken 59 = .ok (.iconst 1, 1) := by decide +kernel
theorem d_M_shareTaken_60 : decode b_M_shareTaken 60 = .ok (.laload, 1) := by decide +kernel
theorem d_M_shareTaken_61 : decode b_M_shareTaken 61 = .ok (.invokestatic 148, 3) := by decide +kernel
theorem d_M_shareTaken_64 : decode b_M_shareTaken 64 = .ok (.lstore 6, 2) := by decide +kernel
theorem d_M_shareTaken_66 : decode b_M_shareTaken 66 = .ok (.ldc2_w 146, 3) := by decide +kernel
theorem d_M_shareTaken_69 : decode b_M_shareTaken 69 = .ok (.aload_n 0, 1) := by decide +kernel
theorem d_M_shareTaken_70 : decode b_M_shareTaken 70 = .ok (.getfield 21, 3) := by decide +kernel
theorem d_M_shareTaken_73 : decode b_M_shareTaken 73 = .ok (.invokestatic 148, 3) := by decide +kernel
theorem d_M_shareTaken_76 : decode b_M_shareTaken 76 = .ok (.lstore 8, 2) := by decide +kernel
theorem d_M_shareTaken_78 : decode b_M_shareTaken 78 = .ok (.aload_n 0, 1) := by decide +kernel
theorem d_M_shareTaken_79 : decode b_M_shareTaken 79 = .ok (.getfield 57, 3) := by decide +kernel
theorem d_M_shareTaken_82 : decode b_M_shareTaken 82 = .ok (.iconst 1, 1) := by decide +kernel
theorem d_M_shareTaken_83 : decode b_M_shareTaken 83 = .ok (.lload_n 2, 1) := by decide +kernel
theorem d_M_shareTaken_84 : decode b_M_shareTaken 84 = .ok (.lastore, 1) := by decide +kernel
theorem d_M_shareTaken_85 : decode b_M_shareTaken 85 = .ok (.aload_n 0, 1) := by decide +kernel
theorem d_M_shareTaken_86 : decode b_M_shareTaken 86 = .ok (.iconst 1, 1) := by decide +kernel
theorem d_M_shareTaken_87 : decode b_M_shareTaken 87 = .ok (.lload 8, 2) := by decide +kernel
theorem d_M_shareTaken_89 : decode b_M_shareTaken 89 = .ok (.lload 6, 2) := by decide +kernel
theorem d_M_shareTaken_91 : decode b_M_shareTaken 91 = .ok (.lload 4, 2) := by decide +kernel
theorem d_M_shareTaken_93 : decode b_M_shareTaken 93 = .ok (.invokevirtual 200, 3) := by decide +kernel
theorem d_M_shareTaken_96 : decode b_M_shareTaken 96 = .ok (.lstore 10, 2) := by decide +kernel
theorem d_M_shareTaken_98 : decode b_M_shareTaken 98 = .ok (.lload 10, 2) := by decide +kernel
theorem d_M_shareTaken_100 : decode b_M_shareTaken 100 = .ok (.ldc2_w 204, 3) := by decide +kernel
theorem d_M_shareTaken_103 : decode b_M_shareTaken 103 = .ok (.land, 1) := by decide +kernel
theorem d_M_shareTaken_104 : decode b_M_shareTaken 104 = .ok (.lconst 1, 1) := by decide +kernel
theorem d_M_shareTaken_105 : decode b_M_shareTaken 105 = .ok (.ladd, 1) := by decide +kernel
theorem d_M_shareTaken_106 : decode b_M_shareTaken 106 = .ok (.lstore 12, 2) := by decide +kernel
theorem d_M_shareTaken_108 : decode b_M_shareTaken 108 = .ok (.ldc2_w 146, 3) := by decide +kernel
theorem d_M_shareTaken_111 : decode b_M_shareTaken 111 = .ok (.lload 12, 2) := by decide +kernel
theorem d_M_shareTaken_113 : decode b_M_shareTaken 113 = .ok (.invokestatic 148, 3) := by decide +kernel
theorem d_M_shareTaken_116 : decode b_M_shareTaken 116 = .ok (.lstore 14, 2) := by decide +kernel
theorem d_M_shareTaken_118 : decode b_M_shareTaken 118 = .ok (.lconst 0, 1) := by decide +kernel
theorem d_M_shareTaken_119 : decode b_M_shareTaken 119 = .ok (.lload 14, 2) := by decide +kernel
theorem d_M_shareTaken_121 : decode b_M_shareTaken 121 = .ok (.invokestatic 142, 3) := by decide +kernel
theorem d_M_shareTaken_124 : decode b_M_shareTaken 124 = .ok (.lload 10, 2) := by decide +kernel
theorem d_M_shareTaken_126 : decode b_M_shareTaken 126 = .ok (.invokestatic 142, 3) := by decide +kernel
theorem d_M_shareTaken_129 : decode b_M_shareTaken 129 = .ok (.bipush 34, 2) := by decide +kernel
theorem d_M_shareTaken_131 : decode b_M_shareTaken 131 = .ok (.lushr, 1) := by decide +kernel
theorem d_M_shareTaken_132 : decode b_M_shareTaken 132 = .ok (.lstore 16, 2) := by decide +kernel
theorem d_M_shareTaken_134 : decode b_M_shareTaken 134 = .ok (.lload 12, 2) := by decide +kernel
theorem d_M_shareTaken_136 : decode b_M_shareTaken 136 = .ok (.lload 16, 2) := by decide +kernel
theorem d_M_shareTaken_138 : decode b_M_shareTaken 138 = .ok (.aload_n 0, 1) := by decide +kernel
theorem d_M_shareTaken_139 : decode b_M_shareTaken 139 = .ok (.getfield 21, 3) := by decide +kernel
theorem d_M_shareTaken_142 : decode b_M_shareTaken 142 = .ok (.lmul, 1) := by decide +kernel
theorem d_M_shareTaken_143 : decode b_M_shareTaken 143 = .ok (.ladd, 1) := by decide +kernel
theorem d_M_shareTaken_144 : decode b_M_shareTaken 144 = .ok (.ldc2_w 132, 3) := by decide +kernel
theorem d_M_shareTaken_147 : decode b_M_shareTaken 147 = .ok (.lrem, 1) := by decide +kernel
theorem d_M_shareTaken_148 : decode b_M_shareTaken 148 = .ok (.lstore 18, 2) := by decide +kernel
theorem d_M_shareTaken_150 : decode b_M_shareTaken 150 = .ok (.aload_n 0, 1) := by decide +kernel
theorem d_M_shareTaken_151 : decode b_M_shareTaken 151 = .ok (.iconst 1, 1) := by decide +kernel
theorem d_M_shareTaken_152 : decode b_M_shareTaken 152 = .ok (.lload 4, 2) := by decide +kernel
theorem d_M_shareTaken_154 : decode b_M_shareTaken 154 = .ok (.lload 10, 2) := by decide +kernel
theorem d_M_shareTaken_156 : decode b_M_shareTaken 156 = .ok (.invokevirtual 206, 3) := by decide +kernel
theorem d_M_shareTaken_159 : decode b_M_shareTaken 159 = .ok (.aload_n 0, 1) := by decide +kernel
theorem d_M_shareTaken_160 : decode b_M_shareTaken 160 = .ok (.iconst 1, 1) := by decide +kernel
theorem d_M_shareTaken_161 : decode b_M_shareTaken 161 = .ok (.bipush 31, 2) := by decide +kernel
theorem d_M_shareTaken_163 : decode b_M_shareTaken 163 = .ok (.lload 8, 2) := by decide +kernel
theorem d_M_shareTaken_165 : decode b_M_shareTaken 165 = .ok (.lload 6, 2) := by decide +kernel
theorem d_M_shareTaken_167 : decode b_M_shareTaken 167 = .ok (.lload 14, 2) := by decide +kernel
theorem d_M_shareTaken_169 : decode b_M_shareTaken 169 = .ok (.lload 18, 2) := by decide +kernel
theorem d_M_shareTaken_171 : decode b_M_shareTaken 171 = .ok (.invokevirtual 165, 3) := by decide +kernel
theorem d_M_shareTaken_174 : decode b_M_shareTaken 174 = .ok (.aload_n 0, 1) := by decide +kernel
theorem d_M_shareTaken_175 : decode b_M_shareTaken 175 = .ok (.iconst 1, 1) := by decide +kernel
theorem d_M_shareTaken_176 : decode b_M_shareTaken 176 = .ok (.invokevirtual 210, 3) := by decide +kernel
theorem d_M_shareTaken_179 : decode b_M_shareTaken 179 = .ok (.return_, 1) := by decide +kernel
theorem xw1142 : (Cond.methodLink "SecurePairModel" (197 : Nat) ({ cls := "SecurePairModel", name := "isShare", desc := "(J)Z" } : MethodName)) ∈ xa := xa_t 1142 (by decide +kernel) (by decide +kernel)
theorem xw1143 : (Cond.static ({ cls := "SecurePairModel", name := "isShare", desc := "(J)Z" } : MethodName)) ∈ xa := xa_t 1143 (by decide +kernel) (by decide +kernel)
theorem xw1144 : (Cond.code ({ cls := "SecurePairModel", name := "isShare", desc := "(J)Z" } : MethodName) prog_12_method_8_code (2 : Nat) (Option.some ClassFile.FieldType.boolean)) ∈ xa := xa_t 1144 (by decide +kernel) (by decide +kernel)
theorem xw1146 : (Cond.methodLink "SecurePairModel" (200 : Nat) ({ cls := "SecurePairModel", name := "hashOf", desc := "(IJJJ)J" } : MethodName)) ∈ xa := xa_t 1146 (by decide +kernel) (by decide +kernel)
theorem xw1148 : (Cond.instanceMethod ({ cls := "SecurePairModel", name := "hashOf", desc := "(IJJJ)J" } : MethodName)) ∈ xa := xa_t 1148 (by decide +kernel) (by decide +kernel)
theorem xw1149 : (Cond.code ({ cls := "SecurePairModel", name := "hashOf", desc := "(IJJJ)J" } : MethodName) prog_12_method_21_code (11 : Nat) (Option.some ClassFile.FieldType.long)) ∈ xa := xa_t 1149 (by decide +kernel) (by decide +kernel)
theorem xw1150 : (Cond.constantLong "SecurePairModel" (204 : Nat) (1073741823 : Int64)) ∈ xa := xa_t 1150 (by decide +kernel) (by decide +kernel)
theorem xw1152 : (Cond.methodLink "SecurePairModel" (206 : Nat) ({ cls := "SecurePairModel", name := "agree", desc := "(IJJ)V" } : MethodName)) ∈ xa := xa_t 1152 (by decide +kernel) (by decide +kernel)
theorem xw1154 : (Cond.instanceMethod ({ cls := "SecurePairModel", name := "agree", desc := "(IJJ)V" } : MethodName)) ∈ xa := xa_t 1154 (by decide +kernel) (by decide +kernel)
theorem xw1155 : (Cond.code ({ cls := "SecurePairModel", name := "agree", desc := "(IJJ)V" } : MethodName) prog_12_method_22_code (10 : Nat) (Option.none : Option ClassFile.FieldType)) ∈ xa := xa_t 1155 (by decide +kernel) (by decide +kernel)
theorem xw1156 : (Cond.methodLink "SecurePairModel" (210 : Nat) ({ cls := "SecurePairModel", name := "turn", desc := "(I)V" } : MethodName)) ∈ xa := xa_t 1156 (by decide +kernel) (by decide +kernel)
theorem xw1158 : (Cond.instanceMethod ({ cls := "SecurePairModel", name := "turn", desc := "(I)V" } : MethodName)) ∈ xa := xa_t 1158 (by decide +kernel) (by decide +kernel)
theorem xw1159 : (Cond.code ({ cls := "SecurePairModel", name := "turn", desc := "(I)V" } : MethodName) prog_12_method_24_code (2 : Nat) (Option.none : Option ClassFile.FieldType)) ∈ xa := xa_t 1159 (by decide +kernel) (by decide +kernel)
theorem xs13 : (Cond.selects "SecurePairModel" ⟨"SecurePairModel", "hashOf", "(IJJJ)J"⟩ ⟨"SecurePairModel", "hashOf", "(IJJJ)J"⟩) ∈ xa := xa_s 13 (by decide +kernel) (by decide +kernel)
theorem xs14 : (Cond.selects "SecurePairModel" ⟨"SecurePairModel", "agree", "(IJJ)V"⟩ ⟨"SecurePairModel", "agree", "(IJJ)V"⟩) ∈ xa := xa_s 14 (by decide +kernel) (by decide +kernel)
theorem xs15 : (Cond.selects "SecurePairModel" ⟨"SecurePairModel", "turn", "(I)V"⟩ ⟨"SecurePairModel", "turn", "(I)V"⟩) ∈ xa := xa_s 15 (by decide +kernel) (by decide +kernel)
def q_share (e1 : Nat) (x2 : Int64) (σ : xb_St) : xb_St := (if (nI e1) = (1 : Int32) then (if (σ.1 4 e1) = (2 : Int32) then (if (g_isShare x2) = 0 then (q_fail e1 (3 : Int64) σ) else (q_turn 1 (q_send 1 (31 : Int32) (g_power (7 : Int64) (σ.2 0 4)) (g_power (7 : Int64) (σ.2 13 1)) (g_power (7 : Int64) (((q_hash 1 (g_power (7 : Int64) (σ.2 0 4)) (g_power (7 : Int64) (σ.2 13 1)) (g_power x2 (σ.2 13 1)) (xb_sl σ 14 1 x2)) &&& (1073741823 : Int64)) + (1 : Int64))) (xb_lrem ((((q_hash 1 (g_power (7 : Int64) (σ.2 0 4)) (g_power (7 : Int64) (σ.2 13 1)) (g_power x2 (σ.2 13 1)) (xb_sl σ 14 1 x2)) &&& (1073741823 : Int64)) + (1 : Int64)) + ((xb_lushr (g_mix (g_mix (0 : Int64) (g_power (7 : Int64) (((q_hash 1 (g_power (7 : Int64) (σ.2 0 4)) (g_power (7 : Int64) (σ.2 13 1)) (g_power x2 (σ.2 13 1)) (xb_sl σ 14 1 x2)) &&& (1073741823 : Int64)) + (1 : Int64)))) (q_hash 1 (g_power (7 : Int64) (σ.2 0 4)) (g_power (7 : Int64) (σ.2 13 1)) (g_power x2 (σ.2 13 1)) (xb_sl σ 14 1 x2))) (34 : Int32)) * (σ.2 0 4))) (2147483646 : Int64)) (q_agree 1 (g_power x2 (σ.2 13 1)) (q_hash 1 (g_power (7 : Int64) (σ.2 0 4)) (g_power (7 : Int64) (σ.2 13 1)) (g_power x2 (σ.2 13 1)) (xb_sl σ 14 1 x2)) (xb_sl σ 14 1 x2))))) else (q_fail e1 (2 : Int64) σ)) else (q_fail e1 (2 : Int64) σ))
set_option maxHeartbeats 4000000 in
set_option maxRecDepth 100000 in
theorem c_M_shareTaken (l : Launch) (D : va_G) (α : Nat → Nat) (κ : Nat → ClassId) (hα : xb_inj α 35) (σ : xb_St) (x_e1 : Int32) (e1 : Nat) (e_e1 : x_e1 = nI e1) (b_e1 : e1 < 2) (x2 : Int64) (ok : sm_ok σ) : Met l y_M_shareTaken w_M_shareTaken ({ frames := 4, cells := 0, slots := 0, locals := 115 }) (va_Pc ([.ref (α 0), .int x_e1, .long x2]) (sm_Pre D α κ σ)) (va_Qv (fun u : xb_St => u = q_share e1 x2 σ) (sm_B D α κ) (xb_A α 35)) 0 0 (xb_A α 35) := by
  subst e_e1
  refine Met.ofW (cc := b_M_shareTaken) (maxL := 20) (ret := none) (by decide) rfl ?_
  intro p e s m args below meth c s₁ B_ hml hv
  obtain ⟨rfl, hP, hK, hN⟩ := hv
  have hx := B_.exec
  have hb := B_.bytes
  have hr := B_.returns
  have hts := atoms_spec (ws := w_M_shareTaken) B_.pre
  have ht : ∀ w ∈ xa, w.before _ s = true := fun w h => hts w (List.mem_cons_of_mem _ h)
  have hown : s.vm.findClass "SecurePairModel" = some m.cls := findClass_of_methodNamed B_.named
  have hlocks := B_.notSynchronized
  have hD := sm_D hα κ
  have hS : va_S (xb_A α 35) s.heap s.heap [] := va_S.rf
  have hl := lv_entry ([.ref (α 0), .int (nI e1), .long x2]) (n := 20) (Nat.le_of_ble_eq_true rfl)
  rw [lg_entry_eq]
  generalize (lg_sl ([.ref (α 0), .int (nI e1), .long x2]) ++ List.replicate (20 - (lg_sl ([.ref (α 0), .int (nI e1), .long x2])).length) Slot.unset).toArray = ls at hl ⊢
  have hl : lv_has ls 20 [(0, .ref (α 0)), (1, .int (nI e1)), (2, .long x2)] := hl
  refine lv_iload_n hx hb d_M_shareTaken_0 rfl (lv_at hl 1 rfl) ?_
  refine lv_iconst (v := 1) hx hb d_M_shareTaken_1 (by decide) ?_
  refine lv_icmp_ne (tgt := 15) hx hb d_M_shareTaken_2 (by decide) (fun c1 => ?_) (fun c1 => ?_)
  · skip
    have nc1 := mt (xb_eqN (xb_lit e1 rfl) (xb_lit (x := (1 : Int32)) 1 rfl) (by omega) (by omega)).mpr c1
    refine lv_aload_n hx hb d_M_shareTaken_15 rfl (lv_at hl 0 rfl) ?_
    refine lv_iload_n hx hb d_M_shareTaken_16 rfl (lv_at hl 1 rfl) ?_
    refine lv_ldc2 hx hb hown (ht _ xw1120) d_M_shareTaken_17 ?_
    refine sm_cv (va_runV (As := [.int (nI e1), .long (2 : Int64)]) (rest := []) ⟨hx, hb, hml, hown, hts⟩ (c_M_fail l D α κ hα σ (nI e1) e1 (xb_lit e1 rfl) (by omega) (2 : Int64) ok) (cwV 2 hts (xa_V xw1112 xw1114 xs9 xw11 xw1115) rfl rfl rfl (by decide +kernel) ⟨Nat.le_of_ble_eq_true rfl, Nat.le_of_ble_eq_true rfl⟩) ⟨sm_blind, va_recv (q0 := 0) (ci := 9) hK hP rfl rfl, sm_pre hP hK hN _⟩ rfl rfl hl.1 rfl (lv_room (Nat.le_of_ble_eq_true rfl)) d_M_shareTaken_20 ⟨Nat.le_of_ble_eq_true rfl, Nat.le_of_ble_eq_true rfl⟩) hS (fun _ h_ => h_) (fun H locs hP hS => ?_)
    obtain ⟨τ1, hτ1⟩ : ∃ t_, t_ = (q_fail e1 (2 : Int64) σ) := ⟨_, rfl⟩
    rw [← hτ1] at hP
    have okτ1 : sm_ok τ1 := by rw [hτ1]; exact (ok_q_fail e1 (2 : Int64) (by omega) ok)
    exact W.vret hx hb hr (fun t ht_ hW => ⟨⟨τ1, rfl, (by subst hτ1; exact ((if_neg c1)).symm), by rw [sm_B, ht_]; exact hP⟩, hS.F ht_⟩) hS.2.2 d_M_shareTaken_23
  · skip
    have nc1 := (xb_eqN (xb_lit e1 rfl) (xb_lit (x := (1 : Int32)) 1 rfl) (by omega) (by omega)).mp c1
    refine lv_aload_n hx hb d_M_shareTaken_5 rfl (lv_at hl 0 rfl) ?_
    refine sm_g (v := .ref (α 4)) hx hb ht hown hK hP 6 (by decide) (ht _ xw958) (fun _ h_ => h_) rfl d_M_shareTaken_6 ?_
    refine lv_iload_n hx hb d_M_shareTaken_9 rfl (lv_at hl 1 rfl) ?_
    refine sm_gaI (L := 2) (n := e1) (v := (σ.1 4 e1)) hx hb hK hP 4 3 rfl rfl (xb_in (xb_lit e1 rfl) (by omega) (by decide)) (xb_cl (xb_lit e1 rfl) (by omega)) rfl d_M_shareTaken_10 ?_
    refine lv_iconst (v := 2) hx hb d_M_shareTaken_11 (by decide) ?_
    refine lv_icmp_eq (tgt := 24) hx hb d_M_shareTaken_12 (by decide) (fun c2 => ?_) (fun c2 => ?_)
    · skip
      refine lv_lload_n hx hb d_M_shareTaken_24 rfl (lv_at hl 2 rfl) ?_
      refine vp_callSi (W.runS (As := [.long x2]) (rest := []) ⟨hx, hb, hml, hown, hts⟩ (c_M_isShare l x2) (cwS 1 hts (xa_S xw1142 xw1143 xw11 xw1144) rfl rfl rfl (by decide +kernel) ⟨Nat.le_of_ble_eq_true rfl, Nat.le_of_ble_eq_true rfl⟩) preEq rfl rfl hl.1 rfl (lv_room (Nat.le_of_ble_eq_true rfl)) d_M_shareTaken_25 ⟨Nat.le_of_ble_eq_true rfl, Nat.le_of_ble_eq_true rfl⟩) (fun r_ e_ => ?_)
      subst e_
      refine lv_if_ne (tgt := 40) hx hb d_M_shareTaken_28 (by decide) (fun c3 => ?_) (fun c3 => ?_)
      · skip
        refine lv_lload_n hx hb d_M_shareTaken_40 rfl (lv_at hl 2 rfl) ?_
        refine lv_aload_n hx hb d_M_shareTaken_41 rfl (lv_at hl 0 rfl) ?_
        refine sm_g (v := .ref (α 13)) hx hb ht hown hK hP 15 (by decide) (ht _ xw967) (fun _ h_ => h_) rfl d_M_shareTaken_42 ?_
        refine lv_iconst (v := 1) hx hb d_M_shareTaken_45 (by decide) ?_
        refine sm_gaJ (L := 2) (n := 1) (v := (σ.2 13 1)) hx hb hK hP 13 12 rfl rfl (xb_in (xb_lit (x := (1 : Int32)) 1 rfl) (by omega) (by decide)) (xb_cl (xb_lit (x := (1 : Int32)) 1 rfl) (by omega)) rfl d_M_shareTaken_46 ?_
        refine vp_callSl (W.runS (As := [.long x2, .long (σ.2 13 1)]) (rest := []) ⟨hx, hb, hml, hown, hts⟩ (c_M_power l x2 (σ.2 13 1)) (cwS 2 hts (xa_S xw1134 xw1135 xw11 xw1136) rfl rfl rfl (by decide +kernel) ⟨Nat.le_of_ble_eq_true rfl, Nat.le_of_ble_eq_true rfl⟩) preEq rfl rfl hl.1 rfl (lv_room (Nat.le_of_ble_eq_true rfl)) d_M_shareTaken_47 ⟨Nat.le_of_ble_eq_true rfl, Nat.le_of_ble_eq_true rfl⟩) (fun r_ e_ => ?_)
        subst e_
        refine lv_lstore (lv' := [(4, .long (g_power x2 (σ.2 13 1))), (0, .ref (α 0)), (1, .int (nI e1)), (2, .long x2)]) hx hb d_M_shareTaken_50 hl (by decide) rfl (fun ls hl => ?_)
        refine lv_ldc2 hx hb hown (ht _ xw1133) d_M_shareTaken_52 ?_
        refine lv_aload_n hx hb d_M_shareTaken_55 rfl (lv_at hl 1 rfl) ?_
        refine sm_g (v := .ref (α 13)) hx hb ht hown hK hP 15 (by decide) (ht _ xw967) (fun _ h_ => h_) rfl d_M_shareTaken_56 ?_
        refine lv_iconst (v := 1) hx hb d_M_shareTaken_59 (by decide) ?_
        refine sm_gaJ (L := 2) (n := 1) (v := (σ.2 13 1)) hx hb hK hP 13 12 rfl rfl (xb_in (xb_lit (x := (1 : Int32)) 1 rfl) (by omega) (by decide)) (xb_cl (xb_lit (x := (1 : Int32)) 1 rfl) (by omega)) rfl d_M_shareTaken_60 ?_
        refine vp_callSl (W.runS (As := [.long (7 : Int64), .long (σ.2 13 1)]) (rest := []) ⟨hx, hb, hml, hown, hts⟩ (c_M_power l (7 : Int64) (σ.2 13 1)) (cwS 2 hts (xa_S xw1134 xw1135 xw11 xw1136) rfl rfl rfl (by decide +kernel) ⟨Nat.le_of_ble_eq_true rfl, Nat.le_of_ble_eq_true rfl⟩) preEq rfl rfl hl.1 rfl (lv_room (Nat.le_of_ble_eq_true rfl)) d_M_shareTaken_61 ⟨Nat.le_of_ble_eq_true rfl, Nat.le_of_ble_eq_true rfl⟩) (fun r_ e_ => ?_)
        subst e_
        refine lv_lstore (lv' := [(6, .long (g_power (7 : Int64) (σ.2 13 1))), (4, .long (g_power x2 (σ.2 13 1))), (0, .ref (α 0)), (1, .int (nI e1)), (2, .long x2)]) hx hb d_M_shareTaken_64 hl (by decide) rfl (fun ls hl => ?_)
        refine lv_ldc2 hx hb hown (ht _ xw1133) d_M_shareTaken_66 ?_
        refine lv_aload_n hx hb d_M_shareTaken_69 rfl (lv_at hl 2 rfl) ?_
        refine sm_g (v := .long (σ.2 0 4)) hx hb ht hown hK hP 4 (by decide) (ht _ xw956) (fun _ h_ => h_) rfl d_M_shareTaken_70 ?_
        refine vp_callSl (W.runS (As := [.long (7 : Int64), .long (σ.2 0 4)]) (rest := []) ⟨hx, hb, hml, hown, hts⟩ (c_M_power l (7 : Int64) (σ.2 0 4)) (cwS 2 hts (xa_S xw1134 xw1135 xw11 xw1136) rfl rfl rfl (by decide +kernel) ⟨Nat.le_of_ble_eq_true rfl, Nat.le_of_ble_eq_true rfl⟩) preEq rfl rfl hl.1 rfl (lv_room (Nat.le_of_ble_eq_true rfl)) d_M_shareTaken_73 ⟨Nat.le_of_ble_eq_true rfl, Nat.le_of_ble_eq_true rfl⟩) (fun r_ e_ => ?_)
        subst e_
        refine lv_lstore (lv' := [(8, .long (g_power (7 : Int64) (σ.2 0 4))), (6, .long (g_power (7 : Int64) (σ.2 13 1))), (4, .long (g_power x2 (σ.2 13 1))), (0, .ref (α 0)), (1, .int (nI e1)), (2, .long x2)]) hx hb d_M_shareTaken_76 hl (by decide) rfl (fun ls hl => ?_)
        refine lv_aload_n hx hb d_M_shareTaken_78 rfl (lv_at hl 3 rfl) ?_
        refine sm_g (v := .ref (α 14)) hx hb ht hown hK hP 16 (by decide) (ht _ xw968) (fun _ h_ => h_) rfl d_M_shareTaken_79 ?_
        refine lv_iconst (v := 1) hx hb d_M_shareTaken_82 (by decide) ?_
        refine lv_lload_n hx hb d_M_shareTaken_83 rfl (lv_at hl 5 rfl) ?_
        refine sm_paJ (L := 2) (n := 1) (x := x2) hx hb hK hP 14 13 rfl rfl hD hS (xb_in (xb_lit (x := (1 : Int32)) 1 rfl) (by omega) (by decide)) (xb_cl (xb_lit (x := (1 : Int32)) 1 rfl) (by omega)) sm_s_14 d_M_shareTaken_84 (fun H locs hP hS => ?_)
        refine lv_aload_n hx hb d_M_shareTaken_85 rfl (lv_at hl 3 rfl) ?_
        refine lv_iconst (v := 1) hx hb d_M_shareTaken_86 (by decide) ?_
        refine lv_lload hx hb d_M_shareTaken_87 (lv_at hl 0 rfl) ?_
        refine lv_lload hx hb d_M_shareTaken_89 (lv_at hl 1 rfl) ?_
        refine lv_lload hx hb d_M_shareTaken_91 (lv_at hl 2 rfl) ?_
        refine sm_cl (va_runV (As := [.int (1 : Int32), .long (g_power (7 : Int64) (σ.2 0 4)), .long (g_power (7 : Int64) (σ.2 13 1)), .long (g_power x2 (σ.2 13 1))]) (rest := []) ⟨hx, hb, hml, hown, hts⟩ (c_M_hashOf l D α κ hα (xb_sl σ 14 1 x2) (1 : Int32) 1 (xb_lit (x := (1 : Int32)) 1 rfl) (by omega) (g_power (7 : Int64) (σ.2 0 4)) (g_power (7 : Int64) (σ.2 13 1)) (g_power x2 (σ.2 13 1))) (cwV 4 hts (xa_V xw1146 xw1148 xs13 xw11 xw1149) rfl rfl rfl (by decide +kernel) ⟨Nat.le_of_ble_eq_true rfl, Nat.le_of_ble_eq_true rfl⟩) ⟨sm_blind, va_recv (q0 := 0) (ci := 9) hK hP rfl rfl, sm_pre hP hK hN _⟩ rfl rfl hl.1 rfl (lv_room (Nat.le_of_ble_eq_true rfl)) d_M_shareTaken_93 ⟨Nat.le_of_ble_eq_true rfl, Nat.le_of_ble_eq_true rfl⟩) hS (fun _ h_ => h_) (fun H locs hP hS => ?_)
        refine lv_lstore (lv' := [(10, .long (q_hash 1 (g_power (7 : Int64) (σ.2 0 4)) (g_power (7 : Int64) (σ.2 13 1)) (g_power x2 (σ.2 13 1)) (xb_sl σ 14 1 x2))), (8, .long (g_power (7 : Int64) (σ.2 0 4))), (6, .long (g_power (7 : Int64) (σ.2 13 1))), (4, .long (g_power x2 (σ.2 13 1))), (0, .ref (α 0)), (1, .int (nI e1)), (2, .long x2)]) hx hb d_M_shareTaken_96 hl (by decide) rfl (fun ls hl => ?_)
        refine lv_lload hx hb d_M_shareTaken_98 (lv_at hl 0 rfl) ?_
        refine lv_ldc2 hx hb hown (ht _ xw1150) d_M_shareTaken_100 ?_
        refine lv_land hx hb d_M_shareTaken_103 ?_
        refine lv_lconst (v := 1) hx hb d_M_shareTaken_104 (by decide) ?_
        refine lv_ladd hx hb d_M_shareTaken_105 ?_
        refine lv_lstore (lv' := [(12, .long (((q_hash 1 (g_power (7 : Int64) (σ.2 0 4)) (g_power (7 : Int64) (σ.2 13 1)) (g_power x2 (σ.2 13 1)) (xb_sl σ 14 1 x2)) &&& (1073741823 : Int64)) + (1 : Int64))), (10, .long (q_hash 1 (g_power (7 : Int64) (σ.2 0 4)) (g_power (7 : Int64) (σ.2 13 1)) (g_power x2 (σ.2 13 1)) (xb_sl σ 14 1 x2))), (8, .long (g_power (7 : Int64) (σ.2 0 4))), (6, .long (g_power (7 : Int64) (σ.2 13 1))), (4, .long (g_power x2 (σ.2 13 1))), (0, .ref (α 0)), (1, .int (nI e1)), (2, .long x2)]) hx hb d_M_shareTaken_106 hl (by decide) rfl (fun ls hl => ?_)
        refine lv_ldc2 hx hb hown (ht _ xw1133) d_M_shareTaken_108 ?_
        refine lv_lload hx hb d_M_shareTaken_111 (lv_at hl 0 rfl) ?_
        refine vp_callSl (W.runS (As := [.long (7 : Int64), .long (((q_hash 1 (g_power (7 : Int64) (σ.2 0 4)) (g_power (7 : Int64) (σ.2 13 1)) (g_power x2 (σ.2 13 1)) (xb_sl σ 14 1 x2)) &&& (1073741823 : Int64)) + (1 : Int64))]) (rest := []) ⟨hx, hb, hml, hown, hts⟩ (c_M_power l (7 : Int64) (((q_hash 1 (g_power (7 : Int64) (σ.2 0 4)) (g_power (7 : Int64) (σ.2 13 1)) (g_power x2 (σ.2 13 1)) (xb_sl σ 14 1 x2)) &&& (1073741823 : Int64)) + (1 : Int64))) (cwS 2 hts (xa_S xw1134 xw1135 xw11 xw1136) rfl rfl rfl (by decide +kernel) ⟨Nat.le_of_ble_eq_true rfl, Nat.le_of_ble_eq_true rfl⟩) preEq rfl rfl hl.1 rfl (lv_room (Nat.le_of_ble_eq_true rfl)) d_M_shareTaken_113 ⟨Nat.le_of_ble_eq_true rfl, Nat.le_of_ble_eq_true rfl⟩) (fun r_ e_ => ?_)
        subst e_
        refine lv_lstore (lv' := [(14, .long (g_power (7 : Int64) (((q_hash 1 (g_power (7 : Int64) (σ.2 0 4)) (g_power (7 : Int64) (σ.2 13 1)) (g_power x2 (σ.2 13 1)) (xb_sl σ 14 1 x2)) &&& (1073741823 : Int64)) + (1 : Int64)))), (12, .long (((q_hash 1 (g_power (7 : Int64) (σ.2 0 4)) (g_power (7 : Int64) (σ.2 13 1)) (g_power x2 (σ.2 13 1)) (xb_sl σ 14 1 x2)) &&& (1073741823 : Int64)) + (1 : Int64))), (10, .long (q_hash 1 (g_power (7 : Int64) (σ.2 0 4)) (g_power (7 : Int64) (σ.2 13 1)) (g_power x2 (σ.2 13 1)) (xb_sl σ 14 1 x2))), (8, .long (g_power (7 : Int64) (σ.2 0 4))), (6, .long (g_power (7 : Int64) (σ.2 13 1))), (4, .long (g_power x2 (σ.2 13 1))), (0, .ref (α 0)), (1, .int (nI e1)), (2, .long x2)]) hx hb d_M_shareTaken_116 hl (by decide) rfl (fun ls hl => ?_)
        refine lv_lconst (v := 0) hx hb d_M_shareTaken_118 (by decide) ?_
        refine lv_lload hx hb d_M_shareTaken_119 (lv_at hl 0 rfl) ?_
        refine vp_callSl (W.runS (As := [.long (0 : Int64), .long (g_power (7 : Int64) (((q_hash 1 (g_power (7 : Int64) (σ.2 0 4)) (g_power (7 : Int64) (σ.2 13 1)) (g_power x2 (σ.2 13 1)) (xb_sl σ 14 1 x2)) &&& (1073741823 : Int64)) + (1 : Int64)))]) (rest := []) ⟨hx, hb, hml, hown, hts⟩ (c_M_mix l (0 : Int64) (g_power (7 : Int64) (((q_hash 1 (g_power (7 : Int64) (σ.2 0 4)) (g_power (7 : Int64) (σ.2 13 1)) (g_power x2 (σ.2 13 1)) (xb_sl σ 14 1 x2)) &&& (1073741823 : Int64)) + (1 : Int64)))) (cwS 2 hts (xa_S xw1091 xw1092 xw11 xw1093) rfl rfl rfl (by decide +kernel) ⟨Nat.le_of_ble_eq_true rfl, Nat.le_of_ble_eq_true rfl⟩) preEq rfl rfl hl.1 rfl (lv_room (Nat.le_of_ble_eq_true rfl)) d_M_shareTaken_121 ⟨Nat.le_of_ble_eq_true rfl, Nat.le_of_ble_eq_true rfl⟩) (fun r_ e_ => ?_)
        subst e_
        refine lv_lload hx hb d_M_shareTaken_124 (lv_at hl 2 rfl) ?_
        refine vp_callSl (W.runS (As := [.long (g_mix (0 : Int64) (g_power (7 : Int64) (((q_hash 1 (g_power (7 : Int64) (σ.2 0 4)) (g_power (7 : Int64) (σ.2 13 1)) (g_power x2 (σ.2 13 1)) (xb_sl σ 14 1 x2)) &&& (1073741823 : Int64)) + (1 : Int64)))), .long (q_hash 1 (g_power (7 : Int64) (σ.2 0 4)) (g_power (7 : Int64) (σ.2 13 1)) (g_power x2 (σ.2 13 1)) (xb_sl σ 14 1 x2))]) (rest := []) ⟨hx, hb, hml, hown, hts⟩ (c_M_mix l (g_mix (0 : Int64) (g_power (7 : Int64) (((q_hash 1 (g_power (7 : Int64) (σ.2 0 4)) (g_power (7 : Int64) (σ.2 13 1)) (g_power x2 (σ.2 13 1)) (xb_sl σ 14 1 x2)) &&& (1073741823 : Int64)) + (1 : Int64)))) (q_hash 1 (g_power (7 : Int64) (σ.2 0 4)) (g_power (7 : Int64) (σ.2 13 1)) (g_power x2 (σ.2 13 1)) (xb_sl σ 14 1 x2))) (cwS 2 hts (xa_S xw1091 xw1092 xw11 xw1093) rfl rfl rfl (by decide +kernel) ⟨Nat.le_of_ble_eq_true rfl, Nat.le_of_ble_eq_true rfl⟩) preEq rfl rfl hl.1 rfl (lv_room (Nat.le_of_ble_eq_true rfl)) d_M_shareTaken_126 ⟨Nat.le_of_ble_eq_true rfl, Nat.le_of_ble_eq_true rfl⟩) (fun r_ e_ => ?_)
        subst e_
        refine lv_bipush (v := 34) hx hb d_M_shareTaken_129 (by decide) ?_
        refine lv_lushr (v := (xb_lushr (g_mix (g_mix (0 : Int64) (g_power (7 : Int64) (((q_hash 1 (g_power (7 : Int64) (σ.2 0 4)) (g_power (7 : Int64) (σ.2 13 1)) (g_power x2 (σ.2 13 1)) (xb_sl σ 14 1 x2)) &&& (1073741823 : Int64)) + (1 : Int64)))) (q_hash 1 (g_power (7 : Int64) (σ.2 0 4)) (g_power (7 : Int64) (σ.2 13 1)) (g_power x2 (σ.2 13 1)) (xb_sl σ 14 1 x2))) (34 : Int32))) hx hb d_M_shareTaken_131 rfl ?_
        refine lv_lstore (lv' := [(16, .long (xb_lushr (g_mix (g_mix (0 : Int64) (g_power (7 : Int64) (((q_hash 1 (g_power (7 : Int64) (σ.2 0 4)) (g_power (7 : Int64) (σ.2 13 1)) (g_power x2 (σ.2 13 1)) (xb_sl σ 14 1 x2)) &&& (1073741823 : Int64)) + (1 : Int64)))) (q_hash 1 (g_power (7 : Int64) (σ.2 0 4)) (g_power (7 : Int64) (σ.2 13 1)) (g_power x2 (σ.2 13 1)) (xb_sl σ 14 1 x2))) (34 : Int32))), (14, .long (g_power (7 : Int64) (((q_hash 1 (g_power (7 : Int64) (σ.2 0 4)) (g_power (7 : Int64) (σ.2 13 1)) (g_power x2 (σ.2 13 1)) (xb_sl σ 14 1 x2)) &&& (1073741823 : Int64)) + (1 : Int64)))), (12, .long (((q_hash 1 (g_power (7 : Int64) (σ.2 0 4)) (g_power (7 : Int64) (σ.2 13 1)) (g_power x2 (σ.2 13 1)) (xb_sl σ 14 1 x2)) &&& (1073741823 : Int64)) + (1 : Int64))), (10, .long (q_hash 1 (g_power (7 : Int64) (σ.2 0 4)) (g_power (7 : Int64) (σ.2 13 1)) (g_power x2 (σ.2 13 1)) (xb_sl σ 14 1 x2))), (8, .long (g_power (7 : Int64) (σ.2 0 4))), (6, .long (g_power (7 : Int64) (σ.2 13 1))), (4, .long (g_power x2 (σ.2 13 1))), (0, .ref (α 0)), (1, .int (nI e1)), (2, .long x2)]) hx hb d_M_shareTaken_132 hl (by decide) rfl (fun ls hl => ?_)
        refine lv_lload hx hb d_M_shareTaken_134 (lv_at hl 2 rfl) ?_
        refine lv_lload hx hb d_M_shareTaken_136 (lv_at hl 0 rfl) ?_
        refine lv_aload_n hx hb d_M_shareTaken_138 rfl (lv_at hl 7 rfl) ?_
        refine sm_g (v := .long (σ.2 0 4)) hx hb ht hown hK hP 4 (by decide) (ht _ xw956) (fun _ h_ => h_) (congrArg (fun z_ => some (Value.long z_)) ((xb_l_nk (by decide)))) d_M_shareTaken_139 ?_
        refine lv_lmul hx hb d_M_shareTaken_142 ?_
        refine lv_ladd hx hb d_M_shareTaken_143 ?_
        refine lv_ldc2 hx hb hown (ht _ xw1151) d_M_shareTaken_144 ?_
        refine lv_lrem hx hb d_M_shareTaken_147 (by decide) ?_
        refine lv_lstore (lv' := [(18, .long (xb_lrem ((((q_hash 1 (g_power (7 : Int64) (σ.2 0 4)) (g_power (7 : Int64) (σ.2 13 1)) (g_power x2 (σ.2 13 1)) (xb_sl σ 14 1 x2)) &&& (1073741823 : Int64)) + (1 : Int64)) + ((xb_lushr (g_mix (g_mix (0 : Int64) (g_power (7 : Int64) (((q_hash 1 (g_power (7 : Int64) (σ.2 0 4)) (g_power (7 : Int64) (σ.2 13 1)) (g_power x2 (σ.2 13 1)) (xb_sl σ 14 1 x2)) &&& (1073741823 : Int64)) + (1 : Int64)))) (q_hash 1 (g_power (7 : Int64) (σ.2 0 4)) (g_power (7 : Int64) (σ.2 13 1)) (g_power x2 (σ.2 13 1)) (xb_sl σ 14 1 x2))) (34 : Int32)) * (σ.2 0 4))) (2147483646 : Int64))), (16, .long (xb_lushr (g_mix (g_mix (0 : Int64) (g_power (7 : Int64) (((q_hash 1 (g_power (7 : Int64) (σ.2 0 4)) (g_power (7 : Int64) (σ.2 13 1)) (g_power x2 (σ.2 13 1)) (xb_sl σ 14 1 x2)) &&& (1073741823 : Int64)) + (1 : Int64)))) (q_hash 1 (g_power (7 : Int64) (σ.2 0 4)) (g_power (7 : Int64) (σ.2 13 1)) (g_power x2 (σ.2 13 1)) (xb_sl σ 14 1 x2))) (34 : Int32))), (14, .long (g_power (7 : Int64) (((q_hash 1 (g_power (7 : Int64) (σ.2 0 4)) (g_power (7 : Int64) (σ.2 13 1)) (g_power x2 (σ.2 13 1)) (xb_sl σ 14 1 x2)) &&& (1073741823 : Int64)) + (1 : Int64)))), (12, .long (((q_hash 1 (g_power (7 : Int64) (σ.2 0 4)) (g_power (7 : Int64) (σ.2 13 1)) (g_power x2 (σ.2 13 1)) (xb_sl σ 14 1 x2)) &&& (1073741823 : Int64)) + (1 : Int64))), (10, .long (q_hash 1 (g_power (7 : Int64) (σ.2 0 4)) (g_power (7 : Int64) (σ.2 13 1)) (g_power x2 (σ.2 13 1)) (xb_sl σ 14 1 x2))), (8, .long (g_power (7 : Int64) (σ.2 0 4))), (6, .long (g_power (7 : Int64) (σ.2 13 1))), (4, .long (g_power x2 (σ.2 13 1))), (0, .ref (α 0)), (1, .int (nI e1)), (2, .long x2)]) hx hb d_M_shareTaken_148 hl (by decide) rfl (fun ls hl => ?_)
        refine lv_aload_n hx hb d_M_shareTaken_150 rfl (lv_at hl 8 rfl) ?_
        refine lv_iconst (v := 1) hx hb d_M_shareTaken_151 (by decide) ?_
        refine lv_lload hx hb d_M_shareTaken_152 (lv_at hl 7 rfl) ?_
        refine lv_lload hx hb d_M_shareTaken_154 (lv_at hl 4 rfl) ?_
        refine sm_cv (va_runV (As := [.int (1 : Int32), .long (g_power x2 (σ.2 13 1)), .long (q_hash 1 (g_power (7 : Int64) (σ.2 0 4)) (g_power (7 : Int64) (σ.2 13 1)) (g_power x2 (σ.2 13 1)) (xb_sl σ 14 1 x2))]) (rest := []) ⟨hx, hb, hml, hown, hts⟩ (c_M_agree l D α κ hα (xb_sl σ 14 1 x2) (1 : Int32) 1 (xb_lit (x := (1 : Int32)) 1 rfl) (by omega) (g_power x2 (σ.2 13 1)) (q_hash 1 (g_power (7 : Int64) (σ.2 0 4)) (g_power (7 : Int64) (σ.2 13 1)) (g_power x2 (σ.2 13 1)) (xb_sl σ 14 1 x2))) (cwV 3 hts (xa_V xw1152 xw1154 xs14 xw11 xw1155) rfl rfl rfl (by decide +kernel) ⟨Nat.le_of_ble_eq_true rfl, Nat.le_of_ble_eq_true rfl⟩) ⟨sm_blind, va_recv (q0 := 0) (ci := 9) hK hP rfl rfl, sm_pre hP hK hN _⟩ rfl rfl hl.1 rfl (lv_room (Nat.le_of_ble_eq_true rfl)) d_M_shareTaken_156 ⟨Nat.le_of_ble_eq_true rfl, Nat.le_of_ble_eq_true rfl⟩) hS (fun _ h_ => h_) (fun H locs hP hS => ?_)
        obtain ⟨τ2, hτ2⟩ : ∃ t_, t_ = (q_agree 1 (g_power x2 (σ.2 13 1)) (q_hash 1 (g_power (7 : Int64) (σ.2 0 4)) (g_power (7 : Int64) (σ.2 13 1)) (g_power x2 (σ.2 13 1)) (xb_sl σ 14 1 x2)) (xb_sl σ 14 1 x2)) := ⟨_, rfl⟩
        rw [← hτ2] at hP
        have okτ2 : sm_ok τ2 := by rw [hτ2]; exact (ok_q_agree 1 (g_power x2 (σ.2 13 1)) (q_hash 1 (g_power (7 : Int64) (σ.2 0 4)) (g_power (7 : Int64) (σ.2 13 1)) (g_power x2 (σ.2 13 1)) (xb_sl σ 14 1 x2)) (by omega) (mk_sl ok))
        refine lv_aload_n hx hb d_M_shareTaken_159 rfl (lv_at hl 8 rfl) ?_
        refine lv_iconst (v := 1) hx hb d_M_shareTaken_160 (by decide) ?_
        refine lv_bipush (v := 31) hx hb d_M_shareTaken_161 (by decide) ?_
        refine lv_lload hx hb d_M_shareTaken_163 (lv_at hl 5 rfl) ?_
        refine lv_lload hx hb d_M_shareTaken_165 (lv_at hl 6 rfl) ?_
        refine lv_lload hx hb d_M_shareTaken_167 (lv_at hl 2 rfl) ?_
        refine lv_lload hx hb d_M_shareTaken_169 (lv_at hl 0 rfl) ?_
        refine sm_cv (va_runV (As := [.int (1 : Int32), .int (31 : Int32), .long (g_power (7 : Int64) (σ.2 0 4)), .long (g_power (7 : Int64) (σ.2 13 1)), .long (g_power (7 : Int64) (((q_hash 1 (g_power (7 : Int64) (σ.2 0 4)) (g_power (7 : Int64) (σ.2 13 1)) (g_power x2 (σ.2 13 1)) (xb_sl σ 14 1 x2)) &&& (1073741823 : Int64)) + (1 : Int64))), .long (xb_lrem ((((q_hash 1 (g_power (7 : Int64) (σ.2 0 4)) (g_power (7 : Int64) (σ.2 13 1)) (g_power x2 (σ.2 13 1)) (xb_sl σ 14 1 x2)) &&& (1073741823 : Int64)) + (1 : Int64)) + ((xb_lushr (g_mix (g_mix (0 : Int64) (g_power (7 : Int64) (((q_hash 1 (g_power (7 : Int64) (σ.2 0 4)) (g_power (7 : Int64) (σ.2 13 1)) (g_power x2 (σ.2 13 1)) (xb_sl σ 14 1 x2)) &&& (1073741823 : Int64)) + (1 : Int64)))) (q_hash 1 (g_power (7 : Int64) (σ.2 0 4)) (g_power (7 : Int64) (σ.2 13 1)) (g_power x2 (σ.2 13 1)) (xb_sl σ 14 1 x2))) (34 : Int32)) * (σ.2 0 4))) (2147483646 : Int64))]) (rest := []) ⟨hx, hb, hml, hown, hts⟩ (c_M_send l D α κ hα τ2 (1 : Int32) 1 (xb_lit (x := (1 : Int32)) 1 rfl) (by omega) (31 : Int32) (g_power (7 : Int64) (σ.2 0 4)) (g_power (7 : Int64) (σ.2 13 1)) (g_power (7 : Int64) (((q_hash 1 (g_power (7 : Int64) (σ.2 0 4)) (g_power (7 : Int64) (σ.2 13 1)) (g_power x2 (σ.2 13 1)) (xb_sl σ 14 1 x2)) &&& (1073741823 : Int64)) + (1 : Int64))) (xb_lrem ((((q_hash 1 (g_power (7 : Int64) (σ.2 0 4)) (g_power (7 : Int64) (σ.2 13 1)) (g_power x2 (σ.2 13 1)) (xb_sl σ 14 1 x2)) &&& (1073741823 : Int64)) + (1 : Int64)) + ((xb_lushr (g_mix (g_mix (0 : Int64) (g_power (7 : Int64) (((q_hash 1 (g_power (7 : Int64) (σ.2 0 4)) (g_power (7 : Int64) (σ.2 13 1)) (g_power x2 (σ.2 13 1)) (xb_sl σ 14 1 x2)) &&& (1073741823 : Int64)) + (1 : Int64)))) (q_hash 1 (g_power (7 : Int64) (σ.2 0 4)) (g_power (7 : Int64) (σ.2 13 1)) (g_power x2 (σ.2 13 1)) (xb_sl σ 14 1 x2))) (34 : Int32)) * (σ.2 0 4))) (2147483646 : Int64)) okτ2) (cwV 6 hts (xa_V xw1084 xw1086 xs6 xw11 xw1087) rfl rfl rfl (by decide +kernel) ⟨Nat.le_of_ble_eq_true rfl, Nat.le_of_ble_eq_true rfl⟩) ⟨sm_blind, va_recv (q0 := 0) (ci := 9) hK hP rfl rfl, sm_pre hP hK hN _⟩ rfl rfl hl.1 rfl (lv_room (Nat.le_of_ble_eq_true rfl)) d_M_shareTaken_171 ⟨Nat.le_of_ble_eq_true rfl, Nat.le_of_ble_eq_true rfl⟩) hS (fun _ h_ => h_) (fun H locs hP hS => ?_)
        obtain ⟨τ3, hτ3⟩ : ∃ t_, t_ = (q_send 1 (31 : Int32) (g_power (7 : Int64) (σ.2 0 4)) (g_power (7 : Int64) (σ.2 13 1)) (g_power (7 : Int64) (((q_hash 1 (g_power (7 : Int64) (σ.2 0 4)) (g_power (7 : Int64) (σ.2 13 1)) (g_power x2 (σ.2 13 1)) (xb_sl σ 14 1 x2)) &&& (1073741823 : Int64)) + (1 : Int64))) (xb_lrem ((((q_hash 1 (g_power (7 : Int64) (σ.2 0 4)) (g_power (7 : Int64) (σ.2 13 1)) (g_power x2 (σ.2 13 1)) (xb_sl σ 14 1 x2)) &&& (1073741823 : Int64)) + (1 : Int64)) + ((xb_lushr (g_mix (g_mix (0 : Int64) (g_power (7 : Int64) (((q_hash 1 (g_power (7 : Int64) (σ.2 0 4)) (g_power (7 : Int64) (σ.2 13 1)) (g_power x2 (σ.2 13 1)) (xb_sl σ 14 1 x2)) &&& (1073741823 : Int64)) + (1 : Int64)))) (q_hash 1 (g_power (7 : Int64) (σ.2 0 4)) (g_power (7 : Int64) (σ.2 13 1)) (g_power x2 (σ.2 13 1)) (xb_sl σ 14 1 x2))) (34 : Int32)) * (σ.2 0 4))) (2147483646 : Int64)) τ2) := ⟨_, rfl⟩
        rw [← hτ3] at hP
        have okτ3 : sm_ok τ3 := by rw [hτ3]; exact (ok_q_send 1 (31 : Int32) (g_power (7 : Int64) (σ.2 0 4)) (g_power (7 : Int64) (σ.2 13 1)) (g_power (7 : Int64) (((q_hash 1 (g_power (7 : Int64) (σ.2 0 4)) (g_power (7 : Int64) (σ.2 13 1)) (g_power x2 (σ.2 13 1)) (xb_sl σ 14 1 x2)) &&& (1073741823 : Int64)) + (1 : Int64))) (xb_lrem ((((q_hash 1 (g_power (7 : Int64) (σ.2 0 4)) (g_power (7 : Int64) (σ.2 13 1)) (g_power x2 (σ.2 13 1)) (xb_sl σ 14 1 x2)) &&& (1073741823 : Int64)) + (1 : Int64)) + ((xb_lushr (g_mix (g_mix (0 : Int64) (g_power (7 : Int64) (((q_hash 1 (g_power (7 : Int64) (σ.2 0 4)) (g_power (7 : Int64) (σ.2 13 1)) (g_power x2 (σ.2 13 1)) (xb_sl σ 14 1 x2)) &&& (1073741823 : Int64)) + (1 : Int64)))) (q_hash 1 (g_power (7 : Int64) (σ.2 0 4)) (g_power (7 : Int64) (σ.2 13 1)) (g_power x2 (σ.2 13 1)) (xb_sl σ 14 1 x2))) (34 : Int32)) * (σ.2 0 4))) (2147483646 : Int64)) (by omega) okτ2)
        refine lv_aload_n hx hb d_M_shareTaken_174 rfl (lv_at hl 8 rfl) ?_
        refine lv_iconst (v := 1) hx hb d_M_shareTaken_175 (by decide) ?_
        refine sm_cv (va_runV (As := [.int (1 : Int32)]) (rest := []) ⟨hx, hb, hml, hown, hts⟩ (c_M_turn l D α κ hα τ3 (1 : Int32) 1 (xb_lit (x := (1 : Int32)) 1 rfl) (by omega) okτ3) (cwV 1 hts (xa_V xw1156 xw1158 xs15 xw11 xw1159) rfl rfl rfl (by decide +kernel) ⟨Nat.le_of_ble_eq_true rfl, Nat.le_of_ble_eq_true rfl⟩) ⟨sm_blind, va_recv (q0 := 0) (ci := 9) hK hP rfl rfl, sm_pre hP hK hN _⟩ rfl rfl hl.1 rfl (lv_room (Nat.le_of_ble_eq_true rfl)) d_M_shareTaken_176 ⟨Nat.le_of_ble_eq_true rfl, Nat.le_of_ble_eq_true rfl⟩) hS (fun _ h_ => h_) (fun H locs hP hS => ?_)
        obtain ⟨τ4, hτ4⟩ : ∃ t_, t_ = (q_turn 1 τ3) := ⟨_, rfl⟩
        rw [← hτ4] at hP
        have okτ4 : sm_ok τ4 := by rw [hτ4]; exact (ok_q_turn 1 (by omega) okτ3)
        exact W.vret hx hb hr (fun t ht_ hW => ⟨⟨τ4, rfl, (by subst hτ4; subst hτ3; subst hτ2; exact ((if_pos c1).trans ((if_pos c2).trans ((if_neg c3)))).symm), by rw [sm_B, ht_]; exact hP⟩, hS.F ht_⟩) hS.2.2 d_M_shareTaken_179
      · skip
        refine lv_aload_n hx hb d_M_shareTaken_31 rfl (lv_at hl 0 rfl) ?_
        refine lv_iload_n hx hb d_M_shareTaken_32 rfl (lv_at hl 1 rfl) ?_
        refine lv_ldc2 hx hb hown (ht _ xw1132) d_M_shareTaken_33 ?_
        refine sm_cv (va_runV (As := [.int (nI e1), .long (3 : Int64)]) (rest := []) ⟨hx, hb, hml, hown, hts⟩ (c_M_fail l D α κ hα σ (nI e1) e1 (xb_lit e1 rfl) (by omega) (3 : Int64) ok) (cwV 2 hts (xa_V xw1112 xw1114 xs9 xw11 xw1115) rfl rfl rfl (by decide +kernel) ⟨Nat.le_of_ble_eq_true rfl, Nat.le_of_ble_eq_true rfl⟩) ⟨sm_blind, va_recv (q0 := 0) (ci := 9) hK hP rfl rfl, sm_pre hP hK hN _⟩ rfl rfl hl.1 rfl (lv_room (Nat.le_of_ble_eq_true rfl)) d_M_shareTaken_36 ⟨Nat.le_of_ble_eq_true rfl, Nat.le_of_ble_eq_true rfl⟩) hS (fun _ h_ => h_) (fun H locs hP hS => ?_)
        obtain ⟨τ5, hτ5⟩ : ∃ t_, t_ = (q_fail e1 (3 : Int64) σ) := ⟨_, rfl⟩
        rw [← hτ5] at hP
        have okτ5 : sm_ok τ5 := by rw [hτ5]; exact (ok_q_fail e1 (3 : Int64) (by omega) ok)
        exact W.vret hx hb hr (fun t ht_ hW => ⟨⟨τ5, rfl, (by subst hτ5; exact ((if_pos c1).trans ((if_pos c2).trans ((if_pos c3)))).symm), by rw [sm_B, ht_]; exact hP⟩, hS.F ht_⟩) hS.2.2 d_M_shareTaken_39
    · skip
      refine lv_aload_n hx hb d_M_shareTaken_15 rfl (lv_at hl 0 rfl) ?_
      refine lv_iload_n hx hb d_M_shareTaken_16 rfl (lv_at hl 1 rfl) ?_
      refine lv_ldc2 hx hb hown (ht _ xw1120) d_M_shareTaken_17 ?_
      refine sm_cv (va_runV (As := [.int (nI e1), .long (2 : Int64)]) (rest := []) ⟨hx, hb, hml, hown, hts⟩ (c_M_fail l D α κ hα σ (nI e1) e1 (xb_lit e1 rfl) (by omega) (2 : Int64) ok) (cwV 2 hts (xa_V xw1112 xw1114 xs9 xw11 xw1115) rfl rfl rfl (by decide +kernel) ⟨Nat.le_of_ble_eq_true rfl, Nat.le_of_ble_eq_true rfl⟩) ⟨sm_blind, va_recv (q0 := 0) (ci := 9) hK hP rfl rfl, sm_pre hP hK hN _⟩ rfl rfl hl.1 rfl (lv_room (Nat.le_of_ble_eq_true rfl)) d_M_shareTaken_20 ⟨Nat.le_of_ble_eq_true rfl, Nat.le_of_ble_eq_true rfl⟩) hS (fun _ h_ => h_) (fun H locs hP hS => ?_)
      obtain ⟨τ6, hτ6⟩ : ∃ t_, t_ = (q_fail e1 (2 : Int64) σ) := ⟨_, rfl⟩
      rw [← hτ6] at hP
      have okτ6 : sm_ok τ6 := by rw [hτ6]; exact (ok_q_fail e1 (2 : Int64) (by omega) ok)
      exact W.vret hx hb hr (fun t ht_ hW => ⟨⟨τ6, rfl, (by subst hτ6; exact ((if_pos c1).trans ((if_neg c2))).symm), by rw [sm_B, ht_]; exact hP⟩, hS.F ht_⟩) hS.2.2 d_M_shareTaken_23
theorem ok_q_share {σ : xb_St} (e1 : Nat) (x2 : Int64) (b_e1 : e1 < 2) (ok : sm_ok σ) : sm_ok (q_share e1 x2 σ) := by
  unfold q_share
  by_cases c1 : (nI e1) = (1 : Int32)
  · rw [if_pos c1]
    by_cases c2 : (σ.1 4 e1) = (2 : Int32)
    · rw [if_pos c2]
      by_cases c3 : (g_isShare x2) = 0
      · rw [if_pos c3]
        exact (ok_q_fail e1 (3 : Int64) (by omega) ok)
      · rw [if_neg c3]
        exact (ok_q_turn 1 (by omega) (ok_q_send 1 (31 : Int32) (g_power (7 : Int64) (σ.2 0 4)) (g_power (7 : Int64) (σ.2 13 1)) (g_power (7 : Int64) (((q_hash 1 (g_power (7 : Int64) (σ.2 0 4)) (g_power (7 : Int64) (σ.2 13 1)) (g_power x2 (σ.2 13 1)) (xb_sl σ 14 1 x2)) &&& (1073741823 : Int64)) + (1 : Int64))) (xb_lrem ((((q_hash 1 (g_power (7 : Int64) (σ.2 0 4)) (g_power (7 : Int64) (σ.2 13 1)) (g_power x2 (σ.2 13 1)) (xb_sl σ 14 1 x2)) &&& (1073741823 : Int64)) + (1 : Int64)) + ((xb_lushr (g_mix (g_mix (0 : Int64) (g_power (7 : Int64) (((q_hash 1 (g_power (7 : Int64) (σ.2 0 4)) (g_power (7 : Int64) (σ.2 13 1)) (g_power x2 (σ.2 13 1)) (xb_sl σ 14 1 x2)) &&& (1073741823 : Int64)) + (1 : Int64)))) (q_hash 1 (g_power (7 : Int64) (σ.2 0 4)) (g_power (7 : Int64) (σ.2 13 1)) (g_power x2 (σ.2 13 1)) (xb_sl σ 14 1 x2))) (34 : Int32)) * (σ.2 0 4))) (2147483646 : Int64)) (by omega) (ok_q_agree 1 (g_power x2 (σ.2 13 1)) (q_hash 1 (g_power (7 : Int64) (σ.2 0 4)) (g_power (7 : Int64) (σ.2 13 1)) (g_power x2 (σ.2 13 1)) (xb_sl σ 14 1 x2)) (by omega) (mk_sl ok))))
    · rw [if_neg c2]
      exact (ok_q_fail e1 (2 : Int64) (by omega) ok)
  · rw [if_neg c1]
    exact (ok_q_fail e1 (2 : Int64) (by omega) ok)
abbrev b_M_replyTaken : ByteArray := prog_12_method_26_code
def y_M_replyTaken : MethodName := ⟨"SecurePairModel", "replyTaken", "(IJJJJ)V"⟩
abbrev w_M_replyTaken : List Cond := .code y_M_replyTaken b_M_replyTaken 14 none :: xa
theorem d_M_replyTaken_0 : decode b_M_replyTaken 0 = .ok (.iload_n 1, 1) := by decide +kernel
theorem d_M_replyTaken_1 : decode b_M_replyTaken 1 = .ok (.ifCond .ne 13, 3) := by decide +kernel
theorem d_M_replyTaken_4 : decode b_M_replyTaken 4 = .ok (.aload_n 0, 1) := by decide +kernel
theorem d_M_replyTaken_5 : decode b_M_replyTaken 5 = .ok (.getfield 25, 3) := by decide +kernel
theorem d_M_replyTaken_8 : decode b_M_replyTaken 8 = .ok (.iload_n 1, 1) := by decide +kernel
theorem d_M_replyTaken_9 : decode b_M_replyTaken 9 = .ok (.iaload, 1) := by decide +kernel
theorem d_M_replyTaken_10 : decode b_M_replyTaken 10 = .ok (.iconst 2, 1) := by decide +kernel
theorem d_M_replyTaken_11 : decode b_M_replyTaken 11 = .ok (.if_icmp .eq 12, 3) := by decide +kernel
theorem d_M_replyTaken_14 : decode b_M_replyTaken 14 = .ok (.aload_n 0, 1) := by decide +kernel
theorem d_M_replyTaken_15 : decode b_M_replyTaken 15 = .ok (.iload_n 1, 1) := by decide +kernel
theorem d_M_replyTaken_16 : decode b_M_replyTaken 16 = .ok (.ldc2_w 134, 3) := by decide +kernel
theorem d_M_replyTaken_19 : decode b_M_replyTaken 19 = .ok (.invokevirtual 181, 3) := by decide +kernel
theorem d_M_replyTaken_22 : decode b_M_replyTaken 22 = .ok (.return_, 1) := by decide +kernel
theorem d_M_replyTaken_23 : decode b_M_replyTaken 23 = .ok (.lload 4, 2) := by decide +kernel
theorem d_M_replyTaken_25 : decode b_M_replyTaken 25 = .ok (.invokestatic 197, 3) := by decide +kernel
theorem d_M_replyTaken_28 : decode b_M_replyTaken 28 = .ok (.ifCond .ne 12, 3) := by decide +kernel
theorem d_M_replyTaken_31 : decode b_M_replyTaken 31 = .ok (.aload_n 0, 1) := by decide +kernel
theorem d_M_replyTaken_32 : decode b_M_replyTaken 32 = .ok (.iload_n 1, 1) := by decide +kernel
theorem d_M_replyTaken_33 : decode b_M_replyTaken 33 = .ok (.ldc2_w 192, 3) := by decide +kernel
theorem d_M_replyTaken_36 : decode b_M_replyTaken 36 = .ok (.invokevirtual 181, 3) := by decide +kernel
theorem d_M_replyTaken_39 : decode b_M_replyTaken 39 = .ok (.return_, 1) := by decide +kernel
theorem d_M_replyTaken_40 : decode b_M_replyTaken 40 = .ok (.aload_n 0, 1) := by decide +kernel
theorem d_M_replyTaken_41 : decode b_M_replyTaken 41 = .ok (.getfield 213, 3) := by decide +kernel
theorem d_M_replyTaken_44 : decode b_M_replyTaken 44 = .ok (.ifCond .eq 22, 3) := by decide +kernel
theorem d_M_replyTaken_47 : decode b_M_replyTaken 47 = .ok (.lload_n 2, 1) := by decide +kernel
theorem d_M_replyTaken_48 : decode b_M_replyTaken 48 = .ok (.aload_n 0, 1) := by decide +kernel
theorem d_M_replyTaken_49 : decode b_M_replyTaken 49 = .ok (.getfield 213, 3) := by decide +kernel
theorem d_M_replyTaken_52 : decode b_M_replyTaken 52 = .ok (.i2l, 1) := by decide +kernel
theorem d_M_replyTaken_53 : decode b_M_replyTaken 53 = .ok (.lcmp, 1) := by decide +kernel
theorem d_M_replyTaken_54 : decode b_M_replyTaken 54 = .ok (.ifCond .eq 12, 3) := by decide +kernel
theorem d_M_replyTaken_57 : decode b_M_replyTaken 57 = .ok (.aload_n 0, 1) := by decide +kernel
theorem d_M_replyTaken_58 : decode b_M_replyTaken 58 = .ok (.iload_n 1, 1) := by decide +kernel
theorem d_M_replyTaken_59 : decode b_M_replyTaken 59 = .ok (.ldc2_w 216, 3) := by decide +kernel
theorem d_M_replyTaken_62 : decode b_M_replyTaken 62 = .ok (.invokevirtual 181, 3) := by decide +kernel
theorem d_M_replyTaken_65 : decode b_M_replyTaken 65 = .ok (.return_, 1) := by decide +kernel
theorem d_M_replyTaken_66 : decode b_M_replyTaken 66 = .ok (.lload 4, 2) := by decide +kernel
theorem d_M_replyTaken_68 : decode b_M_replyTaken 68 = .ok (.aload_n 0, 1) := by decide +kernel
theorem d_M_replyTaken_69 : decode b_M_replyTaken 69 = .ok (.getfield 54, 3) := by decide +kernel
theorem d_M_replyTaken_72 : decode b_M_replyTaken 72 = .ok (.iconst 0, 1) := by decide +kernel
theorem d_M_replyTaken_73 : decode b_M_replyTaken 73 = .ok (.laload, 1) := by decide +kernel
theorem d_M_replyTaken_74 : decode b_M_replyTaken 74 = .ok (.invokestatic 148, 3) := by decide +kernel
theorem d_M_replyTaken_77 : decode b_M_replyTaken 77 = .ok (.lstore 10, 2) := by decide +kernel
theorem d_M_replyTaken_79 : decode b_M_replyTaken 79 = .ok (.aload_n 0, 1) := by decide +kernel
theorem d_M_replyTaken_80 : decode b_M_replyTaken 80 = .ok (.iconst 0, 1) := by decide +kernel
theorem d_M_replyTaken_81 : decode b_M_replyTaken 81 = .ok (.lload_n 2, 1) := by decide +kernel
theorem d_M_replyTaken_82 : decode b_M_replyTaken 82 = .ok (.lload 4, 2) := by decide +kernel
theorem d_M_replyTaken_84 : decode b_M_replyTaken 84 = .ok (.lload 10, 2) := by decide +kernel
theorem d_M_replyTaken_86 : decode b_M_replyTaken 86 = .ok (.invokevirtual 200, 3) := by decide +kernel
theorem d_M_replyTaken_89 : decode b_M_replyTaken 89 = .ok (.lstore 12, 2) := by decide +kernel
theorem d_M_replyTaken_91 : decode b_M_replyTaken 91 = .ok (.lload_n 2, 1) := by decide +kernel
theorem d_M_replyTaken_92 : decode b_M_replyTaken 92 = .ok (.lload 6, 2) := by decide +kernel
theorem d_M_replyTaken_94 : decode b_M_replyTaken 94 = .ok (.lload 8, 2) := by decide +kernel
theorem d_M_replyTaken_96 : decode b_M_replyTaken 96 = .ok (.lload 12, 2) := by decide +kernel
theorem d_M_replyTaken_98 : decode b_M_replyTaken 98 = .ok (.invokestatic 218, 3) := by decide +kernel
theorem d_M_replyTaken_101 : decode b_M_replyTaken 101 = .ok (.ifCond .ne 12, 3) := by decide +kernel
theorem d_M_replyTaken_104 : decode b_M_replyTaken 104 = .ok (.aload_n 0, 1) := by decide +kernel
theorem d_M_replyTaken_105 : decode b_M_replyTaken 105 = .ok (.iload_n 1, 1) := by decide +kernel
theorem d_M_replyTaken_106 : decode b_M_replyTaken 106 = .ok (.ldc2_w 222, 3) := by decide +kernel
theorem d_M_replyTaken_109 : decode b_M_replyTaken 109 = .ok (.invokevirtual 181, 3) := by decide +kernel
theorem d_M_replyTaken_112 : decode b_M_replyTaken 112 = .ok (.return_, 1) := by decide +kernel
theorem d_M_replyTaken_113 : decode b_M_replyTaken 113 = .ok (.aload_n 0, 1) := by decide +kernel
theorem d_M_replyTaken_114 : decode b_M_replyTaken 114 = .ok (.iconst 0, 1) := by decide +kernel
theorem d_M_replyTaken_115 : decode b_M_replyTaken 115 = .ok (.lload 10, 2) := by decide +kernel
theorem d_M_replyTaken_117 : decode b_M_replyTaken 117 = .ok (.lload 12, 2) := by decide +kernel
theorem d_M_replyTaken_119 : decode b_M_replyTaken 119 = .ok (.invokevirtual 206, 3) := by decide +kernel
theorem d_M_replyTaken_122 : decode b_M_replyTaken 122 = .ok (.aload_n 0, 1) := by decide +kernel
theorem d_M_replyTaken_123 : decode b_M_replyTaken 123 = .ok (.iconst 0, 1) := by decide +kernel
theorem d_M_replyTaken_124 : decode b_M_replyTaken 124 = .ok (.invokevirtual 210, 3) := by decide +kernel
theorem d_M_replyTaken_127 : decode b_M_replyTaken 127 = .ok (.return_, 1) := by decide +kernel
theorem xw1168 : (Cond.constantLong "SecurePairModel" (216 : Nat) (9 : Int64)) ∈ xa := xa_t 1168 (by decide +kernel) (by decide +kernel)
theorem xw1169 : (Cond.methodLink "SecurePairModel" (218 : Nat) ({ cls := "SecurePairModel", name := "verifies", desc := "(JJJJ)Z" } : MethodName)) ∈ xa := xa_t 1169 (by decide +kernel) (by decide +kernel)
theorem xw1170 : (Cond.static ({ cls := "SecurePairModel", name := "verifies", desc := "(JJJJ)Z" } : MethodName)) ∈ xa := xa_t 1170 (by decide +kernel) (by decide +kernel)
theorem xw1171 : (Cond.code ({ cls := "SecurePairModel", name := "verifies", desc := "(JJJJ)Z" } : MethodName) prog_12_method_9_code (10 : Nat) (Option.some ClassFile.FieldType.boolean)) ∈ xa := xa_t 1171 (by decide +kernel) (by decide +kernel)
def q_reply (e1 : Nat) (x2 : Int64) (x3 : Int64) (x4 : Int64) (x5 : Int64) (σ : xb_St) : xb_St := (if (nI e1) = 0 then (if (σ.1 4 e1) = (2 : Int32) then (if (g_isShare x3) = 0 then (q_fail e1 (3 : Int64) σ) else (if (σ.1 0 5) = 0 then (if (g_verifies x2 x4 x5 (q_hash 0 x2 x3 (g_power x3 (σ.2 13 0)) σ)) = 0 then (q_fail e1 (4 : Int64) σ) else (q_turn 0 (q_agree 0 (g_power x3 (σ.2 13 0)) (q_hash 0 x2 x3 (g_power x3 (σ.2 13 0)) σ) σ))) else (if x2 = (σ.1 0 5).toInt64 then (if (g_verifies x2 x4 x5 (q_hash 0 x2 x3 (g_power x3 (σ.2 13 0)) σ)) = 0 then (q_fail e1 (4 : Int64) σ) else (q_turn 0 (q_agree 0 (g_power x3 (σ.2 13 0)) (q_hash 0 x2 x3 (g_power x3 (σ.2 13 0)) σ) σ))) else (q_fail e1 (9 : Int64) σ)))) else (q_fail e1 (2 : Int64) σ)) else (q_fail e1 (2 : Int64) σ))
set_option maxHeartbeats 4000000 in
set_option maxRecDepth 100000 in
theorem c_M_replyTaken (l : Launch) (D : va_G) (α : Nat → Nat) (κ : Nat → ClassId) (hα : xb_inj α 35) (σ : xb_St) (x_e1 : Int32) (e1 : Nat) (e_e1 : x_e1 = nI e1) (b_e1 : e1 < 2) (x2 : Int64) (x3 : Int64) (x4 : Int64) (x5 : Int64) (ok : sm_ok σ) : Met l y_M_replyTaken w_M_replyTaken ({ frames := 4, cells := 0, slots := 0, locals := 115 }) (va_Pc ([.ref (α 0), .int x_e1, .long x2, .long x3, .long x4, .long x5]) (sm_Pre D α κ σ)) (va_Qv (fun u : xb_St => u = q_reply e1 x2 x3 x4 x5 σ) (sm_B D α κ) (xb_A α 35)) 0 0 (xb_A α 35) := by
  subst e_e1
  refine Met.ofW (cc := b_M_replyTaken) (maxL := 14) (ret := none) (by decide) rfl ?_
  intro p e s m args below meth c s₁ B_ hml hv
  obtain ⟨rfl, hP, hK, hN⟩ := hv
  have hx := B_.exec
  have hb := B_.bytes
  have hr := B_.returns
  have hts := atoms_spec (ws := w_M_replyTaken) B_.pre
  have ht : ∀ w ∈ xa, w.before _ s = true := fun w h => hts w (List.mem_cons_of_mem _ h)
  have hown : s.vm.findClass "SecurePairModel" = some m.cls := findClass_of_methodNamed B_.named
  have hlocks := B_.notSynchronized
  have hD := sm_D hα κ
  have hS : va_S (xb_A α 35) s.heap s.heap [] := va_S.rf
  have hl := lv_entry ([.ref (α 0), .int (nI e1), .long x2, .long x3, .long x4, .long x5]) (n := 14) (Nat.le_of_ble_eq_true rfl)
  rw [lg_entry_eq]
  generalize (lg_sl ([.ref (α 0), .int (nI e1), .long x2, .long x3, .long x4, .long x5]) ++ List.replicate (14 - (lg_sl ([.ref (α 0), .int (nI e1), .long x2, .long x3, .long x4, .long x5])).length) Slot.unset).toArray = ls at hl ⊢
  have hl : lv_has ls 14 [(0, .ref (α 0)), (1, .int (nI e1)), (2, .long x2), (4, .long x3), (6, .long x4), (8, .long x5)] := hl
  refine lv_iload_n hx hb d_M_replyTaken_0 rfl (lv_at hl 1 rfl) ?_
  refine lv_if_ne (tgt := 14) hx hb d_M_replyTaken_1 (by decide) (fun c1 => ?_) (fun c1 => ?_)
  · skip
    have nc1 := mt (xb_eqN (xb_lit e1 rfl) (xb_lit (x := (0 : Int32)) 0 rfl) (by omega) (by omega)).mpr c1
    refine lv_aload_n hx hb d_M_replyTaken_14 rfl (lv_at hl 0 rfl) ?_
    refine lv_iload_n hx hb d_M_replyTaken_15 rfl (lv_at hl 1 rfl) ?_
    refine lv_ldc2 hx hb hown (ht _ xw1120) d_M_replyTaken_16 ?_
    refine sm_cv (va_runV (As := [.int (nI e1), .long (2 : Int64)]) (rest := []) ⟨hx, hb, hml, hown, hts⟩ (c_M_fail l D α κ hα σ (nI e1) e1 (xb_lit e1 rfl) (by omega) (2 : Int64) ok) (cwV 2 hts (xa_V xw1112 xw1114 xs9 xw11 xw1115) rfl rfl rfl (by decide +kernel) ⟨Nat.le_of_ble_eq_true rfl, Nat.le_of_ble_eq_true rfl⟩) ⟨sm_blind, va_recv (q0 := 0) (ci := 9) hK hP rfl rfl, sm_pre hP hK hN _⟩ rfl rfl hl.1 rfl (lv_room (Nat.le_of_ble_eq_true rfl)) d_M_replyTaken_19 ⟨Nat.le_of_ble_eq_true rfl, Nat.le_of_ble_eq_true rfl⟩) hS (fun _ h_ => h_) (fun H locs hP hS => ?_)
    obtain ⟨τ1, hτ1⟩ : ∃ t_, t_ = (q_fail e1 (2 : Int64) σ) := ⟨_, rfl⟩
    rw [← hτ1] at hP
    have okτ1 : sm_ok τ1 := by rw [hτ1]; exact (ok_q_fail e1 (2 : Int64) (by omega) ok)
    exact W.vret hx hb hr (fun t ht_ hW => ⟨⟨τ1, rfl, (by subst hτ1; exact ((if_neg c1)).symm), by rw [sm_B, ht_]; exact hP⟩, hS.F ht_⟩) hS.2.2 d_M_replyTaken_22
  · skip
    have nc1 := (xb_eqN (xb_lit e1 rfl) (xb_lit (x := (0 : Int32)) 0 rfl) (by omega) (by omega)).mp c1
    refine lv_aload_n hx hb d_M_replyTaken_4 rfl (lv_at hl 0 rfl) ?_
    refine sm_g (v := .ref (α 4)) hx hb ht hown hK hP 6 (by decide) (ht _ xw958) (fun _ h_ => h_) rfl d_M_replyTaken_5 ?_
    refine lv_iload_n hx hb d_M_replyTaken_8 rfl (lv_at hl 1 rfl) ?_
    refine sm_gaI (L := 2) (n := e1) (v := (σ.1 4 e1)) hx hb hK hP 4 3 rfl rfl (xb_in (xb_lit e1 rfl) (by omega) (by decide)) (xb_cl (xb_lit e1 rfl) (by omega)) rfl d_M_replyTaken_9 ?_
    refine lv_iconst (v := 2) hx hb d_M_replyTaken_10 (by decide) ?_
    refine lv_icmp_eq (tgt := 23) hx hb d_M_replyTaken_11 (by decide) (fun c2 => ?_) (fun c2 => ?_)
    · skip
      refine lv_lload hx hb d_M_replyTaken_23 (lv_at hl 3 rfl) ?_
      refine vp_callSi (W.runS (As := [.long x3]) (rest := []) ⟨hx, hb, hml, hown, hts⟩ (c_M_isShare l x3) (cwS 1 hts (xa_S xw1142 xw1143 xw11 xw1144) rfl rfl rfl (by decide +kernel) ⟨Nat.le_of_ble_eq_true rfl, Nat.le_of_ble_eq_true rfl⟩) preEq rfl rfl hl.1 rfl (lv_room (Nat.le_of_ble_eq_true rfl)) d_M_replyTaken_25 ⟨Nat.le_of_ble_eq_true rfl, Nat.le_of_ble_eq_true rfl⟩) (fun r_ e_ => ?_)
      subst e_
      refine lv_if_ne (tgt := 40) hx hb d_M_replyTaken_28 (by decide) (fun c3 => ?_) (fun c3 => ?_)
      · skip
        refine lv_aload_n hx hb d_M_replyTaken_40 rfl (lv_at hl 0 rfl) ?_
        refine sm_g (v := .int (σ.1 0 5)) hx hb ht hown hK hP 5 (by decide) (ht _ xw957) (fun _ h_ => h_) rfl d_M_replyTaken_41 ?_
        refine lv_if_eq (tgt := 66) hx hb d_M_replyTaken_44 (by decide) (fun c4 => ?_) (fun c4 => ?_)
        · skip
          refine lv_lload hx hb d_M_replyTaken_66 (lv_at hl 3 rfl) ?_
          refine lv_aload_n hx hb d_M_replyTaken_68 rfl (lv_at hl 0 rfl) ?_
          refine sm_g (v := .ref (α 13)) hx hb ht hown hK hP 15 (by decide) (ht _ xw967) (fun _ h_ => h_) rfl d_M_replyTaken_69 ?_
          refine lv_iconst (v := 0) hx hb d_M_replyTaken_72 (by decide) ?_
          refine sm_gaJ (L := 2) (n := 0) (v := (σ.2 13 0)) hx hb hK hP 13 12 rfl rfl (xb_in (xb_lit (x := (0 : Int32)) 0 rfl) (by omega) (by decide)) (xb_cl (xb_lit (x := (0 : Int32)) 0 rfl) (by omega)) rfl d_M_replyTaken_73 ?_
          refine vp_callSl (W.runS (As := [.long x3, .long (σ.2 13 0)]) (rest := []) ⟨hx, hb, hml, hown, hts⟩ (c_M_power l x3 (σ.2 13 0)) (cwS 2 hts (xa_S xw1134 xw1135 xw11 xw1136) rfl rfl rfl (by decide +kernel) ⟨Nat.le_of_ble_eq_true rfl, Nat.le_of_ble_eq_true rfl⟩) preEq rfl rfl hl.1 rfl (lv_room (Nat.le_of_ble_eq_true rfl)) d_M_replyTaken_74 ⟨Nat.le_of_ble_eq_true rfl, Nat.le_of_ble_eq_true rfl⟩) (fun r_ e_ => ?_)
          subst e_
          refine lv_lstore (lv' := [(10, .long (g_power x3 (σ.2 13 0))), (0, .ref (α 0)), (1, .int (nI e1)), (2, .long x2), (4, .long x3), (6, .long x4), (8, .long x5)]) hx hb d_M_replyTaken_77 hl (by decide) rfl (fun ls hl => ?_)
          refine lv_aload_n hx hb d_M_replyTaken_79 rfl (lv_at hl 1 rfl) ?_
          refine lv_iconst (v := 0) hx hb d_M_replyTaken_80 (by decide) ?_
          refine lv_lload_n hx hb d_M_replyTaken_81 rfl (lv_at hl 3 rfl) ?_
          refine lv_lload hx hb d_M_replyTaken_82 (lv_at hl 4 rfl) ?_
          refine lv_lload hx hb d_M_replyTaken_84 (lv_at hl 0 rfl) ?_
          refine sm_cl (va_runV (As := [.int (0 : Int32), .long x2, .long x3, .long (g_power x3 (σ.2 13 0))]) (rest := []) ⟨hx, hb, hml, hown, hts⟩ (c_M_hashOf l D α κ hα σ (0 : Int32) 0 (xb_lit (x := (0 : Int32)) 0 rfl) (by omega) x2 x3 (g_power x3 (σ.2 13 0))) (cwV 4 hts (xa_V xw1146 xw1148 xs13 xw11 xw1149) rfl rfl rfl (by decide +kernel) ⟨Nat.le_of_ble_eq_true rfl, Nat.le_of_ble_eq_true rfl⟩) ⟨sm_blind, va_recv (q0 := 0) (ci := 9) hK hP rfl rfl, sm_pre hP hK hN _⟩ rfl rfl hl.1 rfl (lv_room (Nat.le_of_ble_eq_true rfl)) d_M_replyTaken_86 ⟨Nat.le_of_ble_eq_true rfl, Nat.le_of_ble_eq_true rfl⟩) hS (fun _ h_ => h_) (fun H locs hP hS => ?_)
          refine lv_lstore (lv' := [(12, .long (q_hash 0 x2 x3 (g_power x3 (σ.2 13 0)) σ)), (10, .long (g_power x3 (σ.2 13 0))), (0, .ref (α 0)), (1, .int (nI e1)), (2, .long x2), (4, .long x3), (6, .long x4), (8, .long x5)]) hx hb d_M_replyTaken_89 hl (by decide) rfl (fun ls hl => ?_)
          refine lv_lload_n hx hb d_M_replyTaken_91 rfl (lv_at hl 4 rfl) ?_
          refine lv_lload hx hb d_M_replyTaken_92 (lv_at hl 6 rfl) ?_
          refine lv_lload hx hb d_M_replyTaken_94 (lv_at hl 7 rfl) ?_
          refine lv_lload hx hb d_M_replyTaken_96 (lv_at hl 0 rfl) ?_
          refine vp_callSi (W.runS (As := [.long x2, .long x4, .long x5, .long (q_hash 0 x2 x3 (g_power x3 (σ.2 13 0)) σ)]) (rest := []) ⟨hx, hb, hml, hown, hts⟩ (c_M_verifies l x2 x4 x5 (q_hash 0 x2 x3 (g_power x3 (σ.2 13 0)) σ)) (cwS 4 hts (xa_S xw1169 xw1170 xw11 xw1171) rfl rfl rfl (by decide +kernel) ⟨Nat.le_of_ble_eq_true rfl, Nat.le_of_ble_eq_true rfl⟩) preEq rfl rfl hl.1 rfl (lv_room (Nat.le_of_ble_eq_true rfl)) d_M_replyTaken_98 ⟨Nat.le_of_ble_eq_true rfl, Nat.le_of_ble_eq_true rfl⟩) (fun r_ e_ => ?_)
          subst e_
          refine lv_if_ne (tgt := 113) hx hb d_M_replyTaken_101 (by decide) (fun c5 => ?_) (fun c5 => ?_)
          · skip
            refine lv_aload_n hx hb d_M_replyTaken_113 rfl (lv_at hl 2 rfl) ?_
            refine lv_iconst (v := 0) hx hb d_M_replyTaken_114 (by decide) ?_
            refine lv_lload hx hb d_M_replyTaken_115 (lv_at hl 1 rfl) ?_
            refine lv_lload hx hb d_M_replyTaken_117 (lv_at hl 0 rfl) ?_
            refine sm_cv (va_runV (As := [.int (0 : Int32), .long (g_power x3 (σ.2 13 0)), .long (q_hash 0 x2 x3 (g_power x3 (σ.2 13 0)) σ)]) (rest := []) ⟨hx, hb, hml, hown, hts⟩ (c_M_agree l D α κ hα σ (0 : Int32) 0 (xb_lit (x := (0 : Int32)) 0 rfl) (by omega) (g_power x3 (σ.2 13 0)) (q_hash 0 x2 x3 (g_power x3 (σ.2 13 0)) σ)) (cwV 3 hts (xa_V xw1152 xw1154 xs14 xw11 xw1155) rfl rfl rfl (by decide +kernel) ⟨Nat.le_of_ble_eq_true rfl, Nat.le_of_ble_eq_true rfl⟩) ⟨sm_blind, va_recv (q0 := 0) (ci := 9) hK hP rfl rfl, sm_pre hP hK hN _⟩ rfl rfl hl.1 rfl (lv_room (Nat.le_of_ble_eq_true rfl)) d_M_replyTaken_119 ⟨Nat.le_of_ble_eq_true rfl, Nat.le_of_ble_eq_true rfl⟩) hS (fun _ h_ => h_) (fun H locs hP hS => ?_)
            obtain ⟨τ2, hτ2⟩ : ∃ t_, t_ = (q_agree 0 (g_power x3 (σ.2 13 0)) (q_hash 0 x2 x3 (g_power x3 (σ.2 13 0)) σ) σ) := ⟨_, rfl⟩
            rw [← hτ2] at hP
            have okτ2 : sm_ok τ2 := by rw [hτ2]; exact (ok_q_agree 0 (g_power x3 (σ.2 13 0)) (q_hash 0 x2 x3 (g_power x3 (σ.2 13 0)) σ) (by omega) ok)
            refine lv_aload_n hx hb d_M_replyTaken_122 rfl (lv_at hl 2 rfl) ?_
            refine lv_iconst (v := 0) hx hb d_M_replyTaken_123 (by decide) ?_
            refine sm_cv (va_runV (As := [.int (0 : Int32)]) (rest := []) ⟨hx, hb, hml, hown, hts⟩ (c_M_turn l D α κ hα τ2 (0 : Int32) 0 (xb_lit (x := (0 : Int32)) 0 rfl) (by omega) okτ2) (cwV 1 hts (xa_V xw1156 xw1158 xs15 xw11 xw1159) rfl rfl rfl (by decide +kernel) ⟨Nat.le_of_ble_eq_true rfl, Nat.le_of_ble_eq_true rfl⟩) ⟨sm_blind, va_recv (q0 := 0) (ci := 9) hK hP rfl rfl, sm_pre hP hK hN _⟩ rfl rfl hl.1 rfl (lv_room (Nat.le_of_ble_eq_true rfl)) d_M_replyTaken_124 ⟨Nat.le_of_ble_eq_true rfl, Nat.le_of_ble_eq_true rfl⟩) hS (fun _ h_ => h_) (fun H locs hP hS => ?_)
            obtain ⟨τ3, hτ3⟩ : ∃ t_, t_ = (q_turn 0 τ2) := ⟨_, rfl⟩
            rw [← hτ3] at hP
            have okτ3 : sm_ok τ3 := by rw [hτ3]; exact (ok_q_turn 0 (by omega) okτ2)
            exact W.vret hx hb hr (fun t ht_ hW => ⟨⟨τ3, rfl, (by subst hτ3; subst hτ2; exact ((if_pos c1).trans ((if_pos c2).trans ((if_neg c3).trans ((if_pos c4).trans ((if_neg c5)))))).symm), by rw [sm_B, ht_]; exact hP⟩, hS.F ht_⟩) hS.2.2 d_M_replyTaken_127
          · skip
            refine lv_aload_n hx hb d_M_replyTaken_104 rfl (lv_at hl 2 rfl) ?_
            refine lv_iload_n hx hb d_M_replyTaken_105 rfl (lv_at hl 3 rfl) ?_
            refine lv_ldc2 hx hb hown (ht _ xw1175) d_M_replyTaken_106 ?_
            refine sm_cv (va_runV (As := [.int (nI e1), .long (4 : Int64)]) (rest := []) ⟨hx, hb, hml, hown, hts⟩ (c_M_fail l D α κ hα σ (nI e1) e1 (xb_lit e1 rfl) (by omega) (4 : Int64) ok) (cwV 2 hts (xa_V xw1112 xw1114 xs9 xw11 xw1115) rfl rfl rfl (by decide +kernel) ⟨Nat.le_of_ble_eq_true rfl, Nat.le_of_ble_eq_true rfl⟩) ⟨sm_blind, va_recv (q0 := 0) (ci := 9) hK hP rfl rfl, sm_pre hP hK hN _⟩ rfl rfl hl.1 rfl (lv_room (Nat.le_of_ble_eq_true rfl)) d_M_replyTaken_109 ⟨Nat.le_of_ble_eq_true rfl, Nat.le_of_ble_eq_true rfl⟩) hS (fun _ h_ => h_) (fun H locs hP hS => ?_)
            obtain ⟨τ4, hτ4⟩ : ∃ t_, t_ = (q_fail e1 (4 : Int64) σ) := ⟨_, rfl⟩
            rw [← hτ4] at hP
            have okτ4 : sm_ok τ4 := by rw [hτ4]; exact (ok_q_fail e1 (4 : Int64) (by omega) ok)
            exact W.vret hx hb hr (fun t ht_ hW => ⟨⟨τ4, rfl, (by subst hτ4; exact ((if_pos c1).trans ((if_pos c2).trans ((if_neg c3).trans ((if_pos c4).trans ((if_pos c5)))))).symm), by rw [sm_B, ht_]; exact hP⟩, hS.F ht_⟩) hS.2.2 d_M_replyTaken_112
        · skip
          refine lv_lload_n hx hb d_M_replyTaken_47 rfl (lv_at hl 2 rfl) ?_
          refine lv_aload_n hx hb d_M_replyTaken_48 rfl (lv_at hl 0 rfl) ?_
          refine sm_g (v := .int (σ.1 0 5)) hx hb ht hown hK hP 5 (by decide) (ht _ xw957) (fun _ h_ => h_) rfl d_M_replyTaken_49 ?_
          refine lv_i2l (v := (σ.1 0 5).toInt64) hx hb d_M_replyTaken_52 (by rfl) ?_
          refine xb_leq (tgt := 66) hx hb d_M_replyTaken_53 d_M_replyTaken_54 (by decide) (fun c6 => ?_) (fun c6 => ?_)
          · skip
            refine lv_lload hx hb d_M_replyTaken_66 (lv_at hl 3 rfl) ?_
            refine lv_aload_n hx hb d_M_replyTaken_68 rfl (lv_at hl 0 rfl) ?_
            refine sm_g (v := .ref (α 13)) hx hb ht hown hK hP 15 (by decide) (ht _ xw967) (fun _ h_ => h_) rfl d_M_replyTaken_69 ?_
            refine lv_iconst (v := 0) hx hb d_M_replyTaken_72 (by decide) ?_
            refine sm_gaJ (L := 2) (n := 0) (v := (σ.2 13 0)) hx hb hK hP 13 12 rfl rfl (xb_in (xb_lit (x := (0 : Int32)) 0 rfl) (by omega) (by decide)) (xb_cl (xb_lit (x := (0 : Int32)) 0 rfl) (by omega)) rfl d_M_replyTaken_73 ?_
            refine vp_callSl (W.runS (As := [.long x3, .long (σ.2 13 0)]) (rest := []) ⟨hx, hb, hml, hown, hts⟩ (c_M_power l x3 (σ.2 13 0)) (cwS 2 hts (xa_S xw1134 xw1135 xw11 xw1136) rfl rfl rfl (by decide +kernel) ⟨Nat.le_of_ble_eq_true rfl, Nat.le_of_ble_eq_true rfl⟩) preEq rfl rfl hl.1 rfl (lv_room (Nat.le_of_ble_eq_true rfl)) d_M_replyTaken_74 ⟨Nat.le_of_ble_eq_true rfl, Nat.le_of_ble_eq_true rfl⟩) (fun r_ e_ => ?_)
            subst e_
            refine lv_lstore (lv' := [(10, .long (g_power x3 (σ.2 13 0))), (0, .ref (α 0)), (1, .int (nI e1)), (2, .long x2), (4, .long x3), (6, .long x4), (8, .long x5)]) hx hb d_M_replyTaken_77 hl (by decide) rfl (fun ls hl => ?_)
            refine lv_aload_n hx hb d_M_replyTaken_79 rfl (lv_at hl 1 rfl) ?_
            refine lv_iconst (v := 0) hx hb d_M_replyTaken_80 (by decide) ?_
            refine lv_lload_n hx hb d_M_replyTaken_81 rfl (lv_at hl 3 rfl) ?_
            refine lv_lload hx hb d_M_replyTaken_82 (lv_at hl 4 rfl) ?_
            refine lv_lload hx hb d_M_replyTaken_84 (lv_at hl 0 rfl) ?_
            refine sm_cl (va_runV (As := [.int (0 : Int32), .long x2, .long x3, .long (g_power x3 (σ.2 13 0))]) (rest := []) ⟨hx, hb, hml, hown, hts⟩ (c_M_hashOf l D α κ hα σ (0 : Int32) 0 (xb_lit (x := (0 : Int32)) 0 rfl) (by omega) x2 x3 (g_power x3 (σ.2 13 0))) (cwV 4 hts (xa_V xw1146 xw1148 xs13 xw11 xw1149) rfl rfl rfl (by decide +kernel) ⟨Nat.le_of_ble_eq_true rfl, Nat.le_of_ble_eq_true rfl⟩) ⟨sm_blind, va_recv (q0 := 0) (ci := 9) hK hP rfl rfl, sm_pre hP hK hN _⟩ rfl rfl hl.1 rfl (lv_room (Nat.le_of_ble_eq_true rfl)) d_M_replyTaken_86 ⟨Nat.le_of_ble_eq_true rfl, Nat.le_of_ble_eq_true rfl⟩) hS (fun _ h_ => h_) (fun H locs hP hS => ?_)
            refine lv_lstore (lv' := [(12, .long (q_hash 0 x2 x3 (g_power x3 (σ.2 13 0)) σ)), (10, .long (g_power x3 (σ.2 13 0))), (0, .ref (α 0)), (1, .int (nI e1)), (2, .long x2), (4, .long x3), (6, .long x4), (8, .long x5)]) hx hb d_M_replyTaken_89 hl (by decide) rfl (fun ls hl => ?_)
            refine lv_lload_n hx hb d_M_replyTaken_91 rfl (lv_at hl 4 rfl) ?_
            refine lv_lload hx hb d_M_replyTaken_92 (lv_at hl 6 rfl) ?_
            refine lv_lload hx hb d_M_replyTaken_94 (lv_at hl 7 rfl) ?_
            refine lv_lload hx hb d_M_replyTaken_96 (lv_at hl 0 rfl) ?_
            refine vp_callSi (W.runS (As := [.long x2, .long x4, .long x5, .long (q_hash 0 x2 x3 (g_power x3 (σ.2 13 0)) σ)]) (rest := []) ⟨hx, hb, hml, hown, hts⟩ (c_M_verifies l x2 x4 x5 (q_hash 0 x2 x3 (g_power x3 (σ.2 13 0)) σ)) (cwS 4 hts (xa_S xw1169 xw1170 xw11 xw1171) rfl rfl rfl (by decide +kernel) ⟨Nat.le_of_ble_eq_true rfl, Nat.le_of_ble_eq_true rfl⟩) preEq rfl rfl hl.1 rfl (lv_room (Nat.le_of_ble_eq_true rfl)) d_M_replyTaken_98 ⟨Nat.le_of_ble_eq_true rfl, Nat.le_of_ble_eq_true rfl⟩) (fun r_ e_ => ?_)
            subst e_
            refine lv_if_ne (tgt := 113) hx hb d_M_replyTaken_101 (by decide) (fun c7 => ?_) (fun c7 => ?_)
            · skip
              refine lv_aload_n hx hb d_M_replyTaken_113 rfl (lv_at hl 2 rfl) ?_
              refine lv_iconst (v := 0) hx hb d_M_replyTaken_114 (by decide) ?_
              refine lv_lload hx hb d_M_replyTaken_115 (lv_at hl 1 rfl) ?_
              refine lv_lload hx hb d_M_replyTaken_117 (lv_at hl 0 rfl) ?_
              refine sm_cv (va_runV (As := [.int (0 : Int32), .long (g_power x3 (σ.2 13 0)), .long (q_hash 0 x2 x3 (g_power x3 (σ.2 13 0)) σ)]) (rest := []) ⟨hx, hb, hml, hown, hts⟩ (c_M_agree l D α κ hα σ (0 : Int32) 0 (xb_lit (x := (0 : Int32)) 0 rfl) (by omega) (g_power x3 (σ.2 13 0)) (q_hash 0 x2 x3 (g_power x3 (σ.2 13 0)) σ)) (cwV 3 hts (xa_V xw1152 xw1154 xs14 xw11 xw1155) rfl rfl rfl (by decide +kernel) ⟨Nat.le_of_ble_eq_true rfl, Nat.le_of_ble_eq_true rfl⟩) ⟨sm_blind, va_recv (q0 := 0) (ci := 9) hK hP rfl rfl, sm_pre hP hK hN _⟩ rfl rfl hl.1 rfl (lv_room (Nat.le_of_ble_eq_true rfl)) d_M_replyTaken_119 ⟨Nat.le_of_ble_eq_true rfl, Nat.le_of_ble_eq_true rfl⟩) hS (fun _ h_ => h_) (fun H locs hP hS => ?_)
              obtain ⟨τ5, hτ5⟩ : ∃ t_, t_ = (q_agree 0 (g_power x3 (σ.2 13 0)) (q_hash 0 x2 x3 (g_power x3 (σ.2 13 0)) σ) σ) := ⟨_, rfl⟩
              rw [← hτ5] at hP
              have okτ5 : sm_ok τ5 := by rw [hτ5]; exact (ok_q_agree 0 (g_power x3 (σ.2 13 0)) (q_hash 0 x2 x3 (g_power x3 (σ.2 13 0)) σ) (by omega) ok)
              refine lv_aload_n hx hb d_M_replyTaken_122 rfl (lv_at hl 2 rfl) ?_
              refine lv_iconst (v := 0) hx hb d_M_replyTaken_123 (by decide) ?_
              refine sm_cv (va_runV (As := [.int (0 : Int32)]) (rest := []) ⟨hx, hb, hml, hown, hts⟩ (c_M_turn l D α κ hα τ5 (0 : Int32) 0 (xb_lit (x := (0 : Int32)) 0 rfl) (by omega) okτ5) (cwV 1 hts (xa_V xw1156 xw1158 xs15 xw11 xw1159) rfl rfl rfl (by decide +kernel) ⟨Nat.le_of_ble_eq_true rfl, Nat.le_of_ble_eq_true rfl⟩) ⟨sm_blind, va_recv (q0 := 0) (ci := 9) hK hP rfl rfl, sm_pre hP hK hN _⟩ rfl rfl hl.1 rfl (lv_room (Nat.le_of_ble_eq_true rfl)) d_M_replyTaken_124 ⟨Nat.le_of_ble_eq_true rfl, Nat.le_of_ble_eq_true rfl⟩) hS (fun _ h_ => h_) (fun H locs hP hS => ?_)
              obtain ⟨τ6, hτ6⟩ : ∃ t_, t_ = (q_turn 0 τ5) := ⟨_, rfl⟩
              rw [← hτ6] at hP
              have okτ6 : sm_ok τ6 := by rw [hτ6]; exact (ok_q_turn 0 (by omega) okτ5)
              exact W.vret hx hb hr (fun t ht_ hW => ⟨⟨τ6, rfl, (by subst hτ6; subst hτ5; exact ((if_pos c1).trans ((if_pos c2).trans ((if_neg c3).trans ((if_neg c4).trans ((if_pos c6).trans ((if_neg c7))))))).symm), by rw [sm_B, ht_]; exact hP⟩, hS.F ht_⟩) hS.2.2 d_M_replyTaken_127
            · skip
              refine lv_aload_n hx hb d_M_replyTaken_104 rfl (lv_at hl 2 rfl) ?_
              refine lv_iload_n hx hb d_M_replyTaken_105 rfl (lv_at hl 3 rfl) ?_
              refine lv_ldc2 hx hb hown (ht _ xw1175) d_M_replyTaken_106 ?_
              refine sm_cv (va_runV (As := [.int (nI e1), .long (4 : Int64)]) (rest := []) ⟨hx, hb, hml, hown, hts⟩ (c_M_fail l D α κ hα σ (nI e1) e1 (xb_lit e1 rfl) (by omega) (4 : Int64) ok) (cwV 2 hts (xa_V xw1112 xw1114 xs9 xw11 xw1115) rfl rfl rfl (by decide +kernel) ⟨Nat.le_of_ble_eq_true rfl, Nat.le_of_ble_eq_true rfl⟩) ⟨sm_blind, va_recv (q0 := 0) (ci := 9) hK hP rfl rfl, sm_pre hP hK hN _⟩ rfl rfl hl.1 rfl (lv_room (Nat.le_of_ble_eq_true rfl)) d_M_replyTaken_109 ⟨Nat.le_of_ble_eq_true rfl, Nat.le_of_ble_eq_true rfl⟩) hS (fun _ h_ => h_) (fun H locs hP hS => ?_)
              obtain ⟨τ7, hτ7⟩ : ∃ t_, t_ = (q_fail e1 (4 : Int64) σ) := ⟨_, rfl⟩
              rw [← hτ7] at hP
              have okτ7 : sm_ok τ7 := by rw [hτ7]; exact (ok_q_fail e1 (4 : Int64) (by omega) ok)
              exact W.vret hx hb hr (fun t ht_ hW => ⟨⟨τ7, rfl, (by subst hτ7; exact ((if_pos c1).trans ((if_pos c2).trans ((if_neg c3).trans ((if_neg c4).trans ((if_pos c6).trans ((if_pos c7))))))).symm), by rw [sm_B, ht_]; exact hP⟩, hS.F ht_⟩) hS.2.2 d_M_replyTaken_112
          · skip
            refine lv_aload_n hx hb d_M_replyTaken_57 rfl (lv_at hl 0 rfl) ?_
            refine lv_iload_n hx hb d_M_replyTaken_58 rfl (lv_at hl 1 rfl) ?_
            refine lv_ldc2 hx hb hown (ht _ xw1168) d_M_replyTaken_59 ?_
            refine sm_cv (va_runV (As := [.int (nI e1), .long (9 : Int64)]) (rest := []) ⟨hx, hb, hml, hown, hts⟩ (c_M_fail l D α κ hα σ (nI e1) e1 (xb_lit e1 rfl) (by omega) (9 : Int64) ok) (cwV 2 hts (xa_V xw1112 xw1114 xs9 xw11 xw1115) rfl rfl rfl (by decide +kernel) ⟨Nat.le_of_ble_eq_true rfl, Nat.le_of_ble_eq_true rfl⟩) ⟨sm_blind, va_recv (q0 := 0) (ci := 9) hK hP rfl rfl, sm_pre hP hK hN _⟩ rfl rfl hl.1 rfl (lv_room (Nat.le_of_ble_eq_true rfl)) d_M_replyTaken_62 ⟨Nat.le_of_ble_eq_true rfl, Nat.le_of_ble_eq_true rfl⟩) hS (fun _ h_ => h_) (fun H locs hP hS => ?_)
            obtain ⟨τ8, hτ8⟩ : ∃ t_, t_ = (q_fail e1 (9 : Int64) σ) := ⟨_, rfl⟩
            rw [← hτ8] at hP
            have okτ8 : sm_ok τ8 := by rw [hτ8]; exact (ok_q_fail e1 (9 : Int64) (by omega) ok)
            exact W.vret hx hb hr (fun t ht_ hW => ⟨⟨τ8, rfl, (by subst hτ8; exact ((if_pos c1).trans ((if_pos c2).trans ((if_neg c3).trans ((if_neg c4).trans ((if_neg c6)))))).symm), by rw [sm_B, ht_]; exact hP⟩, hS.F ht_⟩) hS.2.2 d_M_replyTaken_65
      · skip
        refine lv_aload_n hx hb d_M_replyTaken_31 rfl (lv_at hl 0 rfl) ?_
        refine lv_iload_n hx hb d_M_replyTaken_32 rfl (lv_at hl 1 rfl) ?_
        refine lv_ldc2 hx hb hown (ht _ xw1132) d_M_replyTaken_33 ?_
        refine sm_cv (va_runV (As := [.int (nI e1), .long (3 : Int64)]) (rest := []) ⟨hx, hb, hml, hown, hts⟩ (c_M_fail l D α κ hα σ (nI e1) e1 (xb_lit e1 rfl) (by omega) (3 : Int64) ok) (cwV 2 hts (xa_V xw1112 xw1114 xs9 xw11 xw1115) rfl rfl rfl (by decide +kernel) ⟨Nat.le_of_ble_eq_true rfl, Nat.le_of_ble_eq_true rfl⟩) ⟨sm_blind, va_recv (q0 := 0) (ci := 9) hK hP rfl rfl, sm_pre hP hK hN _⟩ rfl rfl hl.1 rfl (lv_room (Nat.le_of_ble_eq_true rfl)) d_M_replyTaken_36 ⟨Nat.le_of_ble_eq_true rfl, Nat.le_of_ble_eq_true rfl⟩) hS (fun _ h_ => h_) (fun H locs hP hS => ?_)
        obtain ⟨τ9, hτ9⟩ : ∃ t_, t_ = (q_fail e1 (3 : Int64) σ) := ⟨_, rfl⟩
        rw [← hτ9] at hP
        have okτ9 : sm_ok τ9 := by rw [hτ9]; exact (ok_q_fail e1 (3 : Int64) (by omega) ok)
        exact W.vret hx hb hr (fun t ht_ hW => ⟨⟨τ9, rfl, (by subst hτ9; exact ((if_pos c1).trans ((if_pos c2).trans ((if_pos c3)))).symm), by rw [sm_B, ht_]; exact hP⟩, hS.F ht_⟩) hS.2.2 d_M_replyTaken_39
    · skip
      refine lv_aload_n hx hb d_M_replyTaken_14 rfl (lv_at hl 0 rfl) ?_
      refine lv_iload_n hx hb d_M_replyTaken_15 rfl (lv_at hl 1 rfl) ?_
      refine lv_ldc2 hx hb hown (ht _ xw1120) d_M_replyTaken_16 ?_
      refine sm_cv (va_runV (As := [.int (nI e1), .long (2 : Int64)]) (rest := []) ⟨hx, hb, hml, hown, hts⟩ (c_M_fail l D α κ hα σ (nI e1) e1 (xb_lit e1 rfl) (by omega) (2 : Int64) ok) (cwV 2 hts (xa_V xw1112 xw1114 xs9 xw11 xw1115) rfl rfl rfl (by decide +kernel) ⟨Nat.le_of_ble_eq_true rfl, Nat.le_of_ble_eq_true rfl⟩) ⟨sm_blind, va_recv (q0 := 0) (ci := 9) hK hP rfl rfl, sm_pre hP hK hN _⟩ rfl rfl hl.1 rfl (lv_room (Nat.le_of_ble_eq_true rfl)) d_M_replyTaken_19 ⟨Nat.le_of_ble_eq_true rfl, Nat.le_of_ble_eq_true rfl⟩) hS (fun _ h_ => h_) (fun H locs hP hS => ?_)
      obtain ⟨τ10, hτ10⟩ : ∃ t_, t_ = (q_fail e1 (2 : Int64) σ) := ⟨_, rfl⟩
      rw [← hτ10] at hP
      have okτ10 : sm_ok τ10 := by rw [hτ10]; exact (ok_q_fail e1 (2 : Int64) (by omega) ok)
      exact W.vret hx hb hr (fun t ht_ hW => ⟨⟨τ10, rfl, (by subst hτ10; exact ((if_pos c1).trans ((if_neg c2))).symm), by rw [sm_B, ht_]; exact hP⟩, hS.F ht_⟩) hS.2.2 d_M_replyTaken_22
theorem ok_q_reply {σ : xb_St} (e1 : Nat) (x2 : Int64) (x3 : Int64) (x4 : Int64) (x5 : Int64) (b_e1 : e1 < 2) (ok : sm_ok σ) : sm_ok (q_reply e1 x2 x3 x4 x5 σ) := by
  unfold q_reply
  by_cases c1 : (nI e1) = 0
  · rw [if_pos c1]
    by_cases c2 : (σ.1 4 e1) = (2 : Int32)
    · rw [if_pos c2]
      by_cases c3 : (g_isShare x3) = 0
      · rw [if_pos c3]
        exact (ok_q_fail e1 (3 : Int64) (by omega) ok)
      · rw [if_neg c3]
        by_cases c4 : (σ.1 0 5) = 0
        · rw [if_pos c4]
          by_cases c5 : (g_verifies x2 x4 x5 (q_hash 0 x2 x3 (g_power x3 (σ.2 13 0)) σ)) = 0
          · rw [if_pos c5]
            exact (ok_q_fail e1 (4 : Int64) (by omega) ok)
          · rw [if_neg c5]
            exact (ok_q_turn 0 (by omega) (ok_q_agree 0 (g_power x3 (σ.2 13 0)) (q_hash 0 x2 x3 (g_power x3 (σ.2 13 0)) σ) (by omega) ok))
        · rw [if_neg c4]
          by_cases c6 : x2 = (σ.1 0 5).toInt64
          · rw [if_pos c6]
            by_cases c7 : (g_verifies x2 x4 x5 (q_hash 0 x2 x3 (g_power x3 (σ.2 13 0)) σ)) = 0
            · rw [if_pos c7]
              exact (ok_q_fail e1 (4 : Int64) (by omega) ok)
            · rw [if_neg c7]
              exact (ok_q_turn 0 (by omega) (ok_q_agree 0 (g_power x3 (σ.2 13 0)) (q_hash 0 x2 x3 (g_power x3 (σ.2 13 0)) σ) (by omega) ok))
          · rw [if_neg c6]
            exact (ok_q_fail e1 (9 : Int64) (by omega) ok)
    · rw [if_neg c2]
      exact (ok_q_fail e1 (2 : Int64) (by omega) ok)
  · rw [if_neg c1]
    exact (ok_q_fail e1 (2 : Int64) (by omega) ok)
