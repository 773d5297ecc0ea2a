abbrev b_M_deliver : ByteArray := prog_12_method_27_code
def y_M_deliver : MethodName := ⟨"SecurePairModel", "deliver", "(I)I"⟩
abbrev w_M_deliver : List Cond := .code y_M_deliver b_M_deliver 13 (some .int) :: xa
theorem d_M_deliver_0 : decode b_M_deliver 0 = .ok (.iload_n 1, 1) := by decide +kernel
theorem d_M_deliver_1 : decode b_M_deliver 1 = .ok (.invokestatic 169, 3) := by decide +kernel
theorem d_M_deliver_4 : decode b_M_deliver 4 = .ok (.ifCond .ne 9, 3) := by decide +kernel
theorem d_M_deliver_7 : decode b_M_deliver 7 = .ok (.aload_n 0, 1) := by decide +kernel
theorem d_M_deliver_8 : decode b_M_deliver 8 = .ok (.iconst 1, 1) := by decide +kernel
theorem d_M_deliver_9 : decode b_M_deliver 9 = .ok (.invokevirtual 173, 3) := by decide +kernel
theorem d_M_deliver_12 : decode b_M_deliver 12 = .ok (.ireturn, 1) := by decide +kernel
theorem d_M_deliver_13 : decode b_M_deliver 13 = .ok (.aload_n 0, 1) := by decide +kernel
theorem d_M_deliver_14 : decode b_M_deliver 14 = .ok (.iconst 0, 1) := by decide +kernel
theorem d_M_deliver_15 : decode b_M_deliver 15 = .ok (.putfield 120, 3) := by decide +kernel
theorem d_M_deliver_18 : decode b_M_deliver 18 = .ok (.aload_n 0, 1) := by decide +kernel
theorem d_M_deliver_19 : decode b_M_deliver 19 = .ok (.getfield 87, 3) := by decide +kernel
theorem d_M_deliver_22 : decode b_M_deliver 22 = .ok (.iload_n 1, 1) := by decide +kernel
theorem d_M_deliver_23 : decode b_M_deliver 23 = .ok (.iaload, 1) := by decide +kernel
theorem d_M_deliver_24 : decode b_M_deliver 24 = .ok (.ifCond .ne 5, 3) := by decide +kernel
theorem d_M_deliver_27 : decode b_M_deliver 27 = .ok (.iconst 0, 1) := by decide +kernel
theorem d_M_deliver_28 : decode b_M_deliver 28 = .ok (.ireturn, 1) := by decide +kernel
theorem d_M_deliver_29 : decode b_M_deliver 29 = .ok (.aload_n 0, 1) := by decide +kernel
theorem d_M_deliver_30 : decode b_M_deliver 30 = .ok (.bipush 16, 2) := by decide +kernel
theorem d_M_deliver_32 : decode b_M_deliver 32 = .ok (.iload_n 1, 1) := by decide +kernel
theorem d_M_deliver_33 : decode b_M_deliver 33 = .ok (.imul, 1) := by decide +kernel
theorem d_M_deliver_34 : decode b_M_deliver 34 = .ok (.bipush 33, 2) := by decide +kernel
theorem d_M_deliver_36 : decode b_M_deliver 36 = .ok (.invokevirtual 161, 3) := by decide +kernel
theorem d_M_deliver_39 : decode b_M_deliver 39 = .ok (.aload_n 0, 1) := by decide +kernel
theorem d_M_deliver_40 : decode b_M_deliver 40 = .ok (.iload_n 1, 1) := by decide +kernel
theorem d_M_deliver_41 : decode b_M_deliver 41 = .ok (.invokevirtual 224, 3) := by decide +kernel
theorem d_M_deliver_44 : decode b_M_deliver 44 = .ok (.aload_n 0, 1) := by decide +kernel
theorem d_M_deliver_45 : decode b_M_deliver 45 = .ok (.getfield 90, 3) := by decide +kernel
theorem d_M_deliver_48 : decode b_M_deliver 48 = .ok (.bipush 33, 2) := by decide +kernel
theorem d_M_deliver_50 : decode b_M_deliver 50 = .ok (.iaload, 1) := by decide +kernel
theorem d_M_deliver_51 : decode b_M_deliver 51 = .ok (.istore_n 2, 1) := by decide +kernel
theorem d_M_deliver_52 : decode b_M_deliver 52 = .ok (.aload_n 0, 1) := by decide +kernel
theorem d_M_deliver_53 : decode b_M_deliver 53 = .ok (.getfield 25, 3) := by decide +kernel
theorem d_M_deliver_56 : decode b_M_deliver 56 = .ok (.iload_n 1, 1) := by decide +kernel
theorem d_M_deliver_57 : decode b_M_deliver 57 = .ok (.iaload, 1) := by decide +kernel
theorem d_M_deliver_58 : decode b_M_deliver 58 = .ok (.iconst 5, 1) := by decide +kernel
theorem d_M_deliver_59 : decode b_M_deliver 59 = .ok (.if_icmp .ne 5, 3) := by decide +kernel
theorem d_M_deliver_62 : decode b_M_deliver 62 = .ok (.iconst (-1), 1) := by decide +kernel
theorem d_M_deliver_63 : decode b_M_deliver 63 = .ok (.ireturn, 1) := by decide +kernel
theorem d_M_deliver_64 : decode b_M_deliver 64 = .ok (.aload_n 0, 1) := by decide +kernel
theorem d_M_deliver_65 : decode b_M_deliver 65 = .ok (.getfield 38, 3) := by decide +kernel
theorem d_M_deliver_68 : decode b_M_deliver 68 = .ok (.iload_n 1, 1) := by decide +kernel
theorem d_M_deliver_69 : decode b_M_deliver 69 = .ok (.iaload, 1) := by decide +kernel
theorem d_M_deliver_70 : decode b_M_deliver 70 = .ok (.istore_n 3, 1) := by decide +kernel
theorem d_M_deliver_71 : decode b_M_deliver 71 = .ok (.aload_n 0, 1) := by decide +kernel
theorem d_M_deliver_72 : decode b_M_deliver 72 = .ok (.getfield 38, 3) := by decide +kernel
theorem d_M_deliver_75 : decode b_M_deliver 75 = .ok (.iload_n 1, 1) := by decide +kernel
theorem d_M_deliver_76 : decode b_M_deliver 76 = .ok (.dup2, 1) := by decide +kernel
theorem d_M_deliver_77 : decode b_M_deliver 77 = .ok (.iaload, 1) := by decide +kernel
theorem d_M_deliver_78 : decode b_M_deliver 78 = .ok (.iconst 1, 1) := by decide +kernel
theorem d_M_deliver_79 : decode b_M_deliver 79 = .ok (.iadd, 1) := by decide +kernel
theorem d_M_deliver_80 : decode b_M_deliver 80 = .ok (.iastore, 1) := by decide +kernel
theorem d_M_deliver_81 : decode b_M_deliver 81 = .ok (.iconst 2, 1) := by decide +kernel
theorem d_M_deliver_82 : decode b_M_deliver 82 = .ok (.iload_n 1, 1) := by decide +kernel
theorem d_M_deliver_83 : decode b_M_deliver 83 = .ok (.imul, 1) := by decide +kernel
theorem d_M_deliver_84 : decode b_M_deliver 84 = .ok (.iconst 1, 1) := by decide +kernel
theorem d_M_deliver_85 : decode b_M_deliver 85 = .ok (.iadd, 1) := by decide +kernel
theorem d_M_deliver_86 : decode b_M_deliver 86 = .ok (.istore 4, 2) := by decide +kernel
theorem d_M_deliver_88 : decode b_M_deliver 88 = .ok (.iconst 0, 1) := by decide +kernel
theorem d_M_deliver_89 : decode b_M_deliver 89 = .ok (.istore 5, 2) := by decide +kernel
theorem d_M_deliver_91 : decode b_M_deliver 91 = .ok (.iload 5, 2) := by decide +kernel
theorem d_M_deliver_93 : decode b_M_deliver 93 = .ok (.iconst 4, 1) := by decide +kernel
theorem d_M_deliver_94 : decode b_M_deliver 94 = .ok (.if_icmp .ge 55, 3) := by decide +kernel
theorem d_M_deliver_97 : decode b_M_deliver 97 = .ok (.aload_n 0, 1) := by decide +kernel
theorem d_M_deliver_98 : decode b_M_deliver 98 = .ok (.getfield 66, 3) := by decide +kernel
theorem d_M_deliver_101 : decode b_M_deliver 101 = .ok (.iload 4, 2) := by decide +kernel
theorem d_M_deliver_103 : decode b_M_deliver 103 = .ok (.baload, 1) := by decide +kernel
theorem d_M_deliver_104 : decode b_M_deliver 104 = .ok (.ifCond .eq 45, 3) := by decide +kernel
theorem d_M_deliver_107 : decode b_M_deliver 107 = .ok (.aload_n 0, 1) := by decide +kernel
theorem d_M_deliver_108 : decode b_M_deliver 108 = .ok (.getfield 93, 3) := by decide +kernel
theorem d_M_deliver_111 : decode b_M_deliver 111 = .ok (.sipush 132, 3) := by decide +kernel
theorem d_M_deliver_114 : decode b_M_deliver 114 = .ok (.iload 5, 2) := by decide +kernel
theorem d_M_deliver_116 : decode b_M_deliver 116 = .ok (.iadd, 1) := by decide +kernel
theorem d_M_deliver_117 : decode b_M_deliver 117 = .ok (.dup2, 1) := by decide +kernel
theorem d_M_deliver_118 : decode b_M_deliver 118 = .ok (.laload, 1) := by decide +kernel
theorem d_M_deliver_119 : decode b_M_deliver 119 = .ok (.aload_n 0, 1) := by decide +kernel
theorem d_M_deliver_120 : decode b_M_deliver 120 = .ok (.getfield 69, 3) := by decide +kernel
theorem d_M_deliver_123 : decode b_M_deliver 123 = .ok (.iload 4, 2) := by decide +kernel
theorem d_M_deliver_125 : decode b_M_deliver 125 = .ok (.laload, 1) := by decide +kernel
theorem d_M_deliver_126 : decode b_M_deliver 126 = .ok (.aload_n 0, 1) := by decide +kernel
theorem d_M_deliver_127 : decode b_M_deliver 127 = .ok (.getfield 75, 3) := by decide +kernel
theorem d_M_deliver_130 : decode b_M_deliver 130 = .ok (.iload 4, 2) := by decide +kernel
theorem d_M_deliver_132 : decode b_M_deliver 132 = .ok (.iaload, 1) := by decide +kernel
theorem d_M_deliver_133 : decode b_M_deliver 133 = .ok (.iload_n 3, 1) := by decide +kernel
theorem d_M_deliver_134 : decode b_M_deliver 134 = .ok (.iload 5, 2) := by decide +kernel
theorem d_M_deliver_136 : decode b_M_deliver 136 = .ok (.iconst 1, 1) := by decide +kernel
theorem d_M_deliver_137 : decode b_M_deliver 137 = .ok (.iadd, 1) := by decide +kernel
theorem d_M_deliver_138 : decode b_M_deliver 138 = .ok (.invokestatic 157, 3) := by decide +kernel
theorem d_M_deliver_141 : decode b_M_deliver 141 = .ok (.lxor, 1) := by decide +kernel
theorem d_M_deliver_142 : decode b_M_deliver 142 = .ok (.lastore, 1) := by decide +kernel
theorem d_M_deliver_143 : decode b_M_deliver 143 = .ok (.iinc 5 1, 3) := by decide +kernel
theorem d_M_deliver_146 : decode b_M_deliver 146 = .ok (.goto (-55), 3) := by decide +kernel
theorem d_M_deliver_149 : decode b_M_deliver 149 = .ok (.aload_n 0, 1) := by decide +kernel
theorem d_M_deliver_150 : decode b_M_deliver 150 = .ok (.getfield 93, 3) := by decide +kernel
theorem d_M_deliver_153 : decode b_M_deliver 153 = .ok (.sipush 132, 3) := by decide +kernel
theorem d_M_deliver_156 : decode b_M_deliver 156 = .ok (.laload, 1) := by decide +kernel
theorem d_M_deliver_157 : decode b_M_deliver 157 = .ok (.lstore 5, 2) := by decide +kernel
theorem d_M_deliver_159 : decode b_M_deliver 159 = .ok (.aload_n 0, 1) := by decide +kernel
theorem d_M_deliver_160 : decode b_M_deliver 160 = .ok (.getfield 93, 3) := by decide +kernel
theorem d_M_deliver_163 : decode b_M_deliver 163 = .ok (.sipush 133, 3) := by decide +kernel
theorem d_M_deliver_166 : decode b_M_deliver 166 = .ok (.laload, 1) := by decide +kernel
theorem d_M_deliver_167 : decode b_M_deliver 167 = .ok (.lstore 7, 2) := by decide +kernel
theorem d_M_deliver_169 : decode b_M_deliver 169 = .ok (.aload_n 0, 1) := by decide +kernel
theorem d_M_deliver_170 : decode b_M_deliver 170 = .ok (.getfield 93, 3) := by decide +kernel
theorem d_M_deliver_173 : decode b_M_deliver 173 = .ok (.sipush 134, 3) := by decide +kernel
theorem d_M_deliver_176 : decode b_M_deliver 176 = .ok (.laload, 1) := by decide +kernel
theorem d_M_deliver_177 : decode b_M_deliver 177 = .ok (.lstore 9, 2) := by decide +kernel
theorem d_M_deliver_179 : decode b_M_deliver 179 = .ok (.aload_n 0, 1) := by decide +kernel
theorem d_M_deliver_180 : decode b_M_deliver 180 = .ok (.getfield 93, 3) := by decide +kernel
theorem d_M_deliver_183 : decode b_M_deliver 183 = .ok (.sipush 135, 3) := by decide +kernel
theorem d_M_deliver_186 : decode b_M_deliver 186 = .ok (.laload, 1) := by decide +kernel
theorem d_M_deliver_187 : decode b_M_deliver 187 = .ok (.lstore 11, 2) := by decide +kernel
theorem d_M_deliver_189 : decode b_M_deliver 189 = .ok (.aload_n 0, 1) := by decide +kernel
theorem d_M_deliver_190 : decode b_M_deliver 190 = .ok (.getfield 66, 3) := by decide +kernel
theorem d_M_deliver_193 : decode b_M_deliver 193 = .ok (.iload 4, 2) := by decide +kernel
theorem d_M_deliver_195 : decode b_M_deliver 195 = .ok (.baload, 1) := by decide +kernel
theorem d_M_deliver_196 : decode b_M_deliver 196 = .ok (.ifCond .eq 51, 3) := by decide +kernel
theorem d_M_deliver_199 : decode b_M_deliver 199 = .ok (.aload_n 0, 1) := by decide +kernel
theorem d_M_deliver_200 : decode b_M_deliver 200 = .ok (.getfield 72, 3) := by decide +kernel
theorem d_M_deliver_203 : decode b_M_deliver 203 = .ok (.iload 4, 2) := by decide +kernel
theorem d_M_deliver_205 : decode b_M_deliver 205 = .ok (.laload, 1) := by decide +kernel
theorem d_M_deliver_206 : decode b_M_deliver 206 = .ok (.aload_n 0, 1) := by decide +kernel
theorem d_M_deliver_207 : decode b_M_deliver 207 = .ok (.getfield 78, 3) := by decide +kernel
theorem d_M_deliver_210 : decode b_M_deliver 210 = .ok (.iload 4, 2) := by decide +kernel
theorem d_M_deliver_212 : decode b_M_deliver 212 = .ok (.iaload, 1) := by decide +kernel
theorem d_M_deliver_213 : decode b_M_deliver 213 = .ok (.iload_n 3, 1) := by decide +kernel
theorem d_M_deliver_214 : decode b_M_deliver 214 = .ok (.iload_n 2, 1) := by decide +kernel
theorem d_M_deliver_215 : decode b_M_deliver 215 = .ok (.lload 5, 2) := by decide +kernel
theorem d_M_deliver_217 : decode b_M_deliver 217 = .ok (.lload 7, 2) := by decide +kernel
theorem d_M_deliver_219 : decode b_M_deliver 219 = .ok (.lload 9, 2) := by decide +kernel
theorem d_M_deliver_221 : decode b_M_deliver 221 = .ok (.lload 11, 2) := by decide +kernel
theorem d_M_deliver_223 : decode b_M_deliver 223 = .ok (.invokestatic 153, 3) := by decide +kernel
theorem d_M_deliver_226 : decode b_M_deliver 226 = .ok (.aload_n 0, 1) := by decide +kernel
theorem d_M_deliver_227 : decode b_M_deliver 227 = .ok (.getfield 96, 3) := by decide +kernel
theorem d_M_deliver_230 : decode b_M_deliver 230 = .ok (.bipush 33, 2) := by decide +kernel
theorem d_M_deliver_232 : decode b_M_deliver 232 = .ok (.laload, 1) := by decide +kernel
theorem d_M_deliver_233 : decode b_M_deliver 233 = .ok (.lcmp, 1) := by decide +kernel
theorem d_M_deliver_234 : decode b_M_deliver 234 = .ok (.ifCond .eq 13, 3) := by decide +kernel
theorem d_M_deliver_237 : decode b_M_deliver 237 = .ok (.aload_n 0, 1) := by decide +kernel
theorem d_M_deliver_238 : decode b_M_deliver 238 = .ok (.iload_n 1, 1) := by decide +kernel
theorem d_M_deliver_239 : decode b_M_deliver 239 = .ok (.ldc2_w 19, 3) := by decide +kernel
theorem d_M_deliver_242 : decode b_M_deliver 242 = .ok (.invokevirtual 181, 3) := by decide +kernel
theorem d_M_deliver_245 : decode b_M_deliver 245 = .ok (.iload_n 2, 1) := by decide +kernel
theorem d_M_deliver_246 : decode b_M_deliver 246 = .ok (.ireturn, 1) := by decide +kernel
theorem d_M_deliver_247 : decode b_M_deliver 247 = .ok (.aload_n 0, 1) := by decide +kernel
theorem d_M_deliver_248 : decode b_M_deliver 248 = .ok (.iload_n 1, 1) := by decide +kernel
theorem d_M_deliver_249 : decode b_M_deliver 249 = .ok (.iload_n 2, 1) := by decide +kernel
theorem d_M_deliver_250 : decode b_M_deliver 250 = .ok (.lload 5, 2) := by decide +kernel
theorem d_M_deliver_252 : decode b_M_deliver 252 = .ok (.lload 7, 2) := by decide +kernel
theorem d_M_deliver_254 : decode b_M_deliver 254 = .ok (.lload 9, 2) := by decide +kernel
theorem d_M_deliver_256 : decode b_M_deliver 256 = .ok (.lload 11, 2) := by decide +kernel
theorem d_M_deliver_258 : decode b_M_deliver 258 = .ok (.invokevirtual 227, 3) := by decide +kernel
theorem d_M_deliver_261 : decode b_M_deliver 261 = .ok (.iload_n 2, 1) := by decide +kernel
theorem d_M_deliver_262 : decode b_M_deliver 262 = .ok (.ireturn, 1) := by decide +kernel
theorem xw951 : (Cond.constantLong "SecurePairModel" (19 : Nat) (5 : Int64)) ∈ xa := xa_t 951 (by decide +kernel) (by decide +kernel)
theorem xw1116 : (Cond.methodLink "SecurePairModel" (227 : Nat) ({ cls := "SecurePairModel", name := "take", desc := "(IIJJJJ)V" } : MethodName)) ∈ xa := xa_t 1116 (by decide +kernel) (by decide +kernel)
theorem xw1118 : (Cond.instanceMethod ({ cls := "SecurePairModel", name := "take", desc := "(IIJJJJ)V" } : MethodName)) ∈ xa := xa_t 1118 (by decide +kernel) (by decide +kernel)
theorem xw1119 : (Cond.code ({ cls := "SecurePairModel", name := "take", desc := "(IIJJJJ)V" } : MethodName) prog_12_method_28_code (12 : Nat) (Option.none : Option ClassFile.FieldType)) ∈ xa := xa_t 1119 (by decide +kernel) (by decide +kernel)
theorem xs10 : (Cond.selects "SecurePairModel" ⟨"SecurePairModel", "take", "(IIJJJJ)V"⟩ ⟨"SecurePairModel", "take", "(IIJJJJ)V"⟩) ∈ xa := xa_s 10 (by decide +kernel) (by decide +kernel)
def q_deliver (x1 : Int32) (σ : xb_St) : Int32 × xb_St := (if (g_isEnd x1) = 0 then ((q_raise (1 : Int32) σ).1, (q_raise (1 : Int32) σ).2) else (if (σ.1 24 x1.toNatClampNeg) = 0 then ((0 : Int32), (xb_si σ 0 0 (0 : Int32))) else (if ((q_drop x1.toNatClampNeg (q_copy (16 * x1.toNatClampNeg) 33 (xb_si σ 0 0 (0 : Int32)))).1 4 x1.toNatClampNeg) = (5 : Int32) then ((-1 : Int32), (q_drop x1.toNatClampNeg (q_copy (16 * x1.toNatClampNeg) 33 (xb_si σ 0 0 (0 : Int32))))) else (if ((q_drop x1.toNatClampNeg (q_copy (16 * x1.toNatClampNeg) 33 (xb_si σ 0 0 (0 : Int32)))).1 17 ((2 * x1.toNatClampNeg) + 1)) = 0 then (((q_drop x1.toNatClampNeg (q_copy (16 * x1.toNatClampNeg) 33 (xb_si σ 0 0 (0 : Int32)))).1 25 33), (q_take x1.toNatClampNeg ((q_drop x1.toNatClampNeg (q_copy (16 * x1.toNatClampNeg) 33 (xb_si σ 0 0 (0 : Int32)))).1 25 33) ((q_drop x1.toNatClampNeg (q_copy (16 * x1.toNatClampNeg) 33 (xb_si σ 0 0 (0 : Int32)))).2 26 132) ((q_drop x1.toNatClampNeg (q_copy (16 * x1.toNatClampNeg) 33 (xb_si σ 0 0 (0 : Int32)))).2 26 133) ((q_drop x1.toNatClampNeg (q_copy (16 * x1.toNatClampNeg) 33 (xb_si σ 0 0 (0 : Int32)))).2 26 134) ((q_drop x1.toNatClampNeg (q_copy (16 * x1.toNatClampNeg) 33 (xb_si σ 0 0 (0 : Int32)))).2 26 135) (xb_si (q_drop x1.toNatClampNeg (q_copy (16 * x1.toNatClampNeg) 33 (xb_si σ 0 0 (0 : Int32)))) 8 x1.toNatClampNeg (((q_drop x1.toNatClampNeg (q_copy (16 * x1.toNatClampNeg) 33 (xb_si σ 0 0 (0 : Int32)))).1 8 x1.toNatClampNeg) + (1 : Int32))))) else (if (g_tagOf ((q_drop x1.toNatClampNeg (q_copy (16 * x1.toNatClampNeg) 33 (xb_si σ 0 0 (0 : Int32)))).2 19 ((2 * x1.toNatClampNeg) + 1)) ((q_drop x1.toNatClampNeg (q_copy (16 * x1.toNatClampNeg) 33 (xb_si σ 0 0 (0 : Int32)))).1 21 ((2 * x1.toNatClampNeg) + 1)) ((q_drop x1.toNatClampNeg (q_copy (16 * x1.toNatClampNeg) 33 (xb_si σ 0 0 (0 : Int32)))).1 8 x1.toNatClampNeg) ((q_drop x1.toNatClampNeg (q_copy (16 * x1.toNatClampNeg) 33 (xb_si σ 0 0 (0 : Int32)))).1 25 33) (((q_drop x1.toNatClampNeg (q_copy (16 * x1.toNatClampNeg) 33 (xb_si σ 0 0 (0 : Int32)))).2 26 132) ^^^ (g_mask ((q_drop x1.toNatClampNeg (q_copy (16 * x1.toNatClampNeg) 33 (xb_si σ 0 0 (0 : Int32)))).2 18 ((2 * x1.toNatClampNeg) + 1)) ((q_drop x1.toNatClampNeg (q_copy (16 * x1.toNatClampNeg) 33 (xb_si σ 0 0 (0 : Int32)))).1 20 ((2 * x1.toNatClampNeg) + 1)) ((q_drop x1.toNatClampNeg (q_copy (16 * x1.toNatClampNeg) 33 (xb_si σ 0 0 (0 : Int32)))).1 8 x1.toNatClampNeg) (1 : Int32))) (((q_drop x1.toNatClampNeg (q_copy (16 * x1.toNatClampNeg) 33 (xb_si σ 0 0 (0 : Int32)))).2 26 133) ^^^ (g_mask ((q_drop x1.toNatClampNeg (q_copy (16 * x1.toNatClampNeg) 33 (xb_si σ 0 0 (0 : Int32)))).2 18 ((2 * x1.toNatClampNeg) + 1)) ((q_drop x1.toNatClampNeg (q_copy (16 * x1.toNatClampNeg) 33 (xb_si σ 0 0 (0 : Int32)))).1 20 ((2 * x1.toNatClampNeg) + 1)) ((q_drop x1.toNatClampNeg (q_copy (16 * x1.toNatClampNeg) 33 (xb_si σ 0 0 (0 : Int32)))).1 8 x1.toNatClampNeg) (2 : Int32))) (((q_drop x1.toNatClampNeg (q_copy (16 * x1.toNatClampNeg) 33 (xb_si σ 0 0 (0 : Int32)))).2 26 134) ^^^ (g_mask ((q_drop x1.toNatClampNeg (q_copy (16 * x1.toNatClampNeg) 33 (xb_si σ 0 0 (0 : Int32)))).2 18 ((2 * x1.toNatClampNeg) + 1)) ((q_drop x1.toNatClampNeg (q_copy (16 * x1.toNatClampNeg) 33 (xb_si σ 0 0 (0 : Int32)))).1 20 ((2 * x1.toNatClampNeg) + 1)) ((q_drop x1.toNatClampNeg (q_copy (16 * x1.toNatClampNeg) 33 (xb_si σ 0 0 (0 : Int32)))).1 8 x1.toNatClampNeg) (3 : Int32))) (((q_drop x1.toNatClampNeg (q_copy (16 * x1.toNatClampNeg) 33 (xb_si σ 0 0 (0 : Int32)))).2 26 135) ^^^ (g_mask ((q_drop x1.toNatClampNeg (q_copy (16 * x1.toNatClampNeg) 33 (xb_si σ 0 0 (0 : Int32)))).2 18 ((2 * x1.toNatClampNeg) + 1)) ((q_drop x1.toNatClampNeg (q_copy (16 * x1.toNatClampNeg) 33 (xb_si σ 0 0 (0 : Int32)))).1 20 ((2 * x1.toNatClampNeg) + 1)) ((q_drop x1.toNatClampNeg (q_copy (16 * x1.toNatClampNeg) 33 (xb_si σ 0 0 (0 : Int32)))).1 8 x1.toNatClampNeg) (4 : Int32)))) = ((q_drop x1.toNatClampNeg (q_copy (16 * x1.toNatClampNeg) 33 (xb_si σ 0 0 (0 : Int32)))).2 27 33) then (((q_drop x1.toNatClampNeg (q_copy (16 * x1.toNatClampNeg) 33 (xb_si σ 0 0 (0 : Int32)))).1 25 33), (q_take x1.toNatClampNeg ((q_drop x1.toNatClampNeg (q_copy (16 * x1.toNatClampNeg) 33 (xb_si σ 0 0 (0 : Int32)))).1 25 33) (((q_drop x1.toNatClampNeg (q_copy (16 * x1.toNatClampNeg) 33 (xb_si σ 0 0 (0 : Int32)))).2 26 132) ^^^ (g_mask ((q_drop x1.toNatClampNeg (q_copy (16 * x1.toNatClampNeg) 33 (xb_si σ 0 0 (0 : Int32)))).2 18 ((2 * x1.toNatClampNeg) + 1)) ((q_drop x1.toNatClampNeg (q_copy (16 * x1.toNatClampNeg) 33 (xb_si σ 0 0 (0 : Int32)))).1 20 ((2 * x1.toNatClampNeg) + 1)) ((q_drop x1.toNatClampNeg (q_copy (16 * x1.toNatClampNeg) 33 (xb_si σ 0 0 (0 : Int32)))).1 8 x1.toNatClampNeg) (1 : Int32))) (((q_drop x1.toNatClampNeg (q_copy (16 * x1.toNatClampNeg) 33 (xb_si σ 0 0 (0 : Int32)))).2 26 133) ^^^ (g_mask ((q_drop x1.toNatClampNeg (q_copy (16 * x1.toNatClampNeg) 33 (xb_si σ 0 0 (0 : Int32)))).2 18 ((2 * x1.toNatClampNeg) + 1)) ((q_drop x1.toNatClampNeg (q_copy (16 * x1.toNatClampNeg) 33 (xb_si σ 0 0 (0 : Int32)))).1 20 ((2 * x1.toNatClampNeg) + 1)) ((q_drop x1.toNatClampNeg (q_copy (16 * x1.toNatClampNeg) 33 (xb_si σ 0 0 (0 : Int32)))).1 8 x1.toNatClampNeg) (2 : Int32))) (((q_drop x1.toNatClampNeg (q_copy (16 * x1.toNatClampNeg) 33 (xb_si σ 0 0 (0 : Int32)))).2 26 134) ^^^ (g_mask ((q_drop x1.toNatClampNeg (q_copy (16 * x1.toNatClampNeg) 33 (xb_si σ 0 0 (0 : Int32)))).2 18 ((2 * x1.toNatClampNeg) + 1)) ((q_drop x1.toNatClampNeg (q_copy (16 * x1.toNatClampNeg) 33 (xb_si σ 0 0 (0 : Int32)))).1 20 ((2 * x1.toNatClampNeg) + 1)) ((q_drop x1.toNatClampNeg (q_copy (16 * x1.toNatClampNeg) 33 (xb_si σ 0 0 (0 : Int32)))).1 8 x1.toNatClampNeg) (3 : Int32))) (((q_drop x1.toNatClampNeg (q_copy (16 * x1.toNatClampNeg) 33 (xb_si σ 0 0 (0 : Int32)))).2 26 135) ^^^ (g_mask ((q_drop x1.toNatClampNeg (q_copy (16 * x1.toNatClampNeg) 33 (xb_si σ 0 0 (0 : Int32)))).2 18 ((2 * x1.toNatClampNeg) + 1)) ((q_drop x1.toNatClampNeg (q_copy (16 * x1.toNatClampNeg) 33 (xb_si σ 0 0 (0 : Int32)))).1 20 ((2 * x1.toNatClampNeg) + 1)) ((q_drop x1.toNatClampNeg (q_copy (16 * x1.toNatClampNeg) 33 (xb_si σ 0 0 (0 : Int32)))).1 8 x1.toNatClampNeg) (4 : Int32))) (xb_sl (xb_sl (xb_sl (xb_sl (xb_si (q_drop x1.toNatClampNeg (q_copy (16 * x1.toNatClampNeg) 33 (xb_si σ 0 0 (0 : Int32)))) 8 x1.toNatClampNeg (((q_drop x1.toNatClampNeg (q_copy (16 * x1.toNatClampNeg) 33 (xb_si σ 0 0 (0 : Int32)))).1 8 x1.toNatClampNeg) + (1 : Int32))) 26 132 (((q_drop x1.toNatClampNeg (q_copy (16 * x1.toNatClampNeg) 33 (xb_si σ 0 0 (0 : Int32)))).2 26 132) ^^^ (g_mask ((q_drop x1.toNatClampNeg (q_copy (16 * x1.toNatClampNeg) 33 (xb_si σ 0 0 (0 : Int32)))).2 18 ((2 * x1.toNatClampNeg) + 1)) ((q_drop x1.toNatClampNeg (q_copy (16 * x1.toNatClampNeg) 33 (xb_si σ 0 0 (0 : Int32)))).1 20 ((2 * x1.toNatClampNeg) + 1)) ((q_drop x1.toNatClampNeg (q_copy (16 * x1.toNatClampNeg) 33 (xb_si σ 0 0 (0 : Int32)))).1 8 x1.toNatClampNeg) (1 : Int32)))) 26 133 (((q_drop x1.toNatClampNeg (q_copy (16 * x1.toNatClampNeg) 33 (xb_si σ 0 0 (0 : Int32)))).2 26 133) ^^^ (g_mask ((q_drop x1.toNatClampNeg (q_copy (16 * x1.toNatClampNeg) 33 (xb_si σ 0 0 (0 : Int32)))).2 18 ((2 * x1.toNatClampNeg) + 1)) ((q_drop x1.toNatClampNeg (q_copy (16 * x1.toNatClampNeg) 33 (xb_si σ 0 0 (0 : Int32)))).1 20 ((2 * x1.toNatClampNeg) + 1)) ((q_drop x1.toNatClampNeg (q_copy (16 * x1.toNatClampNeg) 33 (xb_si σ 0 0 (0 : Int32)))).1 8 x1.toNatClampNeg) (2 : Int32)))) 26 134 (((q_drop x1.toNatClampNeg (q_copy (16 * x1.toNatClampNeg) 33 (xb_si σ 0 0 (0 : Int32)))).2 26 134) ^^^ (g_mask ((q_drop x1.toNatClampNeg (q_copy (16 * x1.toNatClampNeg) 33 (xb_si σ 0 0 (0 : Int32)))).2 18 ((2 * x1.toNatClampNeg) + 1)) ((q_drop x1.toNatClampNeg (q_copy (16 * x1.toNatClampNeg) 33 (xb_si σ 0 0 (0 : Int32)))).1 20 ((2 * x1.toNatClampNeg) + 1)) ((q_drop x1.toNatClampNeg (q_copy (16 * x1.toNatClampNeg) 33 (xb_si σ 0 0 (0 : Int32)))).1 8 x1.toNatClampNeg) (3 : Int32)))) 26 135 (((q_drop x1.toNatClampNeg (q_copy (16 * x1.toNatClampNeg) 33 (xb_si σ 0 0 (0 : Int32)))).2 26 135) ^^^ (g_mask ((q_drop x1.toNatClampNeg (q_copy (16 * x1.toNatClampNeg) 33 (xb_si σ 0 0 (0 : Int32)))).2 18 ((2 * x1.toNatClampNeg) + 1)) ((q_drop x1.toNatClampNeg (q_copy (16 * x1.toNatClampNeg) 33 (xb_si σ 0 0 (0 : Int32)))).1 20 ((2 * x1.toNatClampNeg) + 1)) ((q_drop x1.toNatClampNeg (q_copy (16 * x1.toNatClampNeg) 33 (xb_si σ 0 0 (0 : Int32)))).1 8 x1.toNatClampNeg) (4 : Int32)))))) else (((q_drop x1.toNatClampNeg (q_copy (16 * x1.toNatClampNeg) 33 (xb_si σ 0 0 (0 : Int32)))).1 25 33), (q_fail x1.toNatClampNeg (5 : Int64) (xb_sl (xb_sl (xb_sl (xb_sl (xb_si (q_drop x1.toNatClampNeg (q_copy (16 * x1.toNatClampNeg) 33 (xb_si σ 0 0 (0 : Int32)))) 8 x1.toNatClampNeg (((q_drop x1.toNatClampNeg (q_copy (16 * x1.toNatClampNeg) 33 (xb_si σ 0 0 (0 : Int32)))).1 8 x1.toNatClampNeg) + (1 : Int32))) 26 132 (((q_drop x1.toNatClampNeg (q_copy (16 * x1.toNatClampNeg) 33 (xb_si σ 0 0 (0 : Int32)))).2 26 132) ^^^ (g_mask ((q_drop x1.toNatClampNeg (q_copy (16 * x1.toNatClampNeg) 33 (xb_si σ 0 0 (0 : Int32)))).2 18 ((2 * x1.toNatClampNeg) + 1)) ((q_drop x1.toNatClampNeg (q_copy (16 * x1.toNatClampNeg) 33 (xb_si σ 0 0 (0 : Int32)))).1 20 ((2 * x1.toNatClampNeg) + 1)) ((q_drop x1.toNatClampNeg (q_copy (16 * x1.toNatClampNeg) 33 (xb_si σ 0 0 (0 : Int32)))).1 8 x1.toNatClampNeg) (1 : Int32)))) 26 133 (((q_drop x1.toNatClampNeg (q_copy (16 * x1.toNatClampNeg) 33 (xb_si σ 0 0 (0 : Int32)))).2 26 133) ^^^ (g_mask ((q_drop x1.toNatClampNeg (q_copy (16 * x1.toNatClampNeg) 33 (xb_si σ 0 0 (0 : Int32)))).2 18 ((2 * x1.toNatClampNeg) + 1)) ((q_drop x1.toNatClampNeg (q_copy (16 * x1.toNatClampNeg) 33 (xb_si σ 0 0 (0 : Int32)))).1 20 ((2 * x1.toNatClampNeg) + 1)) ((q_drop x1.toNatClampNeg (q_copy (16 * x1.toNatClampNeg) 33 (xb_si σ 0 0 (0 : Int32)))).1 8 x1.toNatClampNeg) (2 : Int32)))) 26 134 (((q_drop x1.toNatClampNeg (q_copy (16 * x1.toNatClampNeg) 33 (xb_si σ 0 0 (0 : Int32)))).2 26 134) ^^^ (g_mask ((q_drop x1.toNatClampNeg (q_copy (16 * x1.toNatClampNeg) 33 (xb_si σ 0 0 (0 : Int32)))).2 18 ((2 * x1.toNatClampNeg) + 1)) ((q_drop x1.toNatClampNeg (q_copy (16 * x1.toNatClampNeg) 33 (xb_si σ 0 0 (0 : Int32)))).1 20 ((2 * x1.toNatClampNeg) + 1)) ((q_drop x1.toNatClampNeg (q_copy (16 * x1.toNatClampNeg) 33 (xb_si σ 0 0 (0 : Int32)))).1 8 x1.toNatClampNeg) (3 : Int32)))) 26 135 (((q_drop x1.toNatClampNeg (q_copy (16 * x1.toNatClampNeg) 33 (xb_si σ 0 0 (0 : Int32)))).2 26 135) ^^^ (g_mask ((q_drop x1.toNatClampNeg (q_copy (16 * x1.toNatClampNeg) 33 (xb_si σ 0 0 (0 : Int32)))).2 18 ((2 * x1.toNatClampNeg) + 1)) ((q_drop x1.toNatClampNeg (q_copy (16 * x1.toNatClampNeg) 33 (xb_si σ 0 0 (0 : Int32)))).1 20 ((2 * x1.toNatClampNeg) + 1)) ((q_drop x1.toNatClampNeg (q_copy (16 * x1.toNatClampNeg) 33 (xb_si σ 0 0 (0 : Int32)))).1 8 x1.toNatClampNeg) (4 : Int32)))))))))))
set_option maxHeartbeats 4000000 in
set_option maxRecDepth 100000 in
theorem c_M_deliver (l : Launch) (D : va_G) (α : Nat → Nat) (κ : Nat → ClassId) (hα : xb_inj α 35) (σ : xb_St) (x1 : Int32) (ok : sm_ok σ) : Met l y_M_deliver w_M_deliver ({ frames := 6, cells := 0, slots := 0, locals := 185 }) (va_Pc ([.ref (α 0), .int x1]) (sm_Pre D α κ σ)) (va_Qi (fun r (u : xb_St) => r = (q_deliver x1 σ).1 ∧ u = (q_deliver x1 σ).2) (sm_B D α κ) (xb_A α 35)) 0 0 (xb_A α 35) := by
  refine Met.ofW (cc := b_M_deliver) (maxL := 13) (ret := (some .int)) (by decide) rfl ?_
  intro p e s m args below meth c s₁ B_ hml hv
  obtain ⟨rfl, hP, hK, hN⟩ := hv
  have hx := B_.exec
  have hb := B_.bytes
  have hr := B_.returns
  have hts := atoms_spec (ws := w_M_deliver) B_.pre
  have ht : ∀ w ∈ xa, w.before _ s = true := fun w h => hts w (List.mem_cons_of_mem _ h)
  have hown : s.vm.findClass "SecurePairModel" = some m.cls := findClass_of_methodNamed B_.named
  have hlocks := B_.notSynchronized
  have hD := sm_D hα κ
  have hS : va_S (xb_A α 35) s.heap s.heap [] := va_S.rf
  have hl := lv_entry ([.ref (α 0), .int x1]) (n := 13) (Nat.le_of_ble_eq_true rfl)
  rw [lg_entry_eq]
  generalize (lg_sl ([.ref (α 0), .int x1]) ++ List.replicate (13 - (lg_sl ([.ref (α 0), .int x1])).length) Slot.unset).toArray = ls at hl ⊢
  have hl : lv_has ls 13 [(0, .ref (α 0)), (1, .int x1)] := hl
  refine lv_iload_n hx hb d_M_deliver_0 rfl (lv_at hl 1 rfl) ?_
  refine vp_callSi (W.runS (As := [.int x1]) (rest := []) ⟨hx, hb, hml, hown, hts⟩ (c_M_isEnd l x1) (cwS 1 hts (xa_S xw1073 xw1074 xw11 xw1075) rfl rfl rfl (by decide +kernel) ⟨Nat.le_of_ble_eq_true rfl, Nat.le_of_ble_eq_true rfl⟩) preEq rfl rfl hl.1 rfl (lv_room (Nat.le_of_ble_eq_true rfl)) d_M_deliver_1 ⟨Nat.le_of_ble_eq_true rfl, Nat.le_of_ble_eq_true rfl⟩) (fun r_ e_ => ?_)
  subst e_
  refine lv_if_ne (tgt := 13) hx hb d_M_deliver_4 (by decide) (fun c1 => ?_) (fun c1 => ?_)
  · skip
    have zc1 := sm_end c1
    refine lv_aload_n hx hb d_M_deliver_13 rfl (lv_at hl 0 rfl) ?_
    refine lv_iconst (v := 0) hx hb d_M_deliver_14 (by decide) ?_
    refine sm_pi (x := (0 : Int32)) (ty := .int) hx hb ht hown hK hP 0 (by decide) (ht _ xw952) (fun _ h_ => h_) hD hS rfl (by decide +kernel) rfl rfl sm_f_0 d_M_deliver_15 (fun H locs hP hS => ?_)
    refine lv_aload_n hx hb d_M_deliver_18 rfl (lv_at hl 0 rfl) ?_
    refine sm_g (v := .ref (α 24)) hx hb ht hown hK hP 26 (by decide) (ht _ xw978) (fun _ h_ => h_) rfl d_M_deliver_19 ?_
    refine lv_iload_n hx hb d_M_deliver_22 rfl (lv_at hl 1 rfl) ?_
    refine sm_gaI (L := 2) (n := x1.toNatClampNeg) (v := (σ.1 24 x1.toNatClampNeg)) hx hb hK hP 24 23 rfl rfl (xb_in zc1.1 (by omega) (by decide)) (xb_cl zc1.1 (by omega)) (xb_i_nk (by decide)) d_M_deliver_23 ?_
    refine lv_if_ne (tgt := 29) hx hb d_M_deliver_24 (by decide) (fun c2 => ?_) (fun c2 => ?_)
    · skip
      refine lv_aload_n hx hb d_M_deliver_29 rfl (lv_at hl 0 rfl) ?_
      refine lv_bipush (v := 16) hx hb d_M_deliver_30 (by decide) ?_
      refine lv_iload_n hx hb d_M_deliver_32 rfl (lv_at hl 1 rfl) ?_
      refine lv_imul hx hb d_M_deliver_33 ?_
      refine lv_bipush (v := 33) hx hb d_M_deliver_34 (by decide) ?_
      refine sm_cv (va_runV (As := [.int ((16 : Int32) * x1), .int (33 : Int32)]) (rest := []) ⟨hx, hb, hml, hown, hts⟩ (c_M_copy l D α κ hα (xb_si σ 0 0 (0 : Int32)) ((16 : Int32) * x1) (16 * x1.toNatClampNeg) (xb_nm (xb_lit (x := (16 : Int32)) 16 rfl) zc1.1) (by omega) (33 : Int32) 33 (xb_lit (x := (33 : Int32)) 33 rfl) (by omega)) (cwV 2 hts (xa_V xw1100 xw1102 xs7 xw11 xw1103) rfl rfl rfl (by decide +kernel) ⟨Nat.le_of_ble_eq_true rfl, Nat.le_of_ble_eq_true rfl⟩) ⟨sm_blind, va_recv (q0 := 0) (ci := 9) hK hP rfl rfl, sm_pre hP hK hN _⟩ rfl rfl hl.1 rfl (lv_room (Nat.le_of_ble_eq_true rfl)) d_M_deliver_36 ⟨Nat.le_of_ble_eq_true rfl, Nat.le_of_ble_eq_true rfl⟩) hS (fun _ h_ => h_) (fun H locs hP hS => ?_)
      obtain ⟨τ1, hτ1⟩ : ∃ t_, t_ = (q_copy (16 * x1.toNatClampNeg) 33 (xb_si σ 0 0 (0 : Int32))) := ⟨_, rfl⟩
      rw [← hτ1] at hP
      have okτ1 : sm_ok τ1 := by rw [hτ1]; exact (ok_q_copy (16 * x1.toNatClampNeg) 33 (by omega) (by omega) (mk_si ok (by decide)))
      refine lv_aload_n hx hb d_M_deliver_39 rfl (lv_at hl 0 rfl) ?_
      refine lv_iload_n hx hb d_M_deliver_40 rfl (lv_at hl 1 rfl) ?_
      refine sm_cv (va_runV (As := [.int x1]) (rest := []) ⟨hx, hb, hml, hown, hts⟩ (c_M_drop l D α κ hα τ1 x1 x1.toNatClampNeg zc1.1 (by omega) okτ1 (by first | exact c2 | (subst hτ1; exact c2))) (cwV 1 hts (xa_V xw1108 xw1110 xs8 xw11 xw1111) rfl rfl rfl (by decide +kernel) ⟨Nat.le_of_ble_eq_true rfl, Nat.le_of_ble_eq_true rfl⟩) ⟨sm_blind, va_recv (q0 := 0) (ci := 9) hK hP rfl rfl, sm_pre hP hK hN _⟩ rfl rfl hl.1 rfl (lv_room (Nat.le_of_ble_eq_true rfl)) d_M_deliver_41 ⟨Nat.le_of_ble_eq_true rfl, Nat.le_of_ble_eq_true rfl⟩) hS (fun _ h_ => h_) (fun H locs hP hS => ?_)
      obtain ⟨τ2, hτ2⟩ : ∃ t_, t_ = (q_drop x1.toNatClampNeg τ1) := ⟨_, rfl⟩
      rw [← hτ2] at hP
      have okτ2 : sm_ok τ2 := by rw [hτ2]; exact (ok_q_drop x1.toNatClampNeg (by omega) (by first | exact c2 | (subst hτ1; exact c2)) okτ1)
      refine lv_aload_n hx hb d_M_deliver_44 rfl (lv_at hl 0 rfl) ?_
      refine sm_g (v := .ref (α 25)) hx hb ht hown hK hP 27 (by decide) (ht _ xw979) (fun _ h_ => h_) rfl d_M_deliver_45 ?_
      refine lv_bipush (v := 33) hx hb d_M_deliver_48 (by decide) ?_
      refine sm_gaI (L := 34) (n := 33) (v := (τ2.1 25 33)) hx hb hK hP 25 24 rfl rfl (xb_in (xb_lit (x := (33 : Int32)) 33 rfl) (by omega) (by decide)) (xb_cl (xb_lit (x := (33 : Int32)) 33 rfl) (by omega)) rfl d_M_deliver_50 ?_
      refine lv_istore_n (lv' := [(2, .int (τ2.1 25 33)), (0, .ref (α 0)), (1, .int x1)]) hx hb d_M_deliver_51 rfl hl (by decide) rfl (fun ls hl => ?_)
      refine lv_aload_n hx hb d_M_deliver_52 rfl (lv_at hl 1 rfl) ?_
      refine sm_g (v := .ref (α 4)) hx hb ht hown hK hP 6 (by decide) (ht _ xw958) (fun _ h_ => h_) rfl d_M_deliver_53 ?_
      refine lv_iload_n hx hb d_M_deliver_56 rfl (lv_at hl 2 rfl) ?_
      refine sm_gaI (L := 2) (n := x1.toNatClampNeg) (v := (τ2.1 4 x1.toNatClampNeg)) hx hb hK hP 4 3 rfl rfl (xb_in zc1.1 (by omega) (by decide)) (xb_cl zc1.1 (by omega)) rfl d_M_deliver_57 ?_
      refine lv_iconst (v := 5) hx hb d_M_deliver_58 (by decide) ?_
      refine lv_icmp_ne (tgt := 64) hx hb d_M_deliver_59 (by decide) (fun c3 => ?_) (fun c3 => ?_)
      · skip
        refine lv_aload_n hx hb d_M_deliver_64 rfl (lv_at hl 1 rfl) ?_
        refine sm_g (v := .ref (α 8)) hx hb ht hown hK hP 10 (by decide) (ht _ xw962) (fun _ h_ => h_) rfl d_M_deliver_65 ?_
        refine lv_iload_n hx hb d_M_deliver_68 rfl (lv_at hl 2 rfl) ?_
        refine sm_gaI (L := 2) (n := x1.toNatClampNeg) (v := (τ2.1 8 x1.toNatClampNeg)) hx hb hK hP 8 7 rfl rfl (xb_in zc1.1 (by omega) (by decide)) (xb_cl zc1.1 (by omega)) rfl d_M_deliver_69 ?_
        refine lv_istore_n (lv' := [(3, .int (τ2.1 8 x1.toNatClampNeg)), (2, .int (τ2.1 25 33)), (0, .ref (α 0)), (1, .int x1)]) hx hb d_M_deliver_70 rfl hl (by decide) rfl (fun ls hl => ?_)
        refine lv_aload_n hx hb d_M_deliver_71 rfl (lv_at hl 2 rfl) ?_
        refine sm_g (v := .ref (α 8)) hx hb ht hown hK hP 10 (by decide) (ht _ xw962) (fun _ h_ => h_) rfl d_M_deliver_72 ?_
        refine lv_iload_n hx hb d_M_deliver_75 rfl (lv_at hl 3 rfl) ?_
        refine lv_dup2_11 hx hb d_M_deliver_76 rfl rfl ?_
        refine sm_gaI (L := 2) (n := x1.toNatClampNeg) (v := (τ2.1 8 x1.toNatClampNeg)) hx hb hK hP 8 7 rfl rfl (xb_in zc1.1 (by omega) (by decide)) (xb_cl zc1.1 (by omega)) rfl d_M_deliver_77 ?_
        refine lv_iconst (v := 1) hx hb d_M_deliver_78 (by decide) ?_
        refine lv_iadd hx hb d_M_deliver_79 ?_
        refine sm_paI (L := 2) (n := x1.toNatClampNeg) (x := ((τ2.1 8 x1.toNatClampNeg) + (1 : Int32))) hx hb hK hP 8 7 rfl rfl hD hS (xb_in zc1.1 (by omega) (by decide)) (xb_cl zc1.1 (by omega)) sm_s_8 d_M_deliver_80 (fun H locs hP hS => ?_)
        refine lv_iconst (v := 2) hx hb d_M_deliver_81 (by decide) ?_
        refine lv_iload_n hx hb d_M_deliver_82 rfl (lv_at hl 3 rfl) ?_
        refine lv_imul hx hb d_M_deliver_83 ?_
        refine lv_iconst (v := 1) hx hb d_M_deliver_84 (by decide) ?_
        refine lv_iadd hx hb d_M_deliver_85 ?_
        refine lv_istore (lv' := [(4, .int (((2 : Int32) * x1) + (1 : Int32))), (3, .int (τ2.1 8 x1.toNatClampNeg)), (2, .int (τ2.1 25 33)), (0, .ref (α 0)), (1, .int x1)]) hx hb d_M_deliver_86 hl (by decide) rfl (fun ls hl => ?_)
        refine lv_iconst (v := 0) hx hb d_M_deliver_88 (by decide) ?_
        refine lv_istore (lv' := [(5, .int (0 : Int32)), (4, .int (((2 : Int32) * x1) + (1 : Int32))), (3, .int (τ2.1 8 x1.toNatClampNeg)), (2, .int (τ2.1 25 33)), (0, .ref (α 0)), (1, .int x1)]) hx hb d_M_deliver_89 hl (by decide) rfl (fun ls hl => ?_)
        refine lv_iload hx hb d_M_deliver_91 (lv_at hl 0 rfl) ?_
        refine lv_iconst (v := 4) hx hb d_M_deliver_93 (by decide) ?_
        refine lv_icmp_ge (tgt := 149) hx hb d_M_deliver_94 (by decide) (fun h_ => absurd h_ (by decide)) (fun _ => ?_)
        refine lv_aload_n hx hb d_M_deliver_97 rfl (lv_at hl 4 rfl) ?_
        refine sm_g (v := .ref (α 17)) hx hb ht hown hK hP 19 (by decide) (ht _ xw971) (fun _ h_ => h_) rfl d_M_deliver_98 ?_
        refine lv_iload hx hb d_M_deliver_101 (lv_at hl 1 rfl) ?_
        refine sm_gaZ (L := 4) (n := ((2 * x1.toNatClampNeg) + 1)) (v := (τ2.1 17 ((2 * x1.toNatClampNeg) + 1))) hx hb hK hP 17 16 rfl rfl (xb_in (xb_na (xb_nm (xb_lit (x := (2 : Int32)) 2 rfl) zc1.1) (xb_lit (x := (1 : Int32)) 1 rfl)) (by omega) (by decide)) (xb_cl (xb_na (xb_nm (xb_lit (x := (2 : Int32)) 2 rfl) zc1.1) (xb_lit (x := (1 : Int32)) 1 rfl)) (by omega)) (xb_i_nk (by decide)) d_M_deliver_103 ?_
        refine lv_if_eq (tgt := 149) hx hb d_M_deliver_104 (by decide) (fun c4 => ?_) (fun c4 => ?_)
        · skip
          refine lv_aload_n hx hb d_M_deliver_149 rfl (lv_at hl 4 rfl) ?_
          refine sm_g (v := .ref (α 26)) hx hb ht hown hK hP 28 (by decide) (ht _ xw980) (fun _ h_ => h_) rfl d_M_deliver_150 ?_
          refine lv_sipush (v := 132) hx hb d_M_deliver_153 (by decide) ?_
          refine sm_gaJ (L := 136) (n := 132) (v := (τ2.2 26 132)) hx hb hK hP 26 25 rfl rfl (xb_in (xb_lit (x := (132 : Int32)) 132 rfl) (by omega) (by decide)) (xb_cl (xb_lit (x := (132 : Int32)) 132 rfl) (by omega)) xb_l_i d_M_deliver_156 ?_
          refine lv_lstore (lv' := [(5, .long (τ2.2 26 132)), (4, .int (((2 : Int32) * x1) + (1 : Int32))), (3, .int (τ2.1 8 x1.toNatClampNeg)), (2, .int (τ2.1 25 33)), (0, .ref (α 0)), (1, .int x1)]) hx hb d_M_deliver_157 hl (by decide) rfl (fun ls hl => ?_)
          refine lv_aload_n hx hb d_M_deliver_159 rfl (lv_at hl 4 rfl) ?_
          refine sm_g (v := .ref (α 26)) hx hb ht hown hK hP 28 (by decide) (ht _ xw980) (fun _ h_ => h_) rfl d_M_deliver_160 ?_
          refine lv_sipush (v := 133) hx hb d_M_deliver_163 (by decide) ?_
          refine sm_gaJ (L := 136) (n := 133) (v := (τ2.2 26 133)) hx hb hK hP 26 25 rfl rfl (xb_in (xb_lit (x := (133 : Int32)) 133 rfl) (by omega) (by decide)) (xb_cl (xb_lit (x := (133 : Int32)) 133 rfl) (by omega)) xb_l_i d_M_deliver_166 ?_
          refine lv_lstore (lv' := [(7, .long (τ2.2 26 133)), (5, .long (τ2.2 26 132)), (4, .int (((2 : Int32) * x1) + (1 : Int32))), (3, .int (τ2.1 8 x1.toNatClampNeg)), (2, .int (τ2.1 25 33)), (0, .ref (α 0)), (1, .int x1)]) hx hb d_M_deliver_167 hl (by decide) rfl (fun ls hl => ?_)
          refine lv_aload_n hx hb d_M_deliver_169 rfl (lv_at hl 5 rfl) ?_
          refine sm_g (v := .ref (α 26)) hx hb ht hown hK hP 28 (by decide) (ht _ xw980) (fun _ h_ => h_) rfl d_M_deliver_170 ?_
          refine lv_sipush (v := 134) hx hb d_M_deliver_173 (by decide) ?_
          refine sm_gaJ (L := 136) (n := 134) (v := (τ2.2 26 134)) hx hb hK hP 26 25 rfl rfl (xb_in (xb_lit (x := (134 : Int32)) 134 rfl) (by omega) (by decide)) (xb_cl (xb_lit (x := (134 : Int32)) 134 rfl) (by omega)) xb_l_i d_M_deliver_176 ?_
          refine lv_lstore (lv' := [(9, .long (τ2.2 26 134)), (7, .long (τ2.2 26 133)), (5, .long (τ2.2 26 132)), (4, .int (((2 : Int32) * x1) + (1 : Int32))), (3, .int (τ2.1 8 x1.toNatClampNeg)), (2, .int (τ2.1 25 33)), (0, .ref (α 0)), (1, .int x1)]) hx hb d_M_deliver_177 hl (by decide) rfl (fun ls hl => ?_)
          refine lv_aload_n hx hb d_M_deliver_179 rfl (lv_at hl 6 rfl) ?_
          refine sm_g (v := .ref (α 26)) hx hb ht hown hK hP 28 (by decide) (ht _ xw980) (fun _ h_ => h_) rfl d_M_deliver_180 ?_
          refine lv_sipush (v := 135) hx hb d_M_deliver_183 (by decide) ?_
          refine sm_gaJ (L := 136) (n := 135) (v := (τ2.2 26 135)) hx hb hK hP 26 25 rfl rfl (xb_in (xb_lit (x := (135 : Int32)) 135 rfl) (by omega) (by decide)) (xb_cl (xb_lit (x := (135 : Int32)) 135 rfl) (by omega)) xb_l_i d_M_deliver_186 ?_
          refine lv_lstore (lv' := [(11, .long (τ2.2 26 135)), (9, .long (τ2.2 26 134)), (7, .long (τ2.2 26 133)), (5, .long (τ2.2 26 132)), (4, .int (((2 : Int32) * x1) + (1 : Int32))), (3, .int (τ2.1 8 x1.toNatClampNeg)), (2, .int (τ2.1 25 33)), (0, .ref (α 0)), (1, .int x1)]) hx hb d_M_deliver_187 hl (by decide) rfl (fun ls hl => ?_)
          refine lv_aload_n hx hb d_M_deliver_189 rfl (lv_at hl 7 rfl) ?_
          refine sm_g (v := .ref (α 17)) hx hb ht hown hK hP 19 (by decide) (ht _ xw971) (fun _ h_ => h_) rfl d_M_deliver_190 ?_
          refine lv_iload hx hb d_M_deliver_193 (lv_at hl 4 rfl) ?_
          refine sm_gaZ (L := 4) (n := ((2 * x1.toNatClampNeg) + 1)) (v := (τ2.1 17 ((2 * x1.toNatClampNeg) + 1))) hx hb hK hP 17 16 rfl rfl (xb_in (xb_na (xb_nm (xb_lit (x := (2 : Int32)) 2 rfl) zc1.1) (xb_lit (x := (1 : Int32)) 1 rfl)) (by omega) (by decide)) (xb_cl (xb_na (xb_nm (xb_lit (x := (2 : Int32)) 2 rfl) zc1.1) (xb_lit (x := (1 : Int32)) 1 rfl)) (by omega)) (xb_i_nk (by decide)) d_M_deliver_195 ?_
          refine lv_if_eq (tgt := 247) hx hb d_M_deliver_196 (by decide) (fun _ => ?_) (fun h_ => absurd c4 h_)
          refine lv_aload_n hx hb d_M_deliver_247 rfl (lv_at hl 7 rfl) ?_
          refine lv_iload_n hx hb d_M_deliver_248 rfl (lv_at hl 8 rfl) ?_
          refine lv_iload_n hx hb d_M_deliver_249 rfl (lv_at hl 6 rfl) ?_
          refine lv_lload hx hb d_M_deliver_250 (lv_at hl 3 rfl) ?_
          refine lv_lload hx hb d_M_deliver_252 (lv_at hl 2 rfl) ?_
          refine lv_lload hx hb d_M_deliver_254 (lv_at hl 1 rfl) ?_
          refine lv_lload hx hb d_M_deliver_256 (lv_at hl 0 rfl) ?_
          refine sm_cv (va_runV (As := [.int x1, .int (τ2.1 25 33), .long (τ2.2 26 132), .long (τ2.2 26 133), .long (τ2.2 26 134), .long (τ2.2 26 135)]) (rest := []) ⟨hx, hb, hml, hown, hts⟩ (c_M_take l D α κ hα (xb_si τ2 8 x1.toNatClampNeg ((τ2.1 8 x1.toNatClampNeg) + (1 : Int32))) x1 x1.toNatClampNeg zc1.1 (by omega) (τ2.1 25 33) (τ2.2 26 132) (τ2.2 26 133) (τ2.2 26 134) (τ2.2 26 135) (mk_si okτ2 (by decide))) (cwV 6 hts (xa_V xw1116 xw1118 xs10 xw11 xw1119) rfl rfl rfl (by decide +kernel) ⟨Nat.le_of_ble_eq_true rfl, Nat.le_of_ble_eq_true rfl⟩) ⟨sm_blind, va_recv (q0 := 0) (ci := 9) hK hP rfl rfl, sm_pre hP hK hN _⟩ rfl rfl hl.1 rfl (lv_room (Nat.le_of_ble_eq_true rfl)) d_M_deliver_258 ⟨Nat.le_of_ble_eq_true rfl, Nat.le_of_ble_eq_true rfl⟩) hS (fun _ h_ => h_) (fun H locs hP hS => ?_)
          obtain ⟨τ3, hτ3⟩ : ∃ t_, t_ = (q_take x1.toNatClampNeg (τ2.1 25 33) (τ2.2 26 132) (τ2.2 26 133) (τ2.2 26 134) (τ2.2 26 135) (xb_si τ2 8 x1.toNatClampNeg ((τ2.1 8 x1.toNatClampNeg) + (1 : Int32)))) := ⟨_, rfl⟩
          rw [← hτ3] at hP
          have okτ3 : sm_ok τ3 := by rw [hτ3]; exact (ok_q_take x1.toNatClampNeg (τ2.1 25 33) (τ2.2 26 132) (τ2.2 26 133) (τ2.2 26 134) (τ2.2 26 135) (by omega) (mk_si okτ2 (by decide)))
          refine lv_iload_n hx hb d_M_deliver_261 rfl (lv_at hl 6 rfl) ?_
          exact W.iret (v := (τ2.1 25 33)) hx hb hr (fun t ht_ hW => ⟨⟨(τ2.1 25 33), τ3, rfl, ⟨congrArg Prod.fst (((by subst hτ3; subst hτ2; subst hτ1; exact ((if_neg c1).trans ((if_neg c2).trans ((if_neg c3).trans ((if_pos c4))))).symm)) : ((τ2.1 25 33), τ3) = q_deliver x1 σ), congrArg Prod.snd (((by subst hτ3; subst hτ2; subst hτ1; exact ((if_neg c1).trans ((if_neg c2).trans ((if_neg c3).trans ((if_pos c4))))).symm)) : ((τ2.1 25 33), τ3) = q_deliver x1 σ)⟩, by rw [sm_B, ht_]; exact hP⟩, hS.F ht_⟩) hS.2.2 d_M_deliver_262
        · skip
          refine lv_aload_n hx hb d_M_deliver_107 rfl (lv_at hl 4 rfl) ?_
          refine sm_g (v := .ref (α 26)) hx hb ht hown hK hP 28 (by decide) (ht _ xw980) (fun _ h_ => h_) rfl d_M_deliver_108 ?_
          refine lv_sipush (v := 132) hx hb d_M_deliver_111 (by decide) ?_
          refine lv_iload hx hb d_M_deliver_114 (lv_at hl 0 rfl) ?_
          refine lv_iadd hx hb d_M_deliver_116 ?_
          refine xb_ti (y := (132 : Int32)) (by decide) ?_
          refine lv_dup2_11 hx hb d_M_deliver_117 rfl rfl ?_
          refine sm_gaJ (L := 136) (n := 132) (v := (τ2.2 26 132)) hx hb hK hP 26 25 rfl rfl (xb_in (xb_lit (x := (132 : Int32)) 132 rfl) (by omega) (by decide)) (xb_cl (xb_lit (x := (132 : Int32)) 132 rfl) (by omega)) xb_l_i d_M_deliver_118 ?_
          refine lv_aload_n hx hb d_M_deliver_119 rfl (lv_at hl 4 rfl) ?_
          refine sm_g (v := .ref (α 18)) hx hb ht hown hK hP 20 (by decide) (ht _ xw972) (fun _ h_ => h_) rfl d_M_deliver_120 ?_
          refine lv_iload hx hb d_M_deliver_123 (lv_at hl 1 rfl) ?_
          refine sm_gaJ (L := 4) (n := ((2 * x1.toNatClampNeg) + 1)) (v := (τ2.2 18 ((2 * x1.toNatClampNeg) + 1))) hx hb hK hP 18 17 rfl rfl (xb_in (xb_na (xb_nm (xb_lit (x := (2 : Int32)) 2 rfl) zc1.1) (xb_lit (x := (1 : Int32)) 1 rfl)) (by omega) (by decide)) (xb_cl (xb_na (xb_nm (xb_lit (x := (2 : Int32)) 2 rfl) zc1.1) (xb_lit (x := (1 : Int32)) 1 rfl)) (by omega)) xb_l_i d_M_deliver_125 ?_
          refine lv_aload_n hx hb d_M_deliver_126 rfl (lv_at hl 4 rfl) ?_
          refine sm_g (v := .ref (α 20)) hx hb ht hown hK hP 22 (by decide) (ht _ xw974) (fun _ h_ => h_) rfl d_M_deliver_127 ?_
          refine lv_iload hx hb d_M_deliver_130 (lv_at hl 1 rfl) ?_
          refine sm_gaI (L := 4) (n := ((2 * x1.toNatClampNeg) + 1)) (v := (τ2.1 20 ((2 * x1.toNatClampNeg) + 1))) hx hb hK hP 20 19 rfl rfl (xb_in (xb_na (xb_nm (xb_lit (x := (2 : Int32)) 2 rfl) zc1.1) (xb_lit (x := (1 : Int32)) 1 rfl)) (by omega) (by decide)) (xb_cl (xb_na (xb_nm (xb_lit (x := (2 : Int32)) 2 rfl) zc1.1) (xb_lit (x := (1 : Int32)) 1 rfl)) (by omega)) (xb_i_nk (by decide)) d_M_deliver_132 ?_
          refine lv_iload_n hx hb d_M_deliver_133 rfl (lv_at hl 2 rfl) ?_
          refine lv_iload hx hb d_M_deliver_134 (lv_at hl 0 rfl) ?_
          refine lv_iconst (v := 1) hx hb d_M_deliver_136 (by decide) ?_
          refine lv_iadd hx hb d_M_deliver_137 ?_
          refine xb_ti (y := (1 : Int32)) (by decide) ?_
          refine vp_callSl (W.runS (As := [.long (τ2.2 18 ((2 * x1.toNatClampNeg) + 1)), .int (τ2.1 20 ((2 * x1.toNatClampNeg) + 1)), .int (τ2.1 8 x1.toNatClampNeg), .int (1 : Int32)]) (rest := [.long (τ2.2 26 132), .int (132 : Int32), .ref (α 26)]) ⟨hx, hb, hml, hown, hts⟩ (c_M_mask l (τ2.2 18 ((2 * x1.toNatClampNeg) + 1)) (τ2.1 20 ((2 * x1.toNatClampNeg) + 1)) (τ2.1 8 x1.toNatClampNeg) (1 : Int32)) (cwS 4 hts (xa_S xw1097 xw1098 xw11 xw1099) rfl rfl rfl (by decide +kernel) ⟨Nat.le_of_ble_eq_true rfl, Nat.le_of_ble_eq_true rfl⟩) preEq rfl rfl hl.1 rfl (lv_room (Nat.le_of_ble_eq_true rfl)) d_M_deliver_138 ⟨Nat.le_of_ble_eq_true rfl, Nat.le_of_ble_eq_true rfl⟩) (fun r_ e_ => ?_)
          subst e_
          refine lv_lxor hx hb d_M_deliver_141 ?_
          refine sm_paJ (L := 136) (n := 132) (x := ((τ2.2 26 132) ^^^ (g_mask (τ2.2 18 ((2 * x1.toNatClampNeg) + 1)) (τ2.1 20 ((2 * x1.toNatClampNeg) + 1)) (τ2.1 8 x1.toNatClampNeg) (1 : Int32)))) hx hb hK hP 26 25 rfl rfl hD hS (xb_in (xb_lit (x := (132 : Int32)) 132 rfl) (by omega) (by decide)) (xb_cl (xb_lit (x := (132 : Int32)) 132 rfl) (by omega)) sm_s_26 d_M_deliver_142 (fun H locs hP hS => ?_)
          refine lv_iinc (v := (1 : Int32)) (k := 0) (lv' := [(5, .int (1 : Int32)), (4, .int (((2 : Int32) * x1) + (1 : Int32))), (3, .int (τ2.1 8 x1.toNatClampNeg)), (2, .int (τ2.1 25 33)), (0, .ref (α 0)), (1, .int x1)]) hx hb d_M_deliver_143 hl rfl (by decide) (by decide) rfl (fun ls hl => ?_)
          refine lv_goto (tgt := 91) hx hb d_M_deliver_146 (by decide) ?_
          refine lv_iload hx hb d_M_deliver_91 (lv_at hl 0 rfl) ?_
          refine lv_iconst (v := 4) hx hb d_M_deliver_93 (by decide) ?_
          refine lv_icmp_ge (tgt := 149) hx hb d_M_deliver_94 (by decide) (fun h_ => absurd h_ (by decide)) (fun _ => ?_)
          refine lv_aload_n hx hb d_M_deliver_97 rfl (lv_at hl 4 rfl) ?_
          refine sm_g (v := .ref (α 17)) hx hb ht hown hK hP 19 (by decide) (ht _ xw971) (fun _ h_ => h_) rfl d_M_deliver_98 ?_
          refine lv_iload hx hb d_M_deliver_101 (lv_at hl 1 rfl) ?_
          refine sm_gaZ (L := 4) (n := ((2 * x1.toNatClampNeg) + 1)) (v := (τ2.1 17 ((2 * x1.toNatClampNeg) + 1))) hx hb hK hP 17 16 rfl rfl (xb_in (xb_na (xb_nm (xb_lit (x := (2 : Int32)) 2 rfl) zc1.1) (xb_lit (x := (1 : Int32)) 1 rfl)) (by omega) (by decide)) (xb_cl (xb_na (xb_nm (xb_lit (x := (2 : Int32)) 2 rfl) zc1.1) (xb_lit (x := (1 : Int32)) 1 rfl)) (by omega)) ((xb_i_l).trans ((xb_i_nk (by decide)))) d_M_deliver_103 ?_
          refine lv_if_eq (tgt := 149) hx hb d_M_deliver_104 (by decide) (fun h_ => absurd h_ c4) (fun _ => ?_)
          refine lv_aload_n hx hb d_M_deliver_107 rfl (lv_at hl 4 rfl) ?_
          refine sm_g (v := .ref (α 26)) hx hb ht hown hK hP 28 (by decide) (ht _ xw980) (fun _ h_ => h_) rfl d_M_deliver_108 ?_
          refine lv_sipush (v := 132) hx hb d_M_deliver_111 (by decide) ?_
          refine lv_iload hx hb d_M_deliver_114 (lv_at hl 0 rfl) ?_
          refine lv_iadd hx hb d_M_deliver_116 ?_
          refine xb_ti (y := (133 : Int32)) (by decide) ?_
          refine lv_dup2_11 hx hb d_M_deliver_117 rfl rfl ?_
          refine sm_gaJ (L := 136) (n := 133) (v := (τ2.2 26 133)) hx hb hK hP 26 25 rfl rfl (xb_in (xb_lit (x := (133 : Int32)) 133 rfl) (by omega) (by decide)) (xb_cl (xb_lit (x := (133 : Int32)) 133 rfl) (by omega)) (((xb_l_nj (by decide))).trans (xb_l_i)) d_M_deliver_118 ?_
          refine lv_aload_n hx hb d_M_deliver_119 rfl (lv_at hl 4 rfl) ?_
          refine sm_g (v := .ref (α 18)) hx hb ht hown hK hP 20 (by decide) (ht _ xw972) (fun _ h_ => h_) rfl d_M_deliver_120 ?_
          refine lv_iload hx hb d_M_deliver_123 (lv_at hl 1 rfl) ?_
          refine sm_gaJ (L := 4) (n := ((2 * x1.toNatClampNeg) + 1)) (v := (τ2.2 18 ((2 * x1.toNatClampNeg) + 1))) hx hb hK hP 18 17 rfl rfl (xb_in (xb_na (xb_nm (xb_lit (x := (2 : Int32)) 2 rfl) zc1.1) (xb_lit (x := (1 : Int32)) 1 rfl)) (by omega) (by decide)) (xb_cl (xb_na (xb_nm (xb_lit (x := (2 : Int32)) 2 rfl) zc1.1) (xb_lit (x := (1 : Int32)) 1 rfl)) (by omega)) (((xb_l_nk (by decide))).trans (xb_l_i)) d_M_deliver_125 ?_
          refine lv_aload_n hx hb d_M_deliver_126 rfl (lv_at hl 4 rfl) ?_
          refine sm_g (v := .ref (α 20)) hx hb ht hown hK hP 22 (by decide) (ht _ xw974) (fun _ h_ => h_) rfl d_M_deliver_127 ?_
          refine lv_iload hx hb d_M_deliver_130 (lv_at hl 1 rfl) ?_
          refine sm_gaI (L := 4) (n := ((2 * x1.toNatClampNeg) + 1)) (v := (τ2.1 20 ((2 * x1.toNatClampNeg) + 1))) hx hb hK hP 20 19 rfl rfl (xb_in (xb_na (xb_nm (xb_lit (x := (2 : Int32)) 2 rfl) zc1.1) (xb_lit (x := (1 : Int32)) 1 rfl)) (by omega) (by decide)) (xb_cl (xb_na (xb_nm (xb_lit (x := (2 : Int32)) 2 rfl) zc1.1) (xb_lit (x := (1 : Int32)) 1 rfl)) (by omega)) ((xb_i_l).trans ((xb_i_nk (by decide)))) d_M_deliver_132 ?_
          refine lv_iload_n hx hb d_M_deliver_133 rfl (lv_at hl 2 rfl) ?_
          refine lv_iload hx hb d_M_deliver_134 (lv_at hl 0 rfl) ?_
          refine lv_iconst (v := 1) hx hb d_M_deliver_136 (by decide) ?_
          refine lv_iadd hx hb d_M_deliver_137 ?_
          refine xb_ti (y := (2 : Int32)) (by decide) ?_
          refine vp_callSl (W.runS (As := [.long (τ2.2 18 ((2 * x1.toNatClampNeg) + 1)), .int (τ2.1 20 ((2 * x1.toNatClampNeg) + 1)), .int (τ2.1 8 x1.toNatClampNeg), .int (2 : Int32)]) (rest := [.long (τ2.2 26 133), .int (133 : Int32), .ref (α 26)]) ⟨hx, hb, hml, hown, hts⟩ (c_M_mask l (τ2.2 18 ((2 * x1.toNatClampNeg) + 1)) (τ2.1 20 ((2 * x1.toNatClampNeg) + 1)) (τ2.1 8 x1.toNatClampNeg) (2 : Int32)) (cwS 4 hts (xa_S xw1097 xw1098 xw11 xw1099) rfl rfl rfl (by decide +kernel) ⟨Nat.le_of_ble_eq_true rfl, Nat.le_of_ble_eq_true rfl⟩) preEq rfl rfl hl.1 rfl (lv_room (Nat.le_of_ble_eq_true rfl)) d_M_deliver_138 ⟨Nat.le_of_ble_eq_true rfl, Nat.le_of_ble_eq_true rfl⟩) (fun r_ e_ => ?_)
          subst e_
          refine lv_lxor hx hb d_M_deliver_141 ?_
          refine sm_paJ (L := 136) (n := 133) (x := ((τ2.2 26 133) ^^^ (g_mask (τ2.2 18 ((2 * x1.toNatClampNeg) + 1)) (τ2.1 20 ((2 * x1.toNatClampNeg) + 1)) (τ2.1 8 x1.toNatClampNeg) (2 : Int32)))) hx hb hK hP 26 25 rfl rfl hD hS (xb_in (xb_lit (x := (133 : Int32)) 133 rfl) (by omega) (by decide)) (xb_cl (xb_lit (x := (133 : Int32)) 133 rfl) (by omega)) sm_s_26 d_M_deliver_142 (fun H locs hP hS => ?_)
          refine lv_iinc (v := (2 : Int32)) (k := 0) (lv' := [(5, .int (2 : Int32)), (4, .int (((2 : Int32) * x1) + (1 : Int32))), (3, .int (τ2.1 8 x1.toNatClampNeg)), (2, .int (τ2.1 25 33)), (0, .ref (α 0)), (1, .int x1)]) hx hb d_M_deliver_143 hl rfl (by decide) (by decide) rfl (fun ls hl => ?_)
          refine lv_goto (tgt := 91) hx hb d_M_deliver_146 (by decide) ?_
          refine lv_iload hx hb d_M_deliver_91 (lv_at hl 0 rfl) ?_
          refine lv_iconst (v := 4) hx hb d_M_deliver_93 (by decide) ?_
          refine lv_icmp_ge (tgt := 149) hx hb d_M_deliver_94 (by decide) (fun h_ => absurd h_ (by decide)) (fun _ => ?_)
          refine lv_aload_n hx hb d_M_deliver_97 rfl (lv_at hl 4 rfl) ?_
          refine sm_g (v := .ref (α 17)) hx hb ht hown hK hP 19 (by decide) (ht _ xw971) (fun _ h_ => h_) rfl d_M_deliver_98 ?_
          refine lv_iload hx hb d_M_deliver_101 (lv_at hl 1 rfl) ?_
          refine sm_gaZ (L := 4) (n := ((2 * x1.toNatClampNeg) + 1)) (v := (τ2.1 17 ((2 * x1.toNatClampNeg) + 1))) hx hb hK hP 17 16 rfl rfl (xb_in (xb_na (xb_nm (xb_lit (x := (2 : Int32)) 2 rfl) zc1.1) (xb_lit (x := (1 : Int32)) 1 rfl)) (by omega) (by decide)) (xb_cl (xb_na (xb_nm (xb_lit (x := (2 : Int32)) 2 rfl) zc1.1) (xb_lit (x := (1 : Int32)) 1 rfl)) (by omega)) ((xb_i_l).trans ((xb_i_l).trans ((xb_i_nk (by decide))))) d_M_deliver_103 ?_
          refine lv_if_eq (tgt := 149) hx hb d_M_deliver_104 (by decide) (fun h_ => absurd h_ c4) (fun _ => ?_)
          refine lv_aload_n hx hb d_M_deliver_107 rfl (lv_at hl 4 rfl) ?_
          refine sm_g (v := .ref (α 26)) hx hb ht hown hK hP 28 (by decide) (ht _ xw980) (fun _ h_ => h_) rfl d_M_deliver_108 ?_
          refine lv_sipush (v := 132) hx hb d_M_deliver_111 (by decide) ?_
          refine lv_iload hx hb d_M_deliver_114 (lv_at hl 0 rfl) ?_
          refine lv_iadd hx hb d_M_deliver_116 ?_
          refine xb_ti (y := (134 : Int32)) (by decide) ?_
          refine lv_dup2_11 hx hb d_M_deliver_117 rfl rfl ?_
          refine sm_gaJ (L := 136) (n := 134) (v := (τ2.2 26 134)) hx hb hK hP 26 25 rfl rfl (xb_in (xb_lit (x := (134 : Int32)) 134 rfl) (by omega) (by decide)) (xb_cl (xb_lit (x := (134 : Int32)) 134 rfl) (by omega)) (((xb_l_nj (by decide))).trans (((xb_l_nj (by decide))).trans (xb_l_i))) d_M_deliver_118 ?_
          refine lv_aload_n hx hb d_M_deliver_119 rfl (lv_at hl 4 rfl) ?_
          refine sm_g (v := .ref (α 18)) hx hb ht hown hK hP 20 (by decide) (ht _ xw972) (fun _ h_ => h_) rfl d_M_deliver_120 ?_
          refine lv_iload hx hb d_M_deliver_123 (lv_at hl 1 rfl) ?_
          refine sm_gaJ (L := 4) (n := ((2 * x1.toNatClampNeg) + 1)) (v := (τ2.2 18 ((2 * x1.toNatClampNeg) + 1))) hx hb hK hP 18 17 rfl rfl (xb_in (xb_na (xb_nm (xb_lit (x := (2 : Int32)) 2 rfl) zc1.1) (xb_lit (x := (1 : Int32)) 1 rfl)) (by omega) (by decide)) (xb_cl (xb_na (xb_nm (xb_lit (x := (2 : Int32)) 2 rfl) zc1.1) (xb_lit (x := (1 : Int32)) 1 rfl)) (by omega)) (((xb_l_nk (by decide))).trans (((xb_l_nk (by decide))).trans (xb_l_i))) d_M_deliver_125 ?_
          refine lv_aload_n hx hb d_M_deliver_126 rfl (lv_at hl 4 rfl) ?_
          refine sm_g (v := .ref (α 20)) hx hb ht hown hK hP 22 (by decide) (ht _ xw974) (fun _ h_ => h_) rfl d_M_deliver_127 ?_
          refine lv_iload hx hb d_M_deliver_130 (lv_at hl 1 rfl) ?_
          refine sm_gaI (L := 4) (n := ((2 * x1.toNatClampNeg) + 1)) (v := (τ2.1 20 ((2 * x1.toNatClampNeg) + 1))) hx hb hK hP 20 19 rfl rfl (xb_in (xb_na (xb_nm (xb_lit (x := (2 : Int32)) 2 rfl) zc1.1) (xb_lit (x := (1 : Int32)) 1 rfl)) (by omega) (by decide)) (xb_cl (xb_na (xb_nm (xb_lit (x := (2 : Int32)) 2 rfl) zc1.1) (xb_lit (x := (1 : Int32)) 1 rfl)) (by omega)) ((xb_i_l).trans ((xb_i_l).trans ((xb_i_nk (by decide))))) d_M_deliver_132 ?_
          refine lv_iload_n hx hb d_M_deliver_133 rfl (lv_at hl 2 rfl) ?_
          refine lv_iload hx hb d_M_deliver_134 (lv_at hl 0 rfl) ?_
          refine lv_iconst (v := 1) hx hb d_M_deliver_136 (by decide) ?_
          refine lv_iadd hx hb d_M_deliver_137 ?_
          refine xb_ti (y := (3 : Int32)) (by decide) ?_
          refine vp_callSl (W.runS (As := [.long (τ2.2 18 ((2 * x1.toNatClampNeg) + 1)), .int (τ2.1 20 ((2 * x1.toNatClampNeg) + 1)), .int (τ2.1 8 x1.toNatClampNeg), .int (3 : Int32)]) (rest := [.long (τ2.2 26 134), .int (134 : Int32), .ref (α 26)]) ⟨hx, hb, hml, hown, hts⟩ (c_M_mask l (τ2.2 18 ((2 * x1.toNatClampNeg) + 1)) (τ2.1 20 ((2 * x1.toNatClampNeg) + 1)) (τ2.1 8 x1.toNatClampNeg) (3 : Int32)) (cwS 4 hts (xa_S xw1097 xw1098 xw11 xw1099) rfl rfl rfl (by decide +kernel) ⟨Nat.le_of_ble_eq_true rfl, Nat.le_of_ble_eq_true rfl⟩) preEq rfl rfl hl.1 rfl (lv_room (Nat.le_of_ble_eq_true rfl)) d_M_deliver_138 ⟨Nat.le_of_ble_eq_true rfl, Nat.le_of_ble_eq_true rfl⟩) (fun r_ e_ => ?_)
          subst e_
          refine lv_lxor hx hb d_M_deliver_141 ?_
          refine sm_paJ (L := 136) (n := 134) (x := ((τ2.2 26 134) ^^^ (g_mask (τ2.2 18 ((2 * x1.toNatClampNeg) + 1)) (τ2.1 20 ((2 * x1.toNatClampNeg) + 1)) (τ2.1 8 x1.toNatClampNeg) (3 : Int32)))) hx hb hK hP 26 25 rfl rfl hD hS (xb_in (xb_lit (x := (134 : Int32)) 134 rfl) (by omega) (by decide)) (xb_cl (xb_lit (x := (134 : Int32)) 134 rfl) (by omega)) sm_s_26 d_M_deliver_142 (fun H locs hP hS => ?_)
          refine lv_iinc (v := (3 : Int32)) (k := 0) (lv' := [(5, .int (3 : Int32)), (4, .int (((2 : Int32) * x1) + (1 : Int32))), (3, .int (τ2.1 8 x1.toNatClampNeg)), (2, .int (τ2.1 25 33)), (0, .ref (α 0)), (1, .int x1)]) hx hb d_M_deliver_143 hl rfl (by decide) (by decide) rfl (fun ls hl => ?_)
          refine lv_goto (tgt := 91) hx hb d_M_deliver_146 (by decide) ?_
          refine lv_iload hx hb d_M_deliver_91 (lv_at hl 0 rfl) ?_
          refine lv_iconst (v := 4) hx hb d_M_deliver_93 (by decide) ?_
          refine lv_icmp_ge (tgt := 149) hx hb d_M_deliver_94 (by decide) (fun h_ => absurd h_ (by decide)) (fun _ => ?_)
          refine lv_aload_n hx hb d_M_deliver_97 rfl (lv_at hl 4 rfl) ?_
          refine sm_g (v := .ref (α 17)) hx hb ht hown hK hP 19 (by decide) (ht _ xw971) (fun _ h_ => h_) rfl d_M_deliver_98 ?_
          refine lv_iload hx hb d_M_deliver_101 (lv_at hl 1 rfl) ?_
          refine sm_gaZ (L := 4) (n := ((2 * x1.toNatClampNeg) + 1)) (v := (τ2.1 17 ((2 * x1.toNatClampNeg) + 1))) hx hb hK hP 17 16 rfl rfl (xb_in (xb_na (xb_nm (xb_lit (x := (2 : Int32)) 2 rfl) zc1.1) (xb_lit (x := (1 : Int32)) 1 rfl)) (by omega) (by decide)) (xb_cl (xb_na (xb_nm (xb_lit (x := (2 : Int32)) 2 rfl) zc1.1) (xb_lit (x := (1 : Int32)) 1 rfl)) (by omega)) ((xb_i_l).trans ((xb_i_l).trans ((xb_i_l).trans ((xb_i_nk (by decide)))))) d_M_deliver_103 ?_
          refine lv_if_eq (tgt := 149) hx hb d_M_deliver_104 (by decide) (fun h_ => absurd h_ c4) (fun _ => ?_)
          refine lv_aload_n hx hb d_M_deliver_107 rfl (lv_at hl 4 rfl) ?_
          refine sm_g (v := .ref (α 26)) hx hb ht hown hK hP 28 (by decide) (ht _ xw980) (fun _ h_ => h_) rfl d_M_deliver_108 ?_
          refine lv_sipush (v := 132) hx hb d_M_deliver_111 (by decide) ?_
          refine lv_iload hx hb d_M_deliver_114 (lv_at hl 0 rfl) ?_
          refine lv_iadd hx hb d_M_deliver_116 ?_
          refine xb_ti (y := (135 : Int32)) (by decide) ?_
          refine lv_dup2_11 hx hb d_M_deliver_117 rfl rfl ?_
          refine sm_gaJ (L := 136) (n := 135) (v := (τ2.2 26 135)) hx hb hK hP 26 25 rfl rfl (xb_in (xb_lit (x := (135 : Int32)) 135 rfl) (by omega) (by decide)) (xb_cl (xb_lit (x := (135 : Int32)) 135 rfl) (by omega)) (((xb_l_nj (by decide))).trans (((xb_l_nj (by decide))).trans (((xb_l_nj (by decide))).trans (xb_l_i)))) d_M_deliver_118 ?_
          refine lv_aload_n hx hb d_M_deliver_119 rfl (lv_at hl 4 rfl) ?_
          refine sm_g (v := .ref (α 18)) hx hb ht hown hK hP 20 (by decide) (ht _ xw972) (fun _ h_ => h_) rfl d_M_deliver_120 ?_
          refine lv_iload hx hb d_M_deliver_123 (lv_at hl 1 rfl) ?_
          refine sm_gaJ (L := 4) (n := ((2 * x1.toNatClampNeg) + 1)) (v := (τ2.2 18 ((2 * x1.toNatClampNeg) + 1))) hx hb hK hP 18 17 rfl rfl (xb_in (xb_na (xb_nm (xb_lit (x := (2 : Int32)) 2 rfl) zc1.1) (xb_lit (x := (1 : Int32)) 1 rfl)) (by omega) (by decide)) (xb_cl (xb_na (xb_nm (xb_lit (x := (2 : Int32)) 2 rfl) zc1.1) (xb_lit (x := (1 : Int32)) 1 rfl)) (by omega)) (((xb_l_nk (by decide))).trans (((xb_l_nk (by decide))).trans (((xb_l_nk (by decide))).trans (xb_l_i)))) d_M_deliver_125 ?_
          refine lv_aload_n hx hb d_M_deliver_126 rfl (lv_at hl 4 rfl) ?_
          refine sm_g (v := .ref (α 20)) hx hb ht hown hK hP 22 (by decide) (ht _ xw974) (fun _ h_ => h_) rfl d_M_deliver_127 ?_
          refine lv_iload hx hb d_M_deliver_130 (lv_at hl 1 rfl) ?_
          refine sm_gaI (L := 4) (n := ((2 * x1.toNatClampNeg) + 1)) (v := (τ2.1 20 ((2 * x1.toNatClampNeg) + 1))) hx hb hK hP 20 19 rfl rfl (xb_in (xb_na (xb_nm (xb_lit (x := (2 : Int32)) 2 rfl) zc1.1) (xb_lit (x := (1 : Int32)) 1 rfl)) (by omega) (by decide)) (xb_cl (xb_na (xb_nm (xb_lit (x := (2 : Int32)) 2 rfl) zc1.1) (xb_lit (x := (1 : Int32)) 1 rfl)) (by omega)) ((xb_i_l).trans ((xb_i_l).trans ((xb_i_l).trans ((xb_i_nk (by decide)))))) d_M_deliver_132 ?_
          refine lv_iload_n hx hb d_M_deliver_133 rfl (lv_at hl 2 rfl) ?_
          refine lv_iload hx hb d_M_deliver_134 (lv_at hl 0 rfl) ?_
          refine lv_iconst (v := 1) hx hb d_M_deliver_136 (by decide) ?_
          refine lv_iadd hx hb d_M_deliver_137 ?_
          refine xb_ti (y := (4 : Int32)) (by decide) ?_
          refine vp_callSl (W.runS (As := [.long (τ2.2 18 ((2 * x1.toNatClampNeg) + 1)), .int (τ2.1 20 ((2 * x1.toNatClampNeg) + 1)), .int (τ2.1 8 x1.toNatClampNeg), .int (4 : Int32)]) (rest := [.long (τ2.2 26 135), .int (135 : Int32), .ref (α 26)]) ⟨hx, hb, hml, hown, hts⟩ (c_M_mask l (τ2.2 18 ((2 * x1.toNatClampNeg) + 1)) (τ2.1 20 ((2 * x1.toNatClampNeg) + 1)) (τ2.1 8 x1.toNatClampNeg) (4 : Int32)) (cwS 4 hts (xa_S xw1097 xw1098 xw11 xw1099) rfl rfl rfl (by decide +kernel) ⟨Nat.le_of_ble_eq_true rfl, Nat.le_of_ble_eq_true rfl⟩) preEq rfl rfl hl.1 rfl (lv_room (Nat.le_of_ble_eq_true rfl)) d_M_deliver_138 ⟨Nat.le_of_ble_eq_true rfl, Nat.le_of_ble_eq_true rfl⟩) (fun r_ e_ => ?_)
          subst e_
          refine lv_lxor hx hb d_M_deliver_141 ?_
          refine sm_paJ (L := 136) (n := 135) (x := ((τ2.2 26 135) ^^^ (g_mask (τ2.2 18 ((2 * x1.toNatClampNeg) + 1)) (τ2.1 20 ((2 * x1.toNatClampNeg) + 1)) (τ2.1 8 x1.toNatClampNeg) (4 : Int32)))) hx hb hK hP 26 25 rfl rfl hD hS (xb_in (xb_lit (x := (135 : Int32)) 135 rfl) (by omega) (by decide)) (xb_cl (xb_lit (x := (135 : Int32)) 135 rfl) (by omega)) sm_s_26 d_M_deliver_142 (fun H locs hP hS => ?_)
          refine lv_iinc (v := (4 : Int32)) (k := 0) (lv' := [(5, .int (4 : Int32)), (4, .int (((2 : Int32) * x1) + (1 : Int32))), (3, .int (τ2.1 8 x1.toNatClampNeg)), (2, .int (τ2.1 25 33)), (0, .ref (α 0)), (1, .int x1)]) hx hb d_M_deliver_143 hl rfl (by decide) (by decide) rfl (fun ls hl => ?_)
          refine lv_goto (tgt := 91) hx hb d_M_deliver_146 (by decide) ?_
          refine lv_iload hx hb d_M_deliver_91 (lv_at hl 0 rfl) ?_
          refine lv_iconst (v := 4) hx hb d_M_deliver_93 (by decide) ?_
          refine lv_icmp_ge (tgt := 149) hx hb d_M_deliver_94 (by decide) (fun _ => ?_) (fun h_ => absurd h_ (by decide))
          refine lv_aload_n hx hb d_M_deliver_149 rfl (lv_at hl 4 rfl) ?_
          refine sm_g (v := .ref (α 26)) hx hb ht hown hK hP 28 (by decide) (ht _ xw980) (fun _ h_ => h_) rfl d_M_deliver_150 ?_
          refine lv_sipush (v := 132) hx hb d_M_deliver_153 (by decide) ?_
          refine sm_gaJ (L := 136) (n := 132) (v := ((τ2.2 26 132) ^^^ (g_mask (τ2.2 18 ((2 * x1.toNatClampNeg) + 1)) (τ2.1 20 ((2 * x1.toNatClampNeg) + 1)) (τ2.1 8 x1.toNatClampNeg) (1 : Int32)))) hx hb hK hP 26 25 rfl rfl (xb_in (xb_lit (x := (132 : Int32)) 132 rfl) (by omega) (by decide)) (xb_cl (xb_lit (x := (132 : Int32)) 132 rfl) (by omega)) (((xb_l_nj (by decide))).trans (((xb_l_nj (by decide))).trans (((xb_l_nj (by decide))).trans (xb_l_hit)))) d_M_deliver_156 ?_
          refine lv_lstore (lv' := [(5, .long ((τ2.2 26 132) ^^^ (g_mask (τ2.2 18 ((2 * x1.toNatClampNeg) + 1)) (τ2.1 20 ((2 * x1.toNatClampNeg) + 1)) (τ2.1 8 x1.toNatClampNeg) (1 : Int32)))), (4, .int (((2 : Int32) * x1) + (1 : Int32))), (3, .int (τ2.1 8 x1.toNatClampNeg)), (2, .int (τ2.1 25 33)), (0, .ref (α 0)), (1, .int x1)]) hx hb d_M_deliver_157 hl (by decide) rfl (fun ls hl => ?_)
          refine lv_aload_n hx hb d_M_deliver_159 rfl (lv_at hl 4 rfl) ?_
          refine sm_g (v := .ref (α 26)) hx hb ht hown hK hP 28 (by decide) (ht _ xw980) (fun _ h_ => h_) rfl d_M_deliver_160 ?_
          refine lv_sipush (v := 133) hx hb d_M_deliver_163 (by decide) ?_
          refine sm_gaJ (L := 136) (n := 133) (v := ((τ2.2 26 133) ^^^ (g_mask (τ2.2 18 ((2 * x1.toNatClampNeg) + 1)) (τ2.1 20 ((2 * x1.toNatClampNeg) + 1)) (τ2.1 8 x1.toNatClampNeg) (2 : Int32)))) hx hb hK hP 26 25 rfl rfl (xb_in (xb_lit (x := (133 : Int32)) 133 rfl) (by omega) (by decide)) (xb_cl (xb_lit (x := (133 : Int32)) 133 rfl) (by omega)) (((xb_l_nj (by decide))).trans (((xb_l_nj (by decide))).trans (xb_l_hit))) d_M_deliver_166 ?_
          refine lv_lstore (lv' := [(7, .long ((τ2.2 26 133) ^^^ (g_mask (τ2.2 18 ((2 * x1.toNatClampNeg) + 1)) (τ2.1 20 ((2 * x1.toNatClampNeg) + 1)) (τ2.1 8 x1.toNatClampNeg) (2 : Int32)))), (5, .long ((τ2.2 26 132) ^^^ (g_mask (τ2.2 18 ((2 * x1.toNatClampNeg) + 1)) (τ2.1 20 ((2 * x1.toNatClampNeg) + 1)) (τ2.1 8 x1.toNatClampNeg) (1 : Int32)))), (4, .int (((2 : Int32) * x1) + (1 : Int32))), (3, .int (τ2.1 8 x1.toNatClampNeg)), (2, .int (τ2.1 25 33)), (0, .ref (α 0)), (1, .int x1)]) hx hb d_M_deliver_167 hl (by decide) rfl (fun ls hl => ?_)
          refine lv_aload_n hx hb d_M_deliver_169 rfl (lv_at hl 5 rfl) ?_
          refine sm_g (v := .ref (α 26)) hx hb ht hown hK hP 28 (by decide) (ht _ xw980) (fun _ h_ => h_) rfl d_M_deliver_170 ?_
          refine lv_sipush (v := 134) hx hb d_M_deliver_173 (by decide) ?_
          refine sm_gaJ (L := 136) (n := 134) (v := ((τ2.2 26 134) ^^^ (g_mask (τ2.2 18 ((2 * x1.toNatClampNeg) + 1)) (τ2.1 20 ((2 * x1.toNatClampNeg) + 1)) (τ2.1 8 x1.toNatClampNeg) (3 : Int32)))) hx hb hK hP 26 25 rfl rfl (xb_in (xb_lit (x := (134 : Int32)) 134 rfl) (by omega) (by decide)) (xb_cl (xb_lit (x := (134 : Int32)) 134 rfl) (by omega)) (((xb_l_nj (by decide))).trans (xb_l_hit)) d_M_deliver_176 ?_
          refine lv_lstore (lv' := [(9, .long ((τ2.2 26 134) ^^^ (g_mask (τ2.2 18 ((2 * x1.toNatClampNeg) + 1)) (τ2.1 20 ((2 * x1.toNatClampNeg) + 1)) (τ2.1 8 x1.toNatClampNeg) (3 : Int32)))), (7, .long ((τ2.2 26 133) ^^^ (g_mask (τ2.2 18 ((2 * x1.toNatClampNeg) + 1)) (τ2.1 20 ((2 * x1.toNatClampNeg) + 1)) (τ2.1 8 x1.toNatClampNeg) (2 : Int32)))), (5, .long ((τ2.2 26 132) ^^^ (g_mask (τ2.2 18 ((2 * x1.toNatClampNeg) + 1)) (τ2.1 20 ((2 * x1.toNatClampNeg) + 1)) (τ2.1 8 x1.toNatClampNeg) (1 : Int32)))), (4, .int (((2 : Int32) * x1) + (1 : Int32))), (3, .int (τ2.1 8 x1.toNatClampNeg)), (2, .int (τ2.1 25 33)), (0, .ref (α 0)), (1, .int x1)]) hx hb d_M_deliver_177 hl (by decide) rfl (fun ls hl => ?_)
          refine lv_aload_n hx hb d_M_deliver_179 rfl (lv_at hl 6 rfl) ?_
          refine sm_g (v := .ref (α 26)) hx hb ht hown hK hP 28 (by decide) (ht _ xw980) (fun _ h_ => h_) rfl d_M_deliver_180 ?_
          refine lv_sipush (v := 135) hx hb d_M_deliver_183 (by decide) ?_
          refine sm_gaJ (L := 136) (n := 135) (v := ((τ2.2 26 135) ^^^ (g_mask (τ2.2 18 ((2 * x1.toNatClampNeg) + 1)) (τ2.1 20 ((2 * x1.toNatClampNeg) + 1)) (τ2.1 8 x1.toNatClampNeg) (4 : Int32)))) hx hb hK hP 26 25 rfl rfl (xb_in (xb_lit (x := (135 : Int32)) 135 rfl) (by omega) (by decide)) (xb_cl (xb_lit (x := (135 : Int32)) 135 rfl) (by omega)) xb_l_hit d_M_deliver_186 ?_
          refine lv_lstore (lv' := [(11, .long ((τ2.2 26 135) ^^^ (g_mask (τ2.2 18 ((2 * x1.toNatClampNeg) + 1)) (τ2.1 20 ((2 * x1.toNatClampNeg) + 1)) (τ2.1 8 x1.toNatClampNeg) (4 : Int32)))), (9, .long ((τ2.2 26 134) ^^^ (g_mask (τ2.2 18 ((2 * x1.toNatClampNeg) + 1)) (τ2.1 20 ((2 * x1.toNatClampNeg) + 1)) (τ2.1 8 x1.toNatClampNeg) (3 : Int32)))), (7, .long ((τ2.2 26 133) ^^^ (g_mask (τ2.2 18 ((2 * x1.toNatClampNeg) + 1)) (τ2.1 20 ((2 * x1.toNatClampNeg) + 1)) (τ2.1 8 x1.toNatClampNeg) (2 : Int32)))), (5, .long ((τ2.2 26 132) ^^^ (g_mask (τ2.2 18 ((2 * x1.toNatClampNeg) + 1)) (τ2.1 20 ((2 * x1.toNatClampNeg) + 1)) (τ2.1 8 x1.toNatClampNeg) (1 : Int32)))), (4, .int (((2 : Int32) * x1) + (1 : Int32))), (3, .int (τ2.1 8 x1.toNatClampNeg)), (2, .int (τ2.1 25 33)), (0, .ref (α 0)), (1, .int x1)]) hx hb d_M_deliver_187 hl (by decide) rfl (fun ls hl => ?_)
          refine lv_aload_n hx hb d_M_deliver_189 rfl (lv_at hl 7 rfl) ?_
          refine sm_g (v := .ref (α 17)) hx hb ht hown hK hP 19 (by decide) (ht _ xw971) (fun _ h_ => h_) rfl d_M_deliver_190 ?_
          refine lv_iload hx hb d_M_deliver_193 (lv_at hl 4 rfl) ?_
          refine sm_gaZ (L := 4) (n := ((2 * x1.toNatClampNeg) + 1)) (v := (τ2.1 17 ((2 * x1.toNatClampNeg) + 1))) hx hb hK hP 17 16 rfl rfl (xb_in (xb_na (xb_nm (xb_lit (x := (2 : Int32)) 2 rfl) zc1.1) (xb_lit (x := (1 : Int32)) 1 rfl)) (by omega) (by decide)) (xb_cl (xb_na (xb_nm (xb_lit (x := (2 : Int32)) 2 rfl) zc1.1) (xb_lit (x := (1 : Int32)) 1 rfl)) (by omega)) ((xb_i_l).trans ((xb_i_l).trans ((xb_i_l).trans ((xb_i_l).trans ((xb_i_nk (by decide))))))) d_M_deliver_195 ?_
          refine lv_if_eq (tgt := 247) hx hb d_M_deliver_196 (by decide) (fun h_ => absurd h_ c4) (fun _ => ?_)
          refine lv_aload_n hx hb d_M_deliver_199 rfl (lv_at hl 7 rfl) ?_
          refine sm_g (v := .ref (α 19)) hx hb ht hown hK hP 21 (by decide) (ht _ xw973) (fun _ h_ => h_) rfl d_M_deliver_200 ?_
          refine lv_iload hx hb d_M_deliver_203 (lv_at hl 4 rfl) ?_
          refine sm_gaJ (L := 4) (n := ((2 * x1.toNatClampNeg) + 1)) (v := (τ2.2 19 ((2 * x1.toNatClampNeg) + 1))) hx hb hK hP 19 18 rfl rfl (xb_in (xb_na (xb_nm (xb_lit (x := (2 : Int32)) 2 rfl) zc1.1) (xb_lit (x := (1 : Int32)) 1 rfl)) (by omega) (by decide)) (xb_cl (xb_na (xb_nm (xb_lit (x := (2 : Int32)) 2 rfl) zc1.1) (xb_lit (x := (1 : Int32)) 1 rfl)) (by omega)) (((xb_l_nk (by decide))).trans (((xb_l_nk (by decide))).trans (((xb_l_nk (by decide))).trans (((xb_l_nk (by decide))).trans (xb_l_i))))) d_M_deliver_205 ?_
          refine lv_aload_n hx hb d_M_deliver_206 rfl (lv_at hl 7 rfl) ?_
          refine sm_g (v := .ref (α 21)) hx hb ht hown hK hP 23 (by decide) (ht _ xw975) (fun _ h_ => h_) rfl d_M_deliver_207 ?_
          refine lv_iload hx hb d_M_deliver_210 (lv_at hl 4 rfl) ?_
          refine sm_gaI (L := 4) (n := ((2 * x1.toNatClampNeg) + 1)) (v := (τ2.1 21 ((2 * x1.toNatClampNeg) + 1))) hx hb hK hP 21 20 rfl rfl (xb_in (xb_na (xb_nm (xb_lit (x := (2 : Int32)) 2 rfl) zc1.1) (xb_lit (x := (1 : Int32)) 1 rfl)) (by omega) (by decide)) (xb_cl (xb_na (xb_nm (xb_lit (x := (2 : Int32)) 2 rfl) zc1.1) (xb_lit (x := (1 : Int32)) 1 rfl)) (by omega)) ((xb_i_l).trans ((xb_i_l).trans ((xb_i_l).trans ((xb_i_l).trans ((xb_i_nk (by decide))))))) d_M_deliver_212 ?_
          refine lv_iload_n hx hb d_M_deliver_213 rfl (lv_at hl 5 rfl) ?_
          refine lv_iload_n hx hb d_M_deliver_214 rfl (lv_at hl 6 rfl) ?_
          refine lv_lload hx hb d_M_deliver_215 (lv_at hl 3 rfl) ?_
          refine lv_lload hx hb d_M_deliver_217 (lv_at hl 2 rfl) ?_
          refine lv_lload hx hb d_M_deliver_219 (lv_at hl 1 rfl) ?_
          refine lv_lload hx hb d_M_deliver_221 (lv_at hl 0 rfl) ?_
          refine vp_callSl (W.runS (As := [.long (τ2.2 19 ((2 * x1.toNatClampNeg) + 1)), .int (τ2.1 21 ((2 * x1.toNatClampNeg) + 1)), .int (τ2.1 8 x1.toNatClampNeg), .int (τ2.1 25 33), .long ((τ2.2 26 132) ^^^ (g_mask (τ2.2 18 ((2 * x1.toNatClampNeg) + 1)) (τ2.1 20 ((2 * x1.toNatClampNeg) + 1)) (τ2.1 8 x1.toNatClampNeg) (1 : Int32))), .long ((τ2.2 26 133) ^^^ (g_mask (τ2.2 18 ((2 * x1.toNatClampNeg) + 1)) (τ2.1 20 ((2 * x1.toNatClampNeg) + 1)) (τ2.1 8 x1.toNatClampNeg) (2 : Int32))), .long ((τ2.2 26 134) ^^^ (g_mask (τ2.2 18 ((2 * x1.toNatClampNeg) + 1)) (τ2.1 20 ((2 * x1.toNatClampNeg) + 1)) (τ2.1 8 x1.toNatClampNeg) (3 : Int32))), .long ((τ2.2 26 135) ^^^ (g_mask (τ2.2 18 ((2 * x1.toNatClampNeg) + 1)) (τ2.1 20 ((2 * x1.toNatClampNeg) + 1)) (τ2.1 8 x1.toNatClampNeg) (4 : Int32)))]) (rest := []) ⟨hx, hb, hml, hown, hts⟩ (c_M_tagOf l (τ2.2 19 ((2 * x1.toNatClampNeg) + 1)) (τ2.1 21 ((2 * x1.toNatClampNeg) + 1)) (τ2.1 8 x1.toNatClampNeg) (τ2.1 25 33) ((τ2.2 26 132) ^^^ (g_mask (τ2.2 18 ((2 * x1.toNatClampNeg) + 1)) (τ2.1 20 ((2 * x1.toNatClampNeg) + 1)) (τ2.1 8 x1.toNatClampNeg) (1 : Int32))) ((τ2.2 26 133) ^^^ (g_mask (τ2.2 18 ((2 * x1.toNatClampNeg) + 1)) (τ2.1 20 ((2 * x1.toNatClampNeg) + 1)) (τ2.1 8 x1.toNatClampNeg) (2 : Int32))) ((τ2.2 26 134) ^^^ (g_mask (τ2.2 18 ((2 * x1.toNatClampNeg) + 1)) (τ2.1 20 ((2 * x1.toNatClampNeg) + 1)) (τ2.1 8 x1.toNatClampNeg) (3 : Int32))) ((τ2.2 26 135) ^^^ (g_mask (τ2.2 18 ((2 * x1.toNatClampNeg) + 1)) (τ2.1 20 ((2 * x1.toNatClampNeg) + 1)) (τ2.1 8 x1.toNatClampNeg) (4 : Int32)))) (cwS 8 hts (xa_S xw1088 xw1089 xw11 xw1090) rfl rfl rfl (by decide +kernel) ⟨Nat.le_of_ble_eq_true rfl, Nat.le_of_ble_eq_true rfl⟩) preEq rfl rfl hl.1 rfl (lv_room (Nat.le_of_ble_eq_true rfl)) d_M_deliver_223 ⟨Nat.le_of_ble_eq_true rfl, Nat.le_of_ble_eq_true rfl⟩) (fun r_ e_ => ?_)
          subst e_
          refine lv_aload_n hx hb d_M_deliver_226 rfl (lv_at hl 7 rfl) ?_
          refine sm_g (v := .ref (α 27)) hx hb ht hown hK hP 29 (by decide) (ht _ xw981) (fun _ h_ => h_) rfl d_M_deliver_227 ?_
          refine lv_bipush (v := 33) hx hb d_M_deliver_230 (by decide) ?_
          refine sm_gaJ (L := 34) (n := 33) (v := (τ2.2 27 33)) hx hb hK hP 27 26 rfl rfl (xb_in (xb_lit (x := (33 : Int32)) 33 rfl) (by omega) (by decide)) (xb_cl (xb_lit (x := (33 : Int32)) 33 rfl) (by omega)) (((xb_l_nk (by decide))).trans (((xb_l_nk (by decide))).trans (((xb_l_nk (by decide))).trans (((xb_l_nk (by decide))).trans (xb_l_i))))) d_M_deliver_232 ?_
          refine xb_leq (tgt := 247) hx hb d_M_deliver_233 d_M_deliver_234 (by decide) (fun c5 => ?_) (fun c5 => ?_)
          · skip
            refine lv_aload_n hx hb d_M_deliver_247 rfl (lv_at hl 7 rfl) ?_
            refine lv_iload_n hx hb d_M_deliver_248 rfl (lv_at hl 8 rfl) ?_
            refine lv_iload_n hx hb d_M_deliver_249 rfl (lv_at hl 6 rfl) ?_
            refine lv_lload hx hb d_M_deliver_250 (lv_at hl 3 rfl) ?_
            refine lv_lload hx hb d_M_deliver_252 (lv_at hl 2 rfl) ?_
            refine lv_lload hx hb d_M_deliver_254 (lv_at hl 1 rfl) ?_
            refine lv_lload hx hb d_M_deliver_256 (lv_at hl 0 rfl) ?_
            refine sm_cv (va_runV (As := [.int x1, .int (τ2.1 25 33), .long ((τ2.2 26 132) ^^^ (g_mask (τ2.2 18 ((2 * x1.toNatClampNeg) + 1)) (τ2.1 20 ((2 * x1.toNatClampNeg) + 1)) (τ2.1 8 x1.toNatClampNeg) (1 : Int32))), .long ((τ2.2 26 133) ^^^ (g_mask (τ2.2 18 ((2 * x1.toNatClampNeg) + 1)) (τ2.1 20 ((2 * x1.toNatClampNeg) + 1)) (τ2.1 8 x1.toNatClampNeg) (2 : Int32))), .long ((τ2.2 26 134) ^^^ (g_mask (τ2.2 18 ((2 * x1.toNatClampNeg) + 1)) (τ2.1 20 ((2 * x1.toNatClampNeg) + 1)) (τ2.1 8 x1.toNatClampNeg) (3 : Int32))), .long ((τ2.2 26 135) ^^^ (g_mask (τ2.2 18 ((2 * x1.toNatClampNeg) + 1)) (τ2.1 20 ((2 * x1.toNatClampNeg) + 1)) (τ2.1 8 x1.toNatClampNeg) (4 : Int32)))]) (rest := []) ⟨hx, hb, hml, hown, hts⟩ (c_M_take l D α κ hα (xb_sl (xb_sl (xb_sl (xb_sl (xb_si τ2 8 x1.toNatClampNeg ((τ2.1 8 x1.toNatClampNeg) + (1 : Int32))) 26 132 ((τ2.2 26 132) ^^^ (g_mask (τ2.2 18 ((2 * x1.toNatClampNeg) + 1)) (τ2.1 20 ((2 * x1.toNatClampNeg) + 1)) (τ2.1 8 x1.toNatClampNeg) (1 : Int32)))) 26 133 ((τ2.2 26 133) ^^^ (g_mask (τ2.2 18 ((2 * x1.toNatClampNeg) + 1)) (τ2.1 20 ((2 * x1.toNatClampNeg) + 1)) (τ2.1 8 x1.toNatClampNeg) (2 : Int32)))) 26 134 ((τ2.2 26 134) ^^^ (g_mask (τ2.2 18 ((2 * x1.toNatClampNeg) + 1)) (τ2.1 20 ((2 * x1.toNatClampNeg) + 1)) (τ2.1 8 x1.toNatClampNeg) (3 : Int32)))) 26 135 ((τ2.2 26 135) ^^^ (g_mask (τ2.2 18 ((2 * x1.toNatClampNeg) + 1)) (τ2.1 20 ((2 * x1.toNatClampNeg) + 1)) (τ2.1 8 x1.toNatClampNeg) (4 : Int32)))) x1 x1.toNatClampNeg zc1.1 (by omega) (τ2.1 25 33) ((τ2.2 26 132) ^^^ (g_mask (τ2.2 18 ((2 * x1.toNatClampNeg) + 1)) (τ2.1 20 ((2 * x1.toNatClampNeg) + 1)) (τ2.1 8 x1.toNatClampNeg) (1 : Int32))) ((τ2.2 26 133) ^^^ (g_mask (τ2.2 18 ((2 * x1.toNatClampNeg) + 1)) (τ2.1 20 ((2 * x1.toNatClampNeg) + 1)) (τ2.1 8 x1.toNatClampNeg) (2 : Int32))) ((τ2.2 26 134) ^^^ (g_mask (τ2.2 18 ((2 * x1.toNatClampNeg) + 1)) (τ2.1 20 ((2 * x1.toNatClampNeg) + 1)) (τ2.1 8 x1.toNatClampNeg) (3 : Int32))) ((τ2.2 26 135) ^^^ (g_mask (τ2.2 18 ((2 * x1.toNatClampNeg) + 1)) (τ2.1 20 ((2 * x1.toNatClampNeg) + 1)) (τ2.1 8 x1.toNatClampNeg) (4 : Int32))) (mk_sl (mk_sl (mk_sl (mk_sl (mk_si okτ2 (by decide))))))) (cwV 6 hts (xa_V xw1116 xw1118 xs10 xw11 xw1119) rfl rfl rfl (by decide +kernel) ⟨Nat.le_of_ble_eq_true rfl, Nat.le_of_ble_eq_true rfl⟩) ⟨sm_blind, va_recv (q0 := 0) (ci := 9) hK hP rfl rfl, sm_pre hP hK hN _⟩ rfl rfl hl.1 rfl (lv_room (Nat.le_of_ble_eq_true rfl)) d_M_deliver_258 ⟨Nat.le_of_ble_eq_true rfl, Nat.le_of_ble_eq_true rfl⟩) hS (fun _ h_ => h_) (fun H locs hP hS => ?_)
            obtain ⟨τ4, hτ4⟩ : ∃ t_, t_ = (q_take x1.toNatClampNeg (τ2.1 25 33) ((τ2.2 26 132) ^^^ (g_mask (τ2.2 18 ((2 * x1.toNatClampNeg) + 1)) (τ2.1 20 ((2 * x1.toNatClampNeg) + 1)) (τ2.1 8 x1.toNatClampNeg) (1 : Int32))) ((τ2.2 26 133) ^^^ (g_mask (τ2.2 18 ((2 * x1.toNatClampNeg) + 1)) (τ2.1 20 ((2 * x1.toNatClampNeg) + 1)) (τ2.1 8 x1.toNatClampNeg) (2 : Int32))) ((τ2.2 26 134) ^^^ (g_mask (τ2.2 18 ((2 * x1.toNatClampNeg) + 1)) (τ2.1 20 ((2 * x1.toNatClampNeg) + 1)) (τ2.1 8 x1.toNatClampNeg) (3 : Int32))) ((τ2.2 26 135) ^^^ (g_mask (τ2.2 18 ((2 * x1.toNatClampNeg) + 1)) (τ2.1 20 ((2 * x1.toNatClampNeg) + 1)) (τ2.1 8 x1.toNatClampNeg) (4 : Int32))) (xb_sl (xb_sl (xb_sl (xb_sl (xb_si τ2 8 x1.toNatClampNeg ((τ2.1 8 x1.toNatClampNeg) + (1 : Int32))) 26 132 ((τ2.2 26 132) ^^^ (g_mask (τ2.2 18 ((2 * x1.toNatClampNeg) + 1)) (τ2.1 20 ((2 * x1.toNatClampNeg) + 1)) (τ2.1 8 x1.toNatClampNeg) (1 : Int32)))) 26 133 ((τ2.2 26 133) ^^^ (g_mask (τ2.2 18 ((2 * x1.toNatClampNeg) + 1)) (τ2.1 20 ((2 * x1.toNatClampNeg) + 1)) (τ2.1 8 x1.toNatClampNeg) (2 : Int32)))) 26 134 ((τ2.2 26 134) ^^^ (g_mask (τ2.2 18 ((2 * x1.toNatClampNeg) + 1)) (τ2.1 20 ((2 * x1.toNatClampNeg) + 1)) (τ2.1 8 x1.toNatClampNeg) (3 : Int32)))) 26 135 ((τ2.2 26 135) ^^^ (g_mask (τ2.2 18 ((2 * x1.toNatClampNeg) + 1)) (τ2.1 20 ((2 * x1.toNatClampNeg) + 1)) (τ2.1 8 x1.toNatClampNeg) (4 : Int32))))) := ⟨_, rfl⟩
            rw [← hτ4] at hP
            have okτ4 : sm_ok τ4 := by rw [hτ4]; exact (ok_q_take x1.toNatClampNeg (τ2.1 25 33) ((τ2.2 26 132) ^^^ (g_mask (τ2.2 18 ((2 * x1.toNatClampNeg) + 1)) (τ2.1 20 ((2 * x1.toNatClampNeg) + 1)) (τ2.1 8 x1.toNatClampNeg) (1 : Int32))) ((τ2.2 26 133) ^^^ (g_mask (τ2.2 18 ((2 * x1.toNatClampNeg) + 1)) (τ2.1 20 ((2 * x1.toNatClampNeg) + 1)) (τ2.1 8 x1.toNatClampNeg) (2 : Int32))) ((τ2.2 26 134) ^^^ (g_mask (τ2.2 18 ((2 * x1.toNatClampNeg) + 1)) (τ2.1 20 ((2 * x1.toNatClampNeg) + 1)) (τ2.1 8 x1.toNatClampNeg) (3 : Int32))) ((τ2.2 26 135) ^^^ (g_mask (τ2.2 18 ((2 * x1.toNatClampNeg) + 1)) (τ2.1 20 ((2 * x1.toNatClampNeg) + 1)) (τ2.1 8 x1.toNatClampNeg) (4 : Int32))) (by omega) (mk_sl (mk_sl (mk_sl (mk_sl (mk_si okτ2 (by decide)))))))
            refine lv_iload_n hx hb d_M_deliver_261 rfl (lv_at hl 6 rfl) ?_
            exact W.iret (v := (τ2.1 25 33)) hx hb hr (fun t ht_ hW => ⟨⟨(τ2.1 25 33), τ4, rfl, ⟨congrArg Prod.fst (((by subst hτ4; subst hτ2; subst hτ1; exact ((if_neg c1).trans ((if_neg c2).trans ((if_neg c3).trans ((if_neg c4).trans ((if_pos c5)))))).symm)) : ((τ2.1 25 33), τ4) = q_deliver x1 σ), congrArg Prod.snd (((by subst hτ4; subst hτ2; subst hτ1; exact ((if_neg c1).trans ((if_neg c2).trans ((if_neg c3).trans ((if_neg c4).trans ((if_pos c5)))))).symm)) : ((τ2.1 25 33), τ4) = q_deliver x1 σ)⟩, by rw [sm_B, ht_]; exact hP⟩, hS.F ht_⟩) hS.2.2 d_M_deliver_262
          · skip
            refine lv_aload_n hx hb d_M_deliver_237 rfl (lv_at hl 7 rfl) ?_
            refine lv_iload_n hx hb d_M_deliver_238 rfl (lv_at hl 8 rfl) ?_
            refine lv_ldc2 hx hb hown (ht _ xw951) d_M_deliver_239 ?_
            refine sm_cv (va_runV (As := [.int x1, .long (5 : Int64)]) (rest := []) ⟨hx, hb, hml, hown, hts⟩ (c_M_fail l D α κ hα (xb_sl (xb_sl (xb_sl (xb_sl (xb_si τ2 8 x1.toNatClampNeg ((τ2.1 8 x1.toNatClampNeg) + (1 : Int32))) 26 132 ((τ2.2 26 132) ^^^ (g_mask (τ2.2 18 ((2 * x1.toNatClampNeg) + 1)) (τ2.1 20 ((2 * x1.toNatClampNeg) + 1)) (τ2.1 8 x1.toNatClampNeg) (1 : Int32)))) 26 133 ((τ2.2 26 133) ^^^ (g_mask (τ2.2 18 ((2 * x1.toNatClampNeg) + 1)) (τ2.1 20 ((2 * x1.toNatClampNeg) + 1)) (τ2.1 8 x1.toNatClampNeg) (2 : Int32)))) 26 134 ((τ2.2 26 134) ^^^ (g_mask (τ2.2 18 ((2 * x1.toNatClampNeg) + 1)) (τ2.1 20 ((2 * x1.toNatClampNeg) + 1)) (τ2.1 8 x1.toNatClampNeg) (3 : Int32)))) 26 135 ((τ2.2 26 135) ^^^ (g_mask (τ2.2 18 ((2 * x1.toNatClampNeg) + 1)) (τ2.1 20 ((2 * x1.toNatClampNeg) + 1)) (τ2.1 8 x1.toNatClampNeg) (4 : Int32)))) x1 x1.toNatClampNeg zc1.1 (by omega) (5 : Int64) (mk_sl (mk_sl (mk_sl (mk_sl (mk_si okτ2 (by decide))))))) (cwV 2 hts (xa_V xw1112 xw1114 xs9 xw11 xw1115) rfl rfl rfl (by decide +kernel) ⟨Nat.le_of_ble_eq_true rfl, Nat.le_of_ble_eq_true rfl⟩) ⟨sm_blind, va_recv (q0 := 0) (ci := 9) hK hP rfl rfl, sm_pre hP hK hN _⟩ rfl rfl hl.1 rfl (lv_room (Nat.le_of_ble_eq_true rfl)) d_M_deliver_242 ⟨Nat.le_of_ble_eq_true rfl, Nat.le_of_ble_eq_true rfl⟩) hS (fun _ h_ => h_) (fun H locs hP hS => ?_)
            obtain ⟨τ5, hτ5⟩ : ∃ t_, t_ = (q_fail x1.toNatClampNeg (5 : Int64) (xb_sl (xb_sl (xb_sl (xb_sl (xb_si τ2 8 x1.toNatClampNeg ((τ2.1 8 x1.toNatClampNeg) + (1 : Int32))) 26 132 ((τ2.2 26 132) ^^^ (g_mask (τ2.2 18 ((2 * x1.toNatClampNeg) + 1)) (τ2.1 20 ((2 * x1.toNatClampNeg) + 1)) (τ2.1 8 x1.toNatClampNeg) (1 : Int32)))) 26 133 ((τ2.2 26 133) ^^^ (g_mask (τ2.2 18 ((2 * x1.toNatClampNeg) + 1)) (τ2.1 20 ((2 * x1.toNatClampNeg) + 1)) (τ2.1 8 x1.toNatClampNeg) (2 : Int32)))) 26 134 ((τ2.2 26 134) ^^^ (g_mask (τ2.2 18 ((2 * x1.toNatClampNeg) + 1)) (τ2.1 20 ((2 * x1.toNatClampNeg) + 1)) (τ2.1 8 x1.toNatClampNeg) (3 : Int32)))) 26 135 ((τ2.2 26 135) ^^^ (g_mask (τ2.2 18 ((2 * x1.toNatClampNeg) + 1)) (τ2.1 20 ((2 * x1.toNatClampNeg) + 1)) (τ2.1 8 x1.toNatClampNeg) (4 : Int32))))) := ⟨_, rfl⟩
            rw [← hτ5] at hP
            have okτ5 : sm_ok τ5 := by rw [hτ5]; exact (ok_q_fail x1.toNatClampNeg (5 : Int64) (by omega) (mk_sl (mk_sl (mk_sl (mk_sl (mk_si okτ2 (by decide)))))))
            refine lv_iload_n hx hb d_M_deliver_245 rfl (lv_at hl 6 rfl) ?_
            exact W.iret (v := (τ2.1 25 33)) hx hb hr (fun t ht_ hW => ⟨⟨(τ2.1 25 33), τ5, rfl, ⟨congrArg Prod.fst (((by subst hτ5; subst hτ2; subst hτ1; exact ((if_neg c1).trans ((if_neg c2).trans ((if_neg c3).trans ((if_neg c4).trans ((if_neg c5)))))).symm)) : ((τ2.1 25 33), τ5) = q_deliver x1 σ), congrArg Prod.snd (((by subst hτ5; subst hτ2; subst hτ1; exact ((if_neg c1).trans ((if_neg c2).trans ((if_neg c3).trans ((if_neg c4).trans ((if_neg c5)))))).symm)) : ((τ2.1 25 33), τ5) = q_deliver x1 σ)⟩, by rw [sm_B, ht_]; exact hP⟩, hS.F ht_⟩) hS.2.2 d_M_deliver_246
      · skip
        refine lv_iconst (v := -1) hx hb d_M_deliver_62 (by decide) ?_
        exact W.iret (v := (-1 : Int32)) hx hb hr (fun t ht_ hW => ⟨⟨(-1 : Int32), τ2, rfl, ⟨congrArg Prod.fst (((by subst hτ2; subst hτ1; exact ((if_neg c1).trans ((if_neg c2).trans ((if_pos c3)))).symm)) : ((-1 : Int32), τ2) = q_deliver x1 σ), congrArg Prod.snd (((by subst hτ2; subst hτ1; exact ((if_neg c1).trans ((if_neg c2).trans ((if_pos c3)))).symm)) : ((-1 : Int32), τ2) = q_deliver x1 σ)⟩, by rw [sm_B, ht_]; exact hP⟩, hS.F ht_⟩) hS.2.2 d_M_deliver_63
    · skip
      refine lv_iconst (v := 0) hx hb d_M_deliver_27 (by decide) ?_
      exact W.iret (v := (0 : Int32)) hx hb hr (fun t ht_ hW => ⟨⟨(0 : Int32), (xb_si σ 0 0 (0 : Int32)), rfl, ⟨congrArg Prod.fst ((((if_neg c1).trans ((if_pos c2))).symm) : ((0 : Int32), (xb_si σ 0 0 (0 : Int32))) = q_deliver x1 σ), congrArg Prod.snd ((((if_neg c1).trans ((if_pos c2))).symm) : ((0 : Int32), (xb_si σ 0 0 (0 : Int32))) = q_deliver x1 σ)⟩, by rw [sm_B, ht_]; exact hP⟩, hS.F ht_⟩) hS.2.2 d_M_deliver_28
  · skip
    refine lv_aload_n hx hb d_M_deliver_7 rfl (lv_at hl 0 rfl) ?_
    refine lv_iconst (v := 1) hx hb d_M_deliver_8 (by decide) ?_
    refine sm_ci (va_runV (As := [.int (1 : Int32)]) (rest := []) ⟨hx, hb, hml, hown, hts⟩ (c_M_raise l D α κ hα σ (1 : Int32)) (cwV 1 hts (xa_V xw1076 xw1078 xs4 xw11 xw1079) rfl rfl rfl (by decide +kernel) ⟨Nat.le_of_ble_eq_true rfl, Nat.le_of_ble_eq_true rfl⟩) ⟨sm_blind, va_recv (q0 := 0) (ci := 9) hK hP rfl rfl, sm_pre hP hK hN _⟩ rfl rfl hl.1 rfl (lv_room (Nat.le_of_ble_eq_true rfl)) d_M_deliver_9 ⟨Nat.le_of_ble_eq_true rfl, Nat.le_of_ble_eq_true rfl⟩) hS (fun _ h_ => h_) (fun H locs hP hS => ?_)
    obtain ⟨τ6, hτ6⟩ : ∃ t_, t_ = (q_raise (1 : Int32) σ).2 := ⟨_, rfl⟩
    rw [← hτ6] at hP
    have okτ6 : sm_ok τ6 := by rw [hτ6]; exact (ok_q_raise (1 : Int32)  ok)
    obtain ⟨ρ6, hρ6⟩ : ∃ r_, r_ = (q_raise (1 : Int32) σ).1 := ⟨_, rfl⟩
    refine xb_ti (y := ρ6) hρ6.symm ?_
    exact W.iret (v := ρ6) hx hb hr (fun t ht_ hW => ⟨⟨ρ6, τ6, rfl, ⟨congrArg Prod.fst (((by subst hρ6; subst hτ6; exact ((if_pos c1)).symm)) : (ρ6, τ6) = q_deliver x1 σ), congrArg Prod.snd (((by subst hρ6; subst hτ6; exact ((if_pos c1)).symm)) : (ρ6, τ6) = q_deliver x1 σ)⟩, by rw [sm_B, ht_]; exact hP⟩, hS.F ht_⟩) hS.2.2 d_M_deliver_12
theorem ok_q_deliver {σ : xb_St} (x1 : Int32)  (ok : sm_ok σ) : sm_ok (q_deliver x1 σ).2 := by
  unfold q_deliver
  by_cases c1 : (g_isEnd x1) = 0
  · rw [if_pos c1]
    exact (ok_q_raise (1 : Int32)  ok)
  · rw [if_neg c1]
    have zc1 := sm_end c1
    by_cases c2 : (σ.1 24 x1.toNatClampNeg) = 0
    · rw [if_pos c2]
      exact (mk_si ok (by decide))
    · rw [if_neg c2]
      by_cases c3 : ((q_drop x1.toNatClampNeg (q_copy (16 * x1.toNatClampNeg) 33 (xb_si σ 0 0 (0 : Int32)))).1 4 x1.toNatClampNeg) = (5 : Int32)
      · rw [if_pos c3]
        exact (ok_q_drop x1.toNatClampNeg (by omega) (by first | exact c2 | (subst hτ1; exact c2)) (ok_q_copy (16 * x1.toNatClampNeg) 33 (by omega) (by omega) (mk_si ok (by decide))))
      · rw [if_neg c3]
        by_cases c4 : ((q_drop x1.toNatClampNeg (q_copy (16 * x1.toNatClampNeg) 33 (xb_si σ 0 0 (0 : Int32)))).1 17 ((2 * x1.toNatClampNeg) + 1)) = 0
        · rw [if_pos c4]
          exact (ok_q_take x1.toNatClampNeg ((q_drop x1.toNatClampNeg (q_copy (16 * x1.toNatClampNeg) 33 (xb_si σ 0 0 (0 : Int32)))).1 25 33) ((q_drop x1.toNatClampNeg (q_copy (16 * x1.toNatClampNeg) 33 (xb_si σ 0 0 (0 : Int32)))).2 26 132) ((q_drop x1.toNatClampNeg (q_copy (16 * x1.toNatClampNeg) 33 (xb_si σ 0 0 (0 : Int32)))).2 26 133) ((q_drop x1.toNatClampNeg (q_copy (16 * x1.toNatClampNeg) 33 (xb_si σ 0 0 (0 : Int32)))).2 26 134) ((q_drop x1.toNatClampNeg (q_copy (16 * x1.toNatClampNeg) 33 (xb_si σ 0 0 (0 : Int32)))).2 26 135) (by omega) (mk_si (ok_q_drop x1.toNatClampNeg (by omega) (by first | exact c2 | (subst hτ1; exact c2)) (ok_q_copy (16 * x1.toNatClampNeg) 33 (by omega) (by omega) (mk_si ok (by decide)))) (by decide)))
        · rw [if_neg c4]
          by_cases c5 : (g_tagOf ((q_drop x1.toNatClampNeg (q_copy (16 * x1.toNatClampNeg) 33 (xb_si σ 0 0 (0 : Int32)))).2 19 ((2 * x1.toNatClampNeg) + 1)) ((q_drop x1.toNatClampNeg (q_copy (16 * x1.toNatClampNeg) 33 (xb_si σ 0 0 (0 : Int32)))).1 21 ((2 * x1.toNatClampNeg) + 1)) ((q_drop x1.toNatClampNeg (q_copy (16 * x1.toNatClampNeg) 33 (xb_si σ 0 0 (0 : Int32)))).1 8 x1.toNatClampNeg) ((q_drop x1.toNatClampNeg (q_copy (16 * x1.toNatClampNeg) 33 (xb_si σ 0 0 (0 : Int32)))).1 25 33) (((q_drop x1.toNatClampNeg (q_copy (16 * x1.toNatClampNeg) 33 (xb_si σ 0 0 (0 : Int32)))).2 26 132) ^^^ (g_mask ((q_drop x1.toNatClampNeg (q_copy (16 * x1.toNatClampNeg) 33 (xb_si σ 0 0 (0 : Int32)))).2 18 ((2 * x1.toNatClampNeg) + 1)) ((q_drop x1.toNatClampNeg (q_copy (16 * x1.toNatClampNeg) 33 (xb_si σ 0 0 (0 : Int32)))).1 20 ((2 * x1.toNatClampNeg) + 1)) ((q_drop x1.toNatClampNeg (q_copy (16 * x1.toNatClampNeg) 33 (xb_si σ 0 0 (0 : Int32)))).1 8 x1.toNatClampNeg) (1 : Int32))) (((q_drop x1.toNatClampNeg (q_copy (16 * x1.toNatClampNeg) 33 (xb_si σ 0 0 (0 : Int32)))).2 26 133) ^^^ (g_mask ((q_drop x1.toNatClampNeg (q_copy (16 * x1.toNatClampNeg) 33 (xb_si σ 0 0 (0 : Int32)))).2 18 ((2 * x1.toNatClampNeg) + 1)) ((q_drop x1.toNatClampNeg (q_copy (16 * x1.toNatClampNeg) 33 (xb_si σ 0 0 (0 : Int32)))).1 20 ((2 * x1.toNatClampNeg) + 1)) ((q_drop x1.toNatClampNeg (q_copy (16 * x1.toNatClampNeg) 33 (xb_si σ 0 0 (0 : Int32)))).1 8 x1.toNatClampNeg) (2 : Int32))) (((q_drop x1.toNatClampNeg (q_copy (16 * x1.toNatClampNeg) 33 (xb_si σ 0 0 (0 : Int32)))).2 26 134) ^^^ (g_mask ((q_drop x1.toNatClampNeg (q_copy (16 * x1.toNatClampNeg) 33 (xb_si σ 0 0 (0 : Int32)))).2 18 ((2 * x1.toNatClampNeg) + 1)) ((q_drop x1.toNatClampNeg (q_copy (16 * x1.toNatClampNeg) 33 (xb_si σ 0 0 (0 : Int32)))).1 20 ((2 * x1.toNatClampNeg) + 1)) ((q_drop x1.toNatClampNeg (q_copy (16 * x1.toNatClampNeg) 33 (xb_si σ 0 0 (0 : Int32)))).1 8 x1.toNatClampNeg) (3 : Int32))) (((q_drop x1.toNatClampNeg (q_copy (16 * x1.toNatClampNeg) 33 (xb_si σ 0 0 (0 : Int32)))).2 26 135) ^^^ (g_mask ((q_drop x1.toNatClampNeg (q_copy (16 * x1.toNatClampNeg) 33 (xb_si σ 0 0 (0 : Int32)))).2 18 ((2 * x1.toNatClampNeg) + 1)) ((q_drop x1.toNatClampNeg (q_copy (16 * x1.toNatClampNeg) 33 (xb_si σ 0 0 (0 : Int32)))).1 20 ((2 * x1.toNatClampNeg) + 1)) ((q_drop x1.toNatClampNeg (q_copy (16 * x1.toNatClampNeg) 33 (xb_si σ 0 0 (0 : Int32)))).1 8 x1.toNatClampNeg) (4 : Int32)))) = ((q_drop x1.toNatClampNeg (q_copy (16 * x1.toNatClampNeg) 33 (xb_si σ 0 0 (0 : Int32)))).2 27 33)
          · rw [if_pos c5]
            exact (ok_q_take x1.toNatClampNeg ((q_drop x1.toNatClampNeg (q_copy (16 * x1.toNatClampNeg) 33 (xb_si σ 0 0 (0 : Int32)))).1 25 33) (((q_drop x1.toNatClampNeg (q_copy (16 * x1.toNatClampNeg) 33 (xb_si σ 0 0 (0 : Int32)))).2 26 132) ^^^ (g_mask ((q_drop x1.toNatClampNeg (q_copy (16 * x1.toNatClampNeg) 33 (xb_si σ 0 0 (0 : Int32)))).2 18 ((2 * x1.toNatClampNeg) + 1)) ((q_drop x1.toNatClampNeg (q_copy (16 * x1.toNatClampNeg) 33 (xb_si σ 0 0 (0 : Int32)))).1 20 ((2 * x1.toNatClampNeg) + 1)) ((q_drop x1.toNatClampNeg (q_copy (16 * x1.toNatClampNeg) 33 (xb_si σ 0 0 (0 : Int32)))).1 8 x1.toNatClampNeg) (1 : Int32))) (((q_drop x1.toNatClampNeg (q_copy (16 * x1.toNatClampNeg) 33 (xb_si σ 0 0 (0 : Int32)))).2 26 133) ^^^ (g_mask ((q_drop x1.toNatClampNeg (q_copy (16 * x1.toNatClampNeg) 33 (xb_si σ 0 0 (0 : Int32)))).2 18 ((2 * x1.toNatClampNeg) + 1)) ((q_drop x1.toNatClampNeg (q_copy (16 * x1.toNatClampNeg) 33 (xb_si σ 0 0 (0 : Int32)))).1 20 ((2 * x1.toNatClampNeg) + 1)) ((q_drop x1.toNatClampNeg (q_copy (16 * x1.toNatClampNeg) 33 (xb_si σ 0 0 (0 : Int32)))).1 8 x1.toNatClampNeg) (2 : Int32))) (((q_drop x1.toNatClampNeg (q_copy (16 * x1.toNatClampNeg) 33 (xb_si σ 0 0 (0 : Int32)))).2 26 134) ^^^ (g_mask ((q_drop x1.toNatClampNeg (q_copy (16 * x1.toNatClampNeg) 33 (xb_si σ 0 0 (0 : Int32)))).2 18 ((2 * x1.toNatClampNeg) + 1)) ((q_drop x1.toNatClampNeg (q_copy (16 * x1.toNatClampNeg) 33 (xb_si σ 0 0 (0 : Int32)))).1 20 ((2 * x1.toNatClampNeg) + 1)) ((q_drop x1.toNatClampNeg (q_copy (16 * x1.toNatClampNeg) 33 (xb_si σ 0 0 (0 : Int32)))).1 8 x1.toNatClampNeg) (3 : Int32))) (((q_drop x1.toNatClampNeg (q_copy (16 * x1.toNatClampNeg) 33 (xb_si σ 0 0 (0 : Int32)))).2 26 135) ^^^ (g_mask ((q_drop x1.toNatClampNeg (q_copy (16 * x1.toNatClampNeg) 33 (xb_si σ 0 0 (0 : Int32)))).2 18 ((2 * x1.toNatClampNeg) + 1)) ((q_drop x1.toNatClampNeg (q_copy (16 * x1.toNatClampNeg) 33 (xb_si σ 0 0 (0 : Int32)))).1 20 ((2 * x1.toNatClampNeg) + 1)) ((q_drop x1.toNatClampNeg (q_copy (16 * x1.toNatClampNeg) 33 (xb_si σ 0 0 (0 : Int32)))).1 8 x1.toNatClampNeg) (4 : Int32))) (by omega) (mk_sl (mk_sl (mk_sl (mk_sl (mk_si (ok_q_drop x1.toNatClampNeg (by omega) (by first | exact c2 | (subst hτ1; exact c2)) (ok_q_copy (16 * x1.toNatClampNeg) 33 (by omega) (by omega) (mk_si ok (by decide)))) (by decide)))))))
          · rw [if_neg c5]
            exact (ok_q_fail x1.toNatClampNeg (5 : Int64) (by omega) (mk_sl (mk_sl (mk_sl (mk_sl (mk_si (ok_q_drop x1.toNatClampNeg (by omega) (by first | exact c2 | (subst hτ1; exact c2)) (ok_q_copy (16 * x1.toNatClampNeg) 33 (by omega) (by omega) (mk_si ok (by decide)))) (by decide)))))))
