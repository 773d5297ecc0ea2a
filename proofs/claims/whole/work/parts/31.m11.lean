abbrev b_M_read : ByteArray := prog_12_method_36_code
def y_M_read : MethodName := ⟨"SecurePairModel", "read", "(II)I"⟩
abbrev w_M_read : List Cond := .code y_M_read b_M_read 6 (some .int) :: xa
theorem d_M_read_0 : decode b_M_read 0 = .ok (.iload_n 1, 1) := by decide +kernel
theorem d_M_read_1 : decode b_M_read 1 = .ok (.iload_n 2, 1) := by decide +kernel
theorem d_M_read_2 : decode b_M_read 2 = .ok (.invokestatic 260, 3) := by decide +kernel
theorem d_M_read_5 : decode b_M_read 5 = .ok (.ifCond .ne 9, 3) := by decide +kernel
theorem d_M_read_8 : decode b_M_read 8 = .ok (.aload_n 0, 1) := by decide +kernel
theorem d_M_read_9 : decode b_M_read 9 = .ok (.iconst 1, 1) := by decide +kernel
theorem d_M_read_10 : decode b_M_read 10 = .ok (.invokevirtual 173, 3) := by decide +kernel
theorem d_M_read_13 : decode b_M_read 13 = .ok (.ireturn, 1) := by decide +kernel
theorem d_M_read_14 : decode b_M_read 14 = .ok (.aload_n 0, 1) := by decide +kernel
theorem d_M_read_15 : decode b_M_read 15 = .ok (.iconst 0, 1) := by decide +kernel
theorem d_M_read_16 : decode b_M_read 16 = .ok (.putfield 120, 3) := by decide +kernel
theorem d_M_read_19 : decode b_M_read 19 = .ok (.iconst 3, 1) := by decide +kernel
theorem d_M_read_20 : decode b_M_read 20 = .ok (.iload_n 1, 1) := by decide +kernel
theorem d_M_read_21 : decode b_M_read 21 = .ok (.imul, 1) := by decide +kernel
theorem d_M_read_22 : decode b_M_read 22 = .ok (.iload_n 2, 1) := by decide +kernel
theorem d_M_read_23 : decode b_M_read 23 = .ok (.iadd, 1) := by decide +kernel
theorem d_M_read_24 : decode b_M_read 24 = .ok (.istore_n 3, 1) := by decide +kernel
theorem d_M_read_25 : decode b_M_read 25 = .ok (.iconst (-1), 1) := by decide +kernel
theorem d_M_read_26 : decode b_M_read 26 = .ok (.istore 4, 2) := by decide +kernel
theorem d_M_read_28 : decode b_M_read 28 = .ok (.aload_n 0, 1) := by decide +kernel
theorem d_M_read_29 : decode b_M_read 29 = .ok (.getfield 111, 3) := by decide +kernel
theorem d_M_read_32 : decode b_M_read 32 = .ok (.iload_n 3, 1) := by decide +kernel
theorem d_M_read_33 : decode b_M_read 33 = .ok (.iaload, 1) := by decide +kernel
theorem d_M_read_34 : decode b_M_read 34 = .ok (.ifCond .le 80, 3) := by decide +kernel
theorem d_M_read_37 : decode b_M_read 37 = .ok (.aload_n 0, 1) := by decide +kernel
theorem d_M_read_38 : decode b_M_read 38 = .ok (.getfield 117, 3) := by decide +kernel
theorem d_M_read_41 : decode b_M_read 41 = .ok (.bipush 32, 2) := by decide +kernel
theorem d_M_read_43 : decode b_M_read 43 = .ok (.iload_n 3, 1) := by decide +kernel
theorem d_M_read_44 : decode b_M_read 44 = .ok (.imul, 1) := by decide +kernel
theorem d_M_read_45 : decode b_M_read 45 = .ok (.iaload, 1) := by decide +kernel
theorem d_M_read_46 : decode b_M_read 46 = .ok (.istore 4, 2) := by decide +kernel
theorem d_M_read_48 : decode b_M_read 48 = .ok (.aload_n 0, 1) := by decide +kernel
theorem d_M_read_49 : decode b_M_read 49 = .ok (.getfield 111, 3) := by decide +kernel
theorem d_M_read_52 : decode b_M_read 52 = .ok (.iload_n 3, 1) := by decide +kernel
theorem d_M_read_53 : decode b_M_read 53 = .ok (.dup2, 1) := by decide +kernel
theorem d_M_read_54 : decode b_M_read 54 = .ok (.iaload, 1) := by decide +kernel
theorem d_M_read_55 : decode b_M_read 55 = .ok (.iconst 1, 1) := by decide +kernel
theorem d_M_read_56 : decode b_M_read 56 = .ok (.isub, 1) := by decide +kernel
theorem d_M_read_57 : decode b_M_read 57 = .ok (.iastore, 1) := by decide +kernel
theorem d_M_read_58 : decode b_M_read 58 = .ok (.aload_n 0, 1) := by decide +kernel
theorem d_M_read_59 : decode b_M_read 59 = .ok (.getfield 114, 3) := by decide +kernel
theorem d_M_read_62 : decode b_M_read 62 = .ok (.iload_n 3, 1) := by decide +kernel
theorem d_M_read_63 : decode b_M_read 63 = .ok (.dup2, 1) := by decide +kernel
theorem d_M_read_64 : decode b_M_read 64 = .ok (.iaload, 1) := by decide +kernel
theorem d_M_read_65 : decode b_M_read 65 = .ok (.iconst 1, 1) := by decide +kernel
theorem d_M_read_66 : decode b_M_read 66 = .ok (.iadd, 1) := by decide +kernel
theorem d_M_read_67 : decode b_M_read 67 = .ok (.iastore, 1) := by decide +kernel
theorem d_M_read_68 : decode b_M_read 68 = .ok (.iconst 0, 1) := by decide +kernel
theorem d_M_read_69 : decode b_M_read 69 = .ok (.istore 5, 2) := by decide +kernel
theorem d_M_read_71 : decode b_M_read 71 = .ok (.iload 5, 2) := by decide +kernel
theorem d_M_read_73 : decode b_M_read 73 = .ok (.aload_n 0, 1) := by decide +kernel
theorem d_M_read_74 : decode b_M_read 74 = .ok (.getfield 111, 3) := by decide +kernel
theorem d_M_read_77 : decode b_M_read 77 = .ok (.iload_n 3, 1) := by decide +kernel
theorem d_M_read_78 : decode b_M_read 78 = .ok (.iaload, 1) := by decide +kernel
theorem d_M_read_79 : decode b_M_read 79 = .ok (.if_icmp .ge 35, 3) := by decide +kernel
theorem d_M_read_82 : decode b_M_read 82 = .ok (.aload_n 0, 1) := by decide +kernel
theorem d_M_read_83 : decode b_M_read 83 = .ok (.getfield 117, 3) := by decide +kernel
theorem d_M_read_86 : decode b_M_read 86 = .ok (.bipush 32, 2) := by decide +kernel
theorem d_M_read_88 : decode b_M_read 88 = .ok (.iload_n 3, 1) := by decide +kernel
theorem d_M_read_89 : decode b_M_read 89 = .ok (.imul, 1) := by decide +kernel
theorem d_M_read_90 : decode b_M_read 90 = .ok (.iload 5, 2) := by decide +kernel
theorem d_M_read_92 : decode b_M_read 92 = .ok (.iadd, 1) := by decide +kernel
theorem d_M_read_93 : decode b_M_read 93 = .ok (.aload_n 0, 1) := by decide +kernel
theorem d_M_read_94 : decode b_M_read 94 = .ok (.getfield 117, 3) := by decide +kernel
theorem d_M_read_97 : decode b_M_read 97 = .ok (.bipush 32, 2) := by decide +kernel
theorem d_M_read_99 : decode b_M_read 99 = .ok (.iload_n 3, 1) := by decide +kernel
theorem d_M_read_100 : decode b_M_read 100 = .ok (.imul, 1) := by decide +kernel
theorem d_M_read_101 : decode b_M_read 101 = .ok (.iload 5, 2) := by decide +kernel
theorem d_M_read_103 : decode b_M_read 103 = .ok (.iadd, 1) := by decide +kernel
theorem d_M_read_104 : decode b_M_read 104 = .ok (.iconst 1, 1) := by decide +kernel
theorem d_M_read_105 : decode b_M_read 105 = .ok (.iadd, 1) := by decide +kernel
theorem d_M_read_106 : decode b_M_read 106 = .ok (.iaload, 1) := by decide +kernel
theorem d_M_read_107 : decode b_M_read 107 = .ok (.iastore, 1) := by decide +kernel
theorem d_M_read_108 : decode b_M_read 108 = .ok (.iinc 5 1, 3) := by decide +kernel
theorem d_M_read_111 : decode b_M_read 111 = .ok (.goto (-40), 3) := by decide +kernel
theorem d_M_read_114 : decode b_M_read 114 = .ok (.aload_n 0, 1) := by decide +kernel
theorem d_M_read_115 : decode b_M_read 115 = .ok (.getfield 25, 3) := by decide +kernel
theorem d_M_read_118 : decode b_M_read 118 = .ok (.iload_n 1, 1) := by decide +kernel
theorem d_M_read_119 : decode b_M_read 119 = .ok (.iaload, 1) := by decide +kernel
theorem d_M_read_120 : decode b_M_read 120 = .ok (.iconst 4, 1) := by decide +kernel
theorem d_M_read_121 : decode b_M_read 121 = .ok (.if_icmp .ne 68, 3) := by decide +kernel
theorem d_M_read_124 : decode b_M_read 124 = .ok (.aload_n 0, 1) := by decide +kernel
theorem d_M_read_125 : decode b_M_read 125 = .ok (.getfield 99, 3) := by decide +kernel
theorem d_M_read_128 : decode b_M_read 128 = .ok (.iload_n 3, 1) := by decide +kernel
theorem d_M_read_129 : decode b_M_read 129 = .ok (.iaload, 1) := by decide +kernel
theorem d_M_read_130 : decode b_M_read 130 = .ok (.iconst 2, 1) := by decide +kernel
theorem d_M_read_131 : decode b_M_read 131 = .ok (.if_icmp .ne 58, 3) := by decide +kernel
theorem d_M_read_134 : decode b_M_read 134 = .ok (.aload_n 0, 1) := by decide +kernel
theorem d_M_read_135 : decode b_M_read 135 = .ok (.getfield 114, 3) := by decide +kernel
theorem d_M_read_138 : decode b_M_read 138 = .ok (.iload_n 3, 1) := by decide +kernel
theorem d_M_read_139 : decode b_M_read 139 = .ok (.iaload, 1) := by decide +kernel
theorem d_M_read_140 : decode b_M_read 140 = .ok (.bipush 12, 2) := by decide +kernel
theorem d_M_read_142 : decode b_M_read 142 = .ok (.if_icmp .lt 47, 3) := by decide +kernel
theorem d_M_read_145 : decode b_M_read 145 = .ok (.aload_n 0, 1) := by decide +kernel
theorem d_M_read_146 : decode b_M_read 146 = .ok (.getfield 114, 3) := by decide +kernel
theorem d_M_read_149 : decode b_M_read 149 = .ok (.iload_n 3, 1) := by decide +kernel
theorem d_M_read_150 : decode b_M_read 150 = .ok (.iaload, 1) := by decide +kernel
theorem d_M_read_151 : decode b_M_read 151 = .ok (.istore 5, 2) := by decide +kernel
theorem d_M_read_153 : decode b_M_read 153 = .ok (.aload_n 0, 1) := by decide +kernel
theorem d_M_read_154 : decode b_M_read 154 = .ok (.getfield 114, 3) := by decide +kernel
theorem d_M_read_157 : decode b_M_read 157 = .ok (.iload_n 3, 1) := by decide +kernel
theorem d_M_read_158 : decode b_M_read 158 = .ok (.iconst 0, 1) := by decide +kernel
theorem d_M_read_159 : decode b_M_read 159 = .ok (.iastore, 1) := by decide +kernel
theorem d_M_read_160 : decode b_M_read 160 = .ok (.aload_n 0, 1) := by decide +kernel
theorem d_M_read_161 : decode b_M_read 161 = .ok (.getfield 108, 3) := by decide +kernel
theorem d_M_read_164 : decode b_M_read 164 = .ok (.iload_n 3, 1) := by decide +kernel
theorem d_M_read_165 : decode b_M_read 165 = .ok (.dup2, 1) := by decide +kernel
theorem d_M_read_166 : decode b_M_read 166 = .ok (.iaload, 1) := by decide +kernel
theorem d_M_read_167 : decode b_M_read 167 = .ok (.iload 5, 2) := by decide +kernel
theorem d_M_read_169 : decode b_M_read 169 = .ok (.iadd, 1) := by decide +kernel
theorem d_M_read_170 : decode b_M_read 170 = .ok (.iastore, 1) := by decide +kernel
theorem d_M_read_171 : decode b_M_read 171 = .ok (.aload_n 0, 1) := by decide +kernel
theorem d_M_read_172 : decode b_M_read 172 = .ok (.iload_n 1, 1) := by decide +kernel
theorem d_M_read_173 : decode b_M_read 173 = .ok (.bipush 93, 2) := by decide +kernel
theorem d_M_read_175 : decode b_M_read 175 = .ok (.aload_n 0, 1) := by decide +kernel
theorem d_M_read_176 : decode b_M_read 176 = .ok (.getfield 102, 3) := by decide +kernel
theorem d_M_read_179 : decode b_M_read 179 = .ok (.iload_n 3, 1) := by decide +kernel
theorem d_M_read_180 : decode b_M_read 180 = .ok (.laload, 1) := by decide +kernel
theorem d_M_read_181 : decode b_M_read 181 = .ok (.iload 5, 2) := by decide +kernel
theorem d_M_read_183 : decode b_M_read 183 = .ok (.i2l, 1) := by decide +kernel
theorem d_M_read_184 : decode b_M_read 184 = .ok (.lconst 0, 1) := by decide +kernel
theorem d_M_read_185 : decode b_M_read 185 = .ok (.lconst 0, 1) := by decide +kernel
theorem d_M_read_186 : decode b_M_read 186 = .ok (.invokevirtual 165, 3) := by decide +kernel
theorem d_M_read_189 : decode b_M_read 189 = .ok (.iload 4, 2) := by decide +kernel
theorem d_M_read_191 : decode b_M_read 191 = .ok (.ireturn, 1) := by decide +kernel
def q_read (x1 : Int32) (x2 : Int32) (σ : xb_St) : Int32 × xb_St := (if (g_isChannel x1 x2) = 0 then ((q_raise (1 : Int32) σ).1, (q_raise (1 : Int32) σ).2) else (if (σ.1 32 ((3 * x1.toNatClampNeg) + x2.toNatClampNeg)) ≤ 0 then (if (σ.1 4 x1.toNatClampNeg) = (4 : Int32) then (if (σ.1 28 ((3 * x1.toNatClampNeg) + x2.toNatClampNeg)) = (2 : Int32) then (if (σ.1 33 ((3 * x1.toNatClampNeg) + x2.toNatClampNeg)) < (12 : Int32) then ((-1 : Int32), (xb_si σ 0 0 (0 : Int32))) else ((-1 : Int32), (q_send x1.toNatClampNeg (93 : Int32) (σ.2 29 ((3 * x1.toNatClampNeg) + x2.toNatClampNeg)) ((σ.1 33 ((3 * x1.toNatClampNeg) + x2.toNatClampNeg)).toInt64) (0 : Int64) (0 : Int64) (xb_si (xb_si (xb_si σ 0 0 (0 : Int32)) 33 ((3 * x1.toNatClampNeg) + x2.toNatClampNeg) (0 : Int32)) 31 ((3 * x1.toNatClampNeg) + x2.toNatClampNeg) ((σ.1 31 ((3 * x1.toNatClampNeg) + x2.toNatClampNeg)) + (σ.1 33 ((3 * x1.toNatClampNeg) + x2.toNatClampNeg))))))) else ((-1 : Int32), (xb_si σ 0 0 (0 : Int32)))) else ((-1 : Int32), (xb_si σ 0 0 (0 : Int32)))) else (if ((f_rd ((σ.1 32 ((3 * x1.toNatClampNeg) + x2.toNatClampNeg)).toNatClampNeg - 1) ((3 * x1.toNatClampNeg) + x2.toNatClampNeg) 0 (xb_si (xb_si (xb_si σ 0 0 (0 : Int32)) 32 ((3 * x1.toNatClampNeg) + x2.toNatClampNeg) ((σ.1 32 ((3 * x1.toNatClampNeg) + x2.toNatClampNeg)) - (1 : Int32))) 33 ((3 * x1.toNatClampNeg) + x2.toNatClampNeg) ((σ.1 33 ((3 * x1.toNatClampNeg) + x2.toNatClampNeg)) + (1 : Int32)))).1 4 x1.toNatClampNeg) = (4 : Int32) then (if ((f_rd ((σ.1 32 ((3 * x1.toNatClampNeg) + x2.toNatClampNeg)).toNatClampNeg - 1) ((3 * x1.toNatClampNeg) + x2.toNatClampNeg) 0 (xb_si (xb_si (xb_si σ 0 0 (0 : Int32)) 32 ((3 * x1.toNatClampNeg) + x2.toNatClampNeg) ((σ.1 32 ((3 * x1.toNatClampNeg) + x2.toNatClampNeg)) - (1 : Int32))) 33 ((3 * x1.toNatClampNeg) + x2.toNatClampNeg) ((σ.1 33 ((3 * x1.toNatClampNeg) + x2.toNatClampNeg)) + (1 : Int32)))).1 28 ((3 * x1.toNatClampNeg) + x2.toNatClampNeg)) = (2 : Int32) then (if ((f_rd ((σ.1 32 ((3 * x1.toNatClampNeg) + x2.toNatClampNeg)).toNatClampNeg - 1) ((3 * x1.toNatClampNeg) + x2.toNatClampNeg) 0 (xb_si (xb_si (xb_si σ 0 0 (0 : Int32)) 32 ((3 * x1.toNatClampNeg) + x2.toNatClampNeg) ((σ.1 32 ((3 * x1.toNatClampNeg) + x2.toNatClampNeg)) - (1 : Int32))) 33 ((3 * x1.toNatClampNeg) + x2.toNatClampNeg) ((σ.1 33 ((3 * x1.toNatClampNeg) + x2.toNatClampNeg)) + (1 : Int32)))).1 33 ((3 * x1.toNatClampNeg) + x2.toNatClampNeg)) < (12 : Int32) then ((σ.1 34 (32 * ((3 * x1.toNatClampNeg) + x2.toNatClampNeg))), (f_rd ((σ.1 32 ((3 * x1.toNatClampNeg) + x2.toNatClampNeg)).toNatClampNeg - 1) ((3 * x1.toNatClampNeg) + x2.toNatClampNeg) 0 (xb_si (xb_si (xb_si σ 0 0 (0 : Int32)) 32 ((3 * x1.toNatClampNeg) + x2.toNatClampNeg) ((σ.1 32 ((3 * x1.toNatClampNeg) + x2.toNatClampNeg)) - (1 : Int32))) 33 ((3 * x1.toNatClampNeg) + x2.toNatClampNeg) ((σ.1 33 ((3 * x1.toNatClampNeg) + x2.toNatClampNeg)) + (1 : Int32))))) else ((σ.1 34 (32 * ((3 * x1.toNatClampNeg) + x2.toNatClampNeg))), (q_send x1.toNatClampNeg (93 : Int32) ((f_rd ((σ.1 32 ((3 * x1.toNatClampNeg) + x2.toNatClampNeg)).toNatClampNeg - 1) ((3 * x1.toNatClampNeg) + x2.toNatClampNeg) 0 (xb_si (xb_si (xb_si σ 0 0 (0 : Int32)) 32 ((3 * x1.toNatClampNeg) + x2.toNatClampNeg) ((σ.1 32 ((3 * x1.toNatClampNeg) + x2.toNatClampNeg)) - (1 : Int32))) 33 ((3 * x1.toNatClampNeg) + x2.toNatClampNeg) ((σ.1 33 ((3 * x1.toNatClampNeg) + x2.toNatClampNeg)) + (1 : Int32)))).2 29 ((3 * x1.toNatClampNeg) + x2.toNatClampNeg)) (((f_rd ((σ.1 32 ((3 * x1.toNatClampNeg) + x2.toNatClampNeg)).toNatClampNeg - 1) ((3 * x1.toNatClampNeg) + x2.toNatClampNeg) 0 (xb_si (xb_si (xb_si σ 0 0 (0 : Int32)) 32 ((3 * x1.toNatClampNeg) + x2.toNatClampNeg) ((σ.1 32 ((3 * x1.toNatClampNeg) + x2.toNatClampNeg)) - (1 : Int32))) 33 ((3 * x1.toNatClampNeg) + x2.toNatClampNeg) ((σ.1 33 ((3 * x1.toNatClampNeg) + x2.toNatClampNeg)) + (1 : Int32)))).1 33 ((3 * x1.toNatClampNeg) + x2.toNatClampNeg)).toInt64) (0 : Int64) (0 : Int64) (xb_si (xb_si (f_rd ((σ.1 32 ((3 * x1.toNatClampNeg) + x2.toNatClampNeg)).toNatClampNeg - 1) ((3 * x1.toNatClampNeg) + x2.toNatClampNeg) 0 (xb_si (xb_si (xb_si σ 0 0 (0 : Int32)) 32 ((3 * x1.toNatClampNeg) + x2.toNatClampNeg) ((σ.1 32 ((3 * x1.toNatClampNeg) + x2.toNatClampNeg)) - (1 : Int32))) 33 ((3 * x1.toNatClampNeg) + x2.toNatClampNeg) ((σ.1 33 ((3 * x1.toNatClampNeg) + x2.toNatClampNeg)) + (1 : Int32)))) 33 ((3 * x1.toNatClampNeg) + x2.toNatClampNeg) (0 : Int32)) 31 ((3 * x1.toNatClampNeg) + x2.toNatClampNeg) (((f_rd ((σ.1 32 ((3 * x1.toNatClampNeg) + x2.toNatClampNeg)).toNatClampNeg - 1) ((3 * x1.toNatClampNeg) + x2.toNatClampNeg) 0 (xb_si (xb_si (xb_si σ 0 0 (0 : Int32)) 32 ((3 * x1.toNatClampNeg) + x2.toNatClampNeg) ((σ.1 32 ((3 * x1.toNatClampNeg) + x2.toNatClampNeg)) - (1 : Int32))) 33 ((3 * x1.toNatClampNeg) + x2.toNatClampNeg) ((σ.1 33 ((3 * x1.toNatClampNeg) + x2.toNatClampNeg)) + (1 : Int32)))).1 31 ((3 * x1.toNatClampNeg) + x2.toNatClampNeg)) + ((f_rd ((σ.1 32 ((3 * x1.toNatClampNeg) + x2.toNatClampNeg)).toNatClampNeg - 1) ((3 * x1.toNatClampNeg) + x2.toNatClampNeg) 0 (xb_si (xb_si (xb_si σ 0 0 (0 : Int32)) 32 ((3 * x1.toNatClampNeg) + x2.toNatClampNeg) ((σ.1 32 ((3 * x1.toNatClampNeg) + x2.toNatClampNeg)) - (1 : Int32))) 33 ((3 * x1.toNatClampNeg) + x2.toNatClampNeg) ((σ.1 33 ((3 * x1.toNatClampNeg) + x2.toNatClampNeg)) + (1 : Int32)))).1 33 ((3 * x1.toNatClampNeg) + x2.toNatClampNeg))))))) else ((σ.1 34 (32 * ((3 * x1.toNatClampNeg) + x2.toNatClampNeg))), (f_rd ((σ.1 32 ((3 * x1.toNatClampNeg) + x2.toNatClampNeg)).toNatClampNeg - 1) ((3 * x1.toNatClampNeg) + x2.toNatClampNeg) 0 (xb_si (xb_si (xb_si σ 0 0 (0 : Int32)) 32 ((3 * x1.toNatClampNeg) + x2.toNatClampNeg) ((σ.1 32 ((3 * x1.toNatClampNeg) + x2.toNatClampNeg)) - (1 : Int32))) 33 ((3 * x1.toNatClampNeg) + x2.toNatClampNeg) ((σ.1 33 ((3 * x1.toNatClampNeg) + x2.toNatClampNeg)) + (1 : Int32)))))) else ((σ.1 34 (32 * ((3 * x1.toNatClampNeg) + x2.toNatClampNeg))), (f_rd ((σ.1 32 ((3 * x1.toNatClampNeg) + x2.toNatClampNeg)).toNatClampNeg - 1) ((3 * x1.toNatClampNeg) + x2.toNatClampNeg) 0 (xb_si (xb_si (xb_si σ 0 0 (0 : Int32)) 32 ((3 * x1.toNatClampNeg) + x2.toNatClampNeg) ((σ.1 32 ((3 * x1.toNatClampNeg) + x2.toNatClampNeg)) - (1 : Int32))) 33 ((3 * x1.toNatClampNeg) + x2.toNatClampNeg) ((σ.1 33 ((3 * x1.toNatClampNeg) + x2.toNatClampNeg)) + (1 : Int32))))))))
set_option maxHeartbeats 4000000 in
set_option maxRecDepth 100000 in
theorem c_M_read (l : Launch) (D : va_G) (α : Nat → Nat) (κ : Nat → ClassId) (hα : xb_inj α 35) (σ : xb_St) (x1 : Int32) (x2 : Int32) (ok : sm_ok σ) : Met l y_M_read w_M_read ({ frames := 3, cells := 0, slots := 0, locals := 92 }) (va_Pc ([.ref (α 0), .int x1, .int x2]) (sm_Pre D α κ σ)) (va_Qi (fun r (u : xb_St) => r = (q_read x1 x2 σ).1 ∧ u = (q_read x1 x2 σ).2) (sm_B D α κ) (xb_A α 35)) 0 0 (xb_A α 35) := by
  refine Met.ofW (cc := b_M_read) (maxL := 6) (ret := (some .int)) (by decide) rfl ?_
  intro p e s m args below meth c s₁ B_ hml hv
  obtain ⟨rfl, hP, hK, hN⟩ := hv
  have hx := B_.exec
  have hb := B_.bytes
  have hr := B_.returns
  have hts := atoms_spec (ws := w_M_read) B_.pre
  have ht : ∀ w ∈ xa, w.before _ s = true := fun w h => hts w (List.mem_cons_of_mem _ h)
  have hown : s.vm.findClass "SecurePairModel" = some m.cls := findClass_of_methodNamed B_.named
  have hlocks := B_.notSynchronized
  have hD := sm_D hα κ
  have hS : va_S (xb_A α 35) s.heap s.heap [] := va_S.rf
  have hl := lv_entry ([.ref (α 0), .int x1, .int x2]) (n := 6) (Nat.le_of_ble_eq_true rfl)
  rw [lg_entry_eq]
  generalize (lg_sl ([.ref (α 0), .int x1, .int x2]) ++ List.replicate (6 - (lg_sl ([.ref (α 0), .int x1, .int x2])).length) Slot.unset).toArray = ls at hl ⊢
  have hl : lv_has ls 6 [(0, .ref (α 0)), (1, .int x1), (2, .int x2)] := hl
  refine lv_iload_n hx hb d_M_read_0 rfl (lv_at hl 1 rfl) ?_
  refine lv_iload_n hx hb d_M_read_1 rfl (lv_at hl 2 rfl) ?_
  refine vp_callSi (W.runS (As := [.int x1, .int x2]) (rest := []) ⟨hx, hb, hml, hown, hts⟩ (c_M_isChannel l x1 x2) (cwS 2 hts (xa_S xw1203 xw1204 xw11 xw1205) rfl rfl rfl (by decide +kernel) ⟨Nat.le_of_ble_eq_true rfl, Nat.le_of_ble_eq_true rfl⟩) preEq rfl rfl hl.1 rfl (lv_room (Nat.le_of_ble_eq_true rfl)) d_M_read_2 ⟨Nat.le_of_ble_eq_true rfl, Nat.le_of_ble_eq_true rfl⟩) (fun r_ e_ => ?_)
  subst e_
  refine lv_if_ne (tgt := 14) hx hb d_M_read_5 (by decide) (fun c1 => ?_) (fun c1 => ?_)
  · skip
    have zc1 := sm_chan c1
    refine lv_aload_n hx hb d_M_read_14 rfl (lv_at hl 0 rfl) ?_
    refine lv_iconst (v := 0) hx hb d_M_read_15 (by decide) ?_
    refine sm_pi (x := (0 : Int32)) (ty := .int) hx hb ht hown hK hP 0 (by decide) (ht _ xw952) (fun _ h_ => h_) hD hS rfl (by decide +kernel) rfl rfl sm_f_0 d_M_read_16 (fun H locs hP hS => ?_)
    refine lv_iconst (v := 3) hx hb d_M_read_19 (by decide) ?_
    refine lv_iload_n hx hb d_M_read_20 rfl (lv_at hl 1 rfl) ?_
    refine lv_imul hx hb d_M_read_21 ?_
    refine lv_iload_n hx hb d_M_read_22 rfl (lv_at hl 2 rfl) ?_
    refine lv_iadd hx hb d_M_read_23 ?_
    refine lv_istore_n (lv' := [(3, .int (((3 : Int32) * x1) + x2)), (0, .ref (α 0)), (1, .int x1), (2, .int x2)]) hx hb d_M_read_24 rfl hl (by decide) rfl (fun ls hl => ?_)
    refine lv_iconst (v := -1) hx hb d_M_read_25 (by decide) ?_
    refine lv_istore (lv' := [(4, .int (-1 : Int32)), (3, .int (((3 : Int32) * x1) + x2)), (0, .ref (α 0)), (1, .int x1), (2, .int x2)]) hx hb d_M_read_26 hl (by decide) rfl (fun ls hl => ?_)
    obtain ⟨a0, b0, d0, hs0, ea, eb, ed⟩ := ok.2 ((3 * x1.toNatClampNeg) + x2.toNatClampNeg) (by omega)
    have hm := xb_nb eb (by omega)
    have hm0 : (σ.1 32 ((3 * x1.toNatClampNeg) + x2.toNatClampNeg)).toNatClampNeg ≤ 24 := by rw [hm.2]; omega
    refine lv_aload_n hx hb d_M_read_28 rfl (lv_at hl 2 rfl) ?_
    refine sm_g (v := .ref (α 32)) hx hb ht hown hK hP 34 (by decide) (ht _ xw986) (fun _ h_ => h_) rfl d_M_read_29 ?_
    refine lv_iload_n hx hb d_M_read_32 rfl (lv_at hl 1 rfl) ?_
    refine sm_gaI (L := 6) (n := ((3 * x1.toNatClampNeg) + x2.toNatClampNeg)) (v := (σ.1 32 ((3 * x1.toNatClampNeg) + x2.toNatClampNeg))) hx hb hK hP 32 31 rfl rfl (xb_in (xb_na (xb_nm (xb_lit (x := (3 : Int32)) 3 rfl) zc1.1.1) zc1.2.1) (by omega) (by decide)) (xb_cl (xb_na (xb_nm (xb_lit (x := (3 : Int32)) 3 rfl) zc1.1.1) zc1.2.1) (by omega)) (xb_i_nk (by decide)) d_M_read_33 ?_
    refine lv_if_le (tgt := 114) hx hb d_M_read_34 (by decide) (fun c2 => ?_) (fun c2 => ?_)
    · skip
      have nc2 := (xb_leN hm.1 (xb_lit (x := (0 : Int32)) 0 rfl) (by omega) (by omega)).mp c2
      refine lv_aload_n hx hb d_M_read_114 rfl (lv_at hl 2 rfl) ?_
      refine sm_g (v := .ref (α 4)) hx hb ht hown hK hP 6 (by decide) (ht _ xw958) (fun _ h_ => h_) rfl d_M_read_115 ?_
      refine lv_iload_n hx hb d_M_read_118 rfl (lv_at hl 3 rfl) ?_
      refine sm_gaI (L := 2) (n := x1.toNatClampNeg) (v := (σ.1 4 x1.toNatClampNeg)) hx hb hK hP 4 3 rfl rfl (xb_in zc1.1.1 (by omega) (by decide)) (xb_cl zc1.1.1 (by omega)) (xb_i_nk (by decide)) d_M_read_119 ?_
      refine lv_iconst (v := 4) hx hb d_M_read_120 (by decide) ?_
      refine lv_icmp_ne (tgt := 189) hx hb d_M_read_121 (by decide) (fun c3 => ?_) (fun c3 => ?_)
      · skip
        refine lv_iload hx hb d_M_read_189 (lv_at hl 0 rfl) ?_
        exact W.iret (v := (-1 : Int32)) hx hb hr (fun t ht_ hW => ⟨⟨(-1 : Int32), (xb_si σ 0 0 (0 : Int32)), rfl, ⟨congrArg Prod.fst ((((if_neg c1).trans ((if_pos c2).trans ((if_neg c3)))).symm) : ((-1 : Int32), (xb_si σ 0 0 (0 : Int32))) = q_read x1 x2 σ), congrArg Prod.snd ((((if_neg c1).trans ((if_pos c2).trans ((if_neg c3)))).symm) : ((-1 : Int32), (xb_si σ 0 0 (0 : Int32))) = q_read x1 x2 σ)⟩, by rw [sm_B, ht_]; exact hP⟩, hS.F ht_⟩) hS.2.2 d_M_read_191
      · skip
        refine lv_aload_n hx hb d_M_read_124 rfl (lv_at hl 2 rfl) ?_
        refine sm_g (v := .ref (α 28)) hx hb ht hown hK hP 30 (by decide) (ht _ xw982) (fun _ h_ => h_) rfl d_M_read_125 ?_
        refine lv_iload_n hx hb d_M_read_128 rfl (lv_at hl 1 rfl) ?_
        refine sm_gaI (L := 6) (n := ((3 * x1.toNatClampNeg) + x2.toNatClampNeg)) (v := (σ.1 28 ((3 * x1.toNatClampNeg) + x2.toNatClampNeg))) hx hb hK hP 28 27 rfl rfl (xb_in (xb_na (xb_nm (xb_lit (x := (3 : Int32)) 3 rfl) zc1.1.1) zc1.2.1) (by omega) (by decide)) (xb_cl (xb_na (xb_nm (xb_lit (x := (3 : Int32)) 3 rfl) zc1.1.1) zc1.2.1) (by omega)) (xb_i_nk (by decide)) d_M_read_129 ?_
        refine lv_iconst (v := 2) hx hb d_M_read_130 (by decide) ?_
        refine lv_icmp_ne (tgt := 189) hx hb d_M_read_131 (by decide) (fun c4 => ?_) (fun c4 => ?_)
        · skip
          refine lv_iload hx hb d_M_read_189 (lv_at hl 0 rfl) ?_
          exact W.iret (v := (-1 : Int32)) hx hb hr (fun t ht_ hW => ⟨⟨(-1 : Int32), (xb_si σ 0 0 (0 : Int32)), rfl, ⟨congrArg Prod.fst ((((if_neg c1).trans ((if_pos c2).trans ((if_pos c3).trans ((if_neg c4))))).symm) : ((-1 : Int32), (xb_si σ 0 0 (0 : Int32))) = q_read x1 x2 σ), congrArg Prod.snd ((((if_neg c1).trans ((if_pos c2).trans ((if_pos c3).trans ((if_neg c4))))).symm) : ((-1 : Int32), (xb_si σ 0 0 (0 : Int32))) = q_read x1 x2 σ)⟩, by rw [sm_B, ht_]; exact hP⟩, hS.F ht_⟩) hS.2.2 d_M_read_191
        · skip
          refine lv_aload_n hx hb d_M_read_134 rfl (lv_at hl 2 rfl) ?_
          refine sm_g (v := .ref (α 33)) hx hb ht hown hK hP 35 (by decide) (ht _ xw987) (fun _ h_ => h_) rfl d_M_read_135 ?_
          refine lv_iload_n hx hb d_M_read_138 rfl (lv_at hl 1 rfl) ?_
          refine sm_gaI (L := 6) (n := ((3 * x1.toNatClampNeg) + x2.toNatClampNeg)) (v := (σ.1 33 ((3 * x1.toNatClampNeg) + x2.toNatClampNeg))) hx hb hK hP 33 32 rfl rfl (xb_in (xb_na (xb_nm (xb_lit (x := (3 : Int32)) 3 rfl) zc1.1.1) zc1.2.1) (by omega) (by decide)) (xb_cl (xb_na (xb_nm (xb_lit (x := (3 : Int32)) 3 rfl) zc1.1.1) zc1.2.1) (by omega)) (xb_i_nk (by decide)) d_M_read_139 ?_
          refine lv_bipush (v := 12) hx hb d_M_read_140 (by decide) ?_
          refine lv_icmp_lt (tgt := 189) hx hb d_M_read_142 (by decide) (fun c5 => ?_) (fun c5 => ?_)
          · skip
            refine lv_iload hx hb d_M_read_189 (lv_at hl 0 rfl) ?_
            exact W.iret (v := (-1 : Int32)) hx hb hr (fun t ht_ hW => ⟨⟨(-1 : Int32), (xb_si σ 0 0 (0 : Int32)), rfl, ⟨congrArg Prod.fst ((((if_neg c1).trans ((if_pos c2).trans ((if_pos c3).trans ((if_pos c4).trans ((if_pos c5)))))).symm) : ((-1 : Int32), (xb_si σ 0 0 (0 : Int32))) = q_read x1 x2 σ), congrArg Prod.snd ((((if_neg c1).trans ((if_pos c2).trans ((if_pos c3).trans ((if_pos c4).trans ((if_pos c5)))))).symm) : ((-1 : Int32), (xb_si σ 0 0 (0 : Int32))) = q_read x1 x2 σ)⟩, by rw [sm_B, ht_]; exact hP⟩, hS.F ht_⟩) hS.2.2 d_M_read_191
          · skip
            refine lv_aload_n hx hb d_M_read_145 rfl (lv_at hl 2 rfl) ?_
            refine sm_g (v := .ref (α 33)) hx hb ht hown hK hP 35 (by decide) (ht _ xw987) (fun _ h_ => h_) rfl d_M_read_146 ?_
            refine lv_iload_n hx hb d_M_read_149 rfl (lv_at hl 1 rfl) ?_
            refine sm_gaI (L := 6) (n := ((3 * x1.toNatClampNeg) + x2.toNatClampNeg)) (v := (σ.1 33 ((3 * x1.toNatClampNeg) + x2.toNatClampNeg))) hx hb hK hP 33 32 rfl rfl (xb_in (xb_na (xb_nm (xb_lit (x := (3 : Int32)) 3 rfl) zc1.1.1) zc1.2.1) (by omega) (by decide)) (xb_cl (xb_na (xb_nm (xb_lit (x := (3 : Int32)) 3 rfl) zc1.1.1) zc1.2.1) (by omega)) (xb_i_nk (by decide)) d_M_read_150 ?_
            refine lv_istore (lv' := [(5, .int (σ.1 33 ((3 * x1.toNatClampNeg) + x2.toNatClampNeg))), (4, .int (-1 : Int32)), (3, .int (((3 : Int32) * x1) + x2)), (0, .ref (α 0)), (1, .int x1), (2, .int x2)]) hx hb d_M_read_151 hl (by decide) rfl (fun ls hl => ?_)
            refine lv_aload_n hx hb d_M_read_153 rfl (lv_at hl 3 rfl) ?_
            refine sm_g (v := .ref (α 33)) hx hb ht hown hK hP 35 (by decide) (ht _ xw987) (fun _ h_ => h_) rfl d_M_read_154 ?_
            refine lv_iload_n hx hb d_M_read_157 rfl (lv_at hl 2 rfl) ?_
            refine lv_iconst (v := 0) hx hb d_M_read_158 (by decide) ?_
            refine sm_paI (L := 6) (n := ((3 * x1.toNatClampNeg) + x2.toNatClampNeg)) (x := (0 : Int32)) hx hb hK hP 33 32 rfl rfl hD hS (xb_in (xb_na (xb_nm (xb_lit (x := (3 : Int32)) 3 rfl) zc1.1.1) zc1.2.1) (by omega) (by decide)) (xb_cl (xb_na (xb_nm (xb_lit (x := (3 : Int32)) 3 rfl) zc1.1.1) zc1.2.1) (by omega)) sm_s_33 d_M_read_159 (fun H locs hP hS => ?_)
            refine lv_aload_n hx hb d_M_read_160 rfl (lv_at hl 3 rfl) ?_
            refine sm_g (v := .ref (α 31)) hx hb ht hown hK hP 33 (by decide) (ht _ xw985) (fun _ h_ => h_) rfl d_M_read_161 ?_
            refine lv_iload_n hx hb d_M_read_164 rfl (lv_at hl 2 rfl) ?_
            refine lv_dup2_11 hx hb d_M_read_165 rfl rfl ?_
            refine sm_gaI (L := 6) (n := ((3 * x1.toNatClampNeg) + x2.toNatClampNeg)) (v := (σ.1 31 ((3 * x1.toNatClampNeg) + x2.toNatClampNeg))) hx hb hK hP 31 30 rfl rfl (xb_in (xb_na (xb_nm (xb_lit (x := (3 : Int32)) 3 rfl) zc1.1.1) zc1.2.1) (by omega) (by decide)) (xb_cl (xb_na (xb_nm (xb_lit (x := (3 : Int32)) 3 rfl) zc1.1.1) zc1.2.1) (by omega)) (((xb_i_nk (by decide))).trans ((xb_i_nk (by decide)))) d_M_read_166 ?_
            refine lv_iload hx hb d_M_read_167 (lv_at hl 0 rfl) ?_
            refine lv_iadd hx hb d_M_read_169 ?_
            refine sm_paI (L := 6) (n := ((3 * x1.toNatClampNeg) + x2.toNatClampNeg)) (x := ((σ.1 31 ((3 * x1.toNatClampNeg) + x2.toNatClampNeg)) + (σ.1 33 ((3 * x1.toNatClampNeg) + x2.toNatClampNeg)))) hx hb hK hP 31 30 rfl rfl hD hS (xb_in (xb_na (xb_nm (xb_lit (x := (3 : Int32)) 3 rfl) zc1.1.1) zc1.2.1) (by omega) (by decide)) (xb_cl (xb_na (xb_nm (xb_lit (x := (3 : Int32)) 3 rfl) zc1.1.1) zc1.2.1) (by omega)) sm_s_31 d_M_read_170 (fun H locs hP hS => ?_)
            refine lv_aload_n hx hb d_M_read_171 rfl (lv_at hl 3 rfl) ?_
            refine lv_iload_n hx hb d_M_read_172 rfl (lv_at hl 4 rfl) ?_
            refine lv_bipush (v := 93) hx hb d_M_read_173 (by decide) ?_
            refine lv_aload_n hx hb d_M_read_175 rfl (lv_at hl 3 rfl) ?_
            refine sm_g (v := .ref (α 29)) hx hb ht hown hK hP 31 (by decide) (ht _ xw983) (fun _ h_ => h_) rfl d_M_read_176 ?_
            refine lv_iload_n hx hb d_M_read_179 rfl (lv_at hl 2 rfl) ?_
            refine sm_gaJ (L := 6) (n := ((3 * x1.toNatClampNeg) + x2.toNatClampNeg)) (v := (σ.2 29 ((3 * x1.toNatClampNeg) + x2.toNatClampNeg))) hx hb hK hP 29 28 rfl rfl (xb_in (xb_na (xb_nm (xb_lit (x := (3 : Int32)) 3 rfl) zc1.1.1) zc1.2.1) (by omega) (by decide)) (xb_cl (xb_na (xb_nm (xb_lit (x := (3 : Int32)) 3 rfl) zc1.1.1) zc1.2.1) (by omega)) ((xb_l_i).trans ((xb_l_i).trans (xb_l_i))) d_M_read_180 ?_
            refine lv_iload hx hb d_M_read_181 (lv_at hl 0 rfl) ?_
            refine lv_i2l (v := (σ.1 33 ((3 * x1.toNatClampNeg) + x2.toNatClampNeg)).toInt64) hx hb d_M_read_183 (by rfl) ?_
            refine lv_lconst (v := 0) hx hb d_M_read_184 (by decide) ?_
            refine lv_lconst (v := 0) hx hb d_M_read_185 (by decide) ?_
            refine sm_cv (va_runV (As := [.int x1, .int (93 : Int32), .long (σ.2 29 ((3 * x1.toNatClampNeg) + x2.toNatClampNeg)), .long ((σ.1 33 ((3 * x1.toNatClampNeg) + x2.toNatClampNeg)).toInt64), .long (0 : Int64), .long (0 : Int64)]) (rest := []) ⟨hx, hb, hml, hown, hts⟩ (c_M_send l D α κ hα (xb_si (xb_si (xb_si σ 0 0 (0 : Int32)) 33 ((3 * x1.toNatClampNeg) + x2.toNatClampNeg) (0 : Int32)) 31 ((3 * x1.toNatClampNeg) + x2.toNatClampNeg) ((σ.1 31 ((3 * x1.toNatClampNeg) + x2.toNatClampNeg)) + (σ.1 33 ((3 * x1.toNatClampNeg) + x2.toNatClampNeg)))) x1 x1.toNatClampNeg zc1.1.1 (by omega) (93 : Int32) (σ.2 29 ((3 * x1.toNatClampNeg) + x2.toNatClampNeg)) ((σ.1 33 ((3 * x1.toNatClampNeg) + x2.toNatClampNeg)).toInt64) (0 : Int64) (0 : Int64) (mk_tr (mk_si ok (by decide)) (by omega))) (cwV 6 hts (xa_V xw1084 xw1086 xs6 xw11 xw1087) rfl rfl rfl (by decide +kernel) ⟨Nat.le_of_ble_eq_true rfl, Nat.le_of_ble_eq_true rfl⟩) ⟨sm_blind, va_recv (q0 := 0) (ci := 9) hK hP rfl rfl, sm_pre hP hK hN _⟩ rfl rfl hl.1 rfl (lv_room (Nat.le_of_ble_eq_true rfl)) d_M_read_186 ⟨Nat.le_of_ble_eq_true rfl, Nat.le_of_ble_eq_true rfl⟩) hS (fun _ h_ => h_) (fun H locs hP hS => ?_)
            obtain ⟨τ1, hτ1⟩ : ∃ t_, t_ = (q_send x1.toNatClampNeg (93 : Int32) (σ.2 29 ((3 * x1.toNatClampNeg) + x2.toNatClampNeg)) ((σ.1 33 ((3 * x1.toNatClampNeg) + x2.toNatClampNeg)).toInt64) (0 : Int64) (0 : Int64) (xb_si (xb_si (xb_si σ 0 0 (0 : Int32)) 33 ((3 * x1.toNatClampNeg) + x2.toNatClampNeg) (0 : Int32)) 31 ((3 * x1.toNatClampNeg) + x2.toNatClampNeg) ((σ.1 31 ((3 * x1.toNatClampNeg) + x2.toNatClampNeg)) + (σ.1 33 ((3 * x1.toNatClampNeg) + x2.toNatClampNeg))))) := ⟨_, rfl⟩
            rw [← hτ1] at hP
            have okτ1 : sm_ok τ1 := by rw [hτ1]; exact (ok_q_send x1.toNatClampNeg (93 : Int32) (σ.2 29 ((3 * x1.toNatClampNeg) + x2.toNatClampNeg)) ((σ.1 33 ((3 * x1.toNatClampNeg) + x2.toNatClampNeg)).toInt64) (0 : Int64) (0 : Int64) (by omega) (mk_tr (mk_si ok (by decide)) (by omega)))
            refine lv_iload hx hb d_M_read_189 (lv_at hl 1 rfl) ?_
            exact W.iret (v := (-1 : Int32)) hx hb hr (fun t ht_ hW => ⟨⟨(-1 : Int32), τ1, rfl, ⟨congrArg Prod.fst (((by subst hτ1; exact ((if_neg c1).trans ((if_pos c2).trans ((if_pos c3).trans ((if_pos c4).trans ((if_neg c5)))))).symm)) : ((-1 : Int32), τ1) = q_read x1 x2 σ), congrArg Prod.snd (((by subst hτ1; exact ((if_neg c1).trans ((if_pos c2).trans ((if_pos c3).trans ((if_pos c4).trans ((if_neg c5)))))).symm)) : ((-1 : Int32), τ1) = q_read x1 x2 σ)⟩, by rw [sm_B, ht_]; exact hP⟩, hS.F ht_⟩) hS.2.2 d_M_read_191
    · skip
      have nc2 := mt (xb_leN hm.1 (xb_lit (x := (0 : Int32)) 0 rfl) (by omega) (by omega)).mpr c2
      refine lv_aload_n hx hb d_M_read_37 rfl (lv_at hl 2 rfl) ?_
      refine sm_g (v := .ref (α 34)) hx hb ht hown hK hP 36 (by decide) (ht _ xw988) (fun _ h_ => h_) rfl d_M_read_38 ?_
      refine lv_bipush (v := 32) hx hb d_M_read_41 (by decide) ?_
      refine lv_iload_n hx hb d_M_read_43 rfl (lv_at hl 1 rfl) ?_
      refine lv_imul hx hb d_M_read_44 ?_
      refine sm_gaI (L := 192) (n := (32 * ((3 * x1.toNatClampNeg) + x2.toNatClampNeg))) (v := (σ.1 34 (32 * ((3 * x1.toNatClampNeg) + x2.toNatClampNeg)))) hx hb hK hP 34 33 rfl rfl (xb_in (xb_nm (xb_lit (x := (32 : Int32)) 32 rfl) (xb_na (xb_nm (xb_lit (x := (3 : Int32)) 3 rfl) zc1.1.1) zc1.2.1)) (by omega) (by decide)) (xb_cl (xb_nm (xb_lit (x := (32 : Int32)) 32 rfl) (xb_na (xb_nm (xb_lit (x := (3 : Int32)) 3 rfl) zc1.1.1) zc1.2.1)) (by omega)) (xb_i_nk (by decide)) d_M_read_45 ?_
      refine lv_istore (lv' := [(4, .int (σ.1 34 (32 * ((3 * x1.toNatClampNeg) + x2.toNatClampNeg)))), (3, .int (((3 : Int32) * x1) + x2)), (0, .ref (α 0)), (1, .int x1), (2, .int x2)]) hx hb d_M_read_46 hl (by decide) rfl (fun ls hl => ?_)
      refine lv_aload_n hx hb d_M_read_48 rfl (lv_at hl 2 rfl) ?_
      refine sm_g (v := .ref (α 32)) hx hb ht hown hK hP 34 (by decide) (ht _ xw986) (fun _ h_ => h_) rfl d_M_read_49 ?_
      refine lv_iload_n hx hb d_M_read_52 rfl (lv_at hl 1 rfl) ?_
      refine lv_dup2_11 hx hb d_M_read_53 rfl rfl ?_
      refine sm_gaI (L := 6) (n := ((3 * x1.toNatClampNeg) + x2.toNatClampNeg)) (v := (σ.1 32 ((3 * x1.toNatClampNeg) + x2.toNatClampNeg))) hx hb hK hP 32 31 rfl rfl (xb_in (xb_na (xb_nm (xb_lit (x := (3 : Int32)) 3 rfl) zc1.1.1) zc1.2.1) (by omega) (by decide)) (xb_cl (xb_na (xb_nm (xb_lit (x := (3 : Int32)) 3 rfl) zc1.1.1) zc1.2.1) (by omega)) (xb_i_nk (by decide)) d_M_read_54 ?_
      refine lv_iconst (v := 1) hx hb d_M_read_55 (by decide) ?_
      refine lv_isub hx hb d_M_read_56 ?_
      refine sm_paI (L := 6) (n := ((3 * x1.toNatClampNeg) + x2.toNatClampNeg)) (x := ((σ.1 32 ((3 * x1.toNatClampNeg) + x2.toNatClampNeg)) - (1 : Int32))) hx hb hK hP 32 31 rfl rfl hD hS (xb_in (xb_na (xb_nm (xb_lit (x := (3 : Int32)) 3 rfl) zc1.1.1) zc1.2.1) (by omega) (by decide)) (xb_cl (xb_na (xb_nm (xb_lit (x := (3 : Int32)) 3 rfl) zc1.1.1) zc1.2.1) (by omega)) sm_s_32 d_M_read_57 (fun H locs hP hS => ?_)
      refine lv_aload_n hx hb d_M_read_58 rfl (lv_at hl 2 rfl) ?_
      refine sm_g (v := .ref (α 33)) hx hb ht hown hK hP 35 (by decide) (ht _ xw987) (fun _ h_ => h_) rfl d_M_read_59 ?_
      refine lv_iload_n hx hb d_M_read_62 rfl (lv_at hl 1 rfl) ?_
      refine lv_dup2_11 hx hb d_M_read_63 rfl rfl ?_
      refine sm_gaI (L := 6) (n := ((3 * x1.toNatClampNeg) + x2.toNatClampNeg)) (v := (σ.1 33 ((3 * x1.toNatClampNeg) + x2.toNatClampNeg))) hx hb hK hP 33 32 rfl rfl (xb_in (xb_na (xb_nm (xb_lit (x := (3 : Int32)) 3 rfl) zc1.1.1) zc1.2.1) (by omega) (by decide)) (xb_cl (xb_na (xb_nm (xb_lit (x := (3 : Int32)) 3 rfl) zc1.1.1) zc1.2.1) (by omega)) (((xb_i_nk (by decide))).trans ((xb_i_nk (by decide)))) d_M_read_64 ?_
      refine lv_iconst (v := 1) hx hb d_M_read_65 (by decide) ?_
      refine lv_iadd hx hb d_M_read_66 ?_
      refine sm_paI (L := 6) (n := ((3 * x1.toNatClampNeg) + x2.toNatClampNeg)) (x := ((σ.1 33 ((3 * x1.toNatClampNeg) + x2.toNatClampNeg)) + (1 : Int32))) hx hb hK hP 33 32 rfl rfl hD hS (xb_in (xb_na (xb_nm (xb_lit (x := (3 : Int32)) 3 rfl) zc1.1.1) zc1.2.1) (by omega) (by decide)) (xb_cl (xb_na (xb_nm (xb_lit (x := (3 : Int32)) 3 rfl) zc1.1.1) zc1.2.1) (by omega)) sm_s_33 d_M_read_67 (fun H locs hP hS => ?_)
      refine lv_iconst (v := 0) hx hb d_M_read_68 (by decide) ?_
      refine lv_istore (lv' := [(5, .int (0 : Int32)), (4, .int (σ.1 34 (32 * ((3 * x1.toNatClampNeg) + x2.toNatClampNeg)))), (3, .int (((3 : Int32) * x1) + x2)), (0, .ref (α 0)), (1, .int x1), (2, .int x2)]) hx hb d_M_read_69 hl (by decide) rfl (fun ls hl => ?_)
      have loop : ∀ (n k : Nat) (τ77 : xb_St) (ls : Array Slot) (H : Heap) (locs : List Loc), k + n = ((σ.1 32 ((3 * x1.toNatClampNeg) + x2.toNatClampNeg)).toNatClampNeg - 1) → τ77.1 32 ((3 * x1.toNatClampNeg) + x2.toNatClampNeg) = nI ((σ.1 32 ((3 * x1.toNatClampNeg) + x2.toNatClampNeg)).toNatClampNeg - 1) → lv_has ls 6 [(5, .int (nI k)), (4, .int (σ.1 34 (32 * ((3 * x1.toNatClampNeg) + x2.toNatClampNeg)))), (3, .int (((3 : Int32) * x1) + x2)), (0, .ref (α 0)), (1, .int x1), (2, .int x2)] → va_P D xC (sm_w α κ τ77) H → va_S (xb_A α 35) s.heap H locs → f_rd n ((3 * x1.toNatClampNeg) + x2.toNatClampNeg) k τ77 = f_rd ((σ.1 32 ((3 * x1.toNatClampNeg) + x2.toNatClampNeg)).toNatClampNeg - 1) ((3 * x1.toNatClampNeg) + x2.toNatClampNeg) 0 (xb_si (xb_si (xb_si σ 0 0 (0 : Int32)) 32 ((3 * x1.toNatClampNeg) + x2.toNatClampNeg) ((σ.1 32 ((3 * x1.toNatClampNeg) + x2.toNatClampNeg)) - (1 : Int32))) 33 ((3 * x1.toNatClampNeg) + x2.toNatClampNeg) ((σ.1 33 ((3 * x1.toNatClampNeg) + x2.toNatClampNeg)) + (1 : Int32))) → W p l e (headSpec w_M_read ({ frames := 3, cells := 0, slots := 0, locals := 92 })).room s m ([.ref (α 0), .int x1, .int x2] : List Value).toArray below meth c H locs 0 0 (MQ below (va_Qi (fun r (u : xb_St) => r = (q_read x1 x2 σ).1 ∧ u = (q_read x1 x2 σ).2) (sm_B D α κ) (xb_A α 35)) ([.ref (α 0), .int x1, .int x2] : List Value).toArray s 0 0 (xb_A α 35)) (F0 m 71 ls []) := by
        intro n
        induction n with
        | zero =>
          intro k τ77 ls H locs hk hmm hl hP hS hF
          have hτ77 : τ77 = f_rd ((σ.1 32 ((3 * x1.toNatClampNeg) + x2.toNatClampNeg)).toNatClampNeg - 1) ((3 * x1.toNatClampNeg) + x2.toNatClampNeg) 0 (xb_si (xb_si (xb_si σ 0 0 (0 : Int32)) 32 ((3 * x1.toNatClampNeg) + x2.toNatClampNeg) ((σ.1 32 ((3 * x1.toNatClampNeg) + x2.toNatClampNeg)) - (1 : Int32))) 33 ((3 * x1.toNatClampNeg) + x2.toNatClampNeg) ((σ.1 33 ((3 * x1.toNatClampNeg) + x2.toNatClampNeg)) + (1 : Int32))) := hF
          have okτ77 : sm_ok τ77 := by rw [hτ77]; exact (ok_f_rd ((σ.1 32 ((3 * x1.toNatClampNeg) + x2.toNatClampNeg)).toNatClampNeg - 1) 0 (mk_byte (mk_si ok (by decide)) (by omega) c2))
          refine lv_iload hx hb d_M_read_71 (lv_at hl 0 rfl) ?_
          refine lv_aload_n hx hb d_M_read_73 rfl (lv_at hl 3 rfl) ?_
          refine sm_g (v := .ref (α 32)) hx hb ht hown hK hP 34 (by decide) (ht _ xw986) (fun _ h_ => h_) rfl d_M_read_74 ?_
          refine lv_iload_n hx hb d_M_read_77 rfl (lv_at hl 2 rfl) ?_
          refine sm_gaI (L := 6) (n := ((3 * x1.toNatClampNeg) + x2.toNatClampNeg)) (v := (τ77.1 32 ((3 * x1.toNatClampNeg) + x2.toNatClampNeg))) hx hb hK hP 32 31 rfl rfl (xb_in (xb_na (xb_nm (xb_lit (x := (3 : Int32)) 3 rfl) zc1.1.1) zc1.2.1) (by omega) (by decide)) (xb_cl (xb_na (xb_nm (xb_lit (x := (3 : Int32)) 3 rfl) zc1.1.1) zc1.2.1) (by omega)) rfl d_M_read_78 ?_
          refine lv_icmp_ge (tgt := 114) hx hb d_M_read_79 (by decide) (fun _ => ?_) (fun h_ => absurd ((xb_leN hmm (xb_lit k rfl) (by omega) (by omega)).mpr (by omega)) h_)
          refine lv_aload_n hx hb d_M_read_114 rfl (lv_at hl 3 rfl) ?_
          refine sm_g (v := .ref (α 4)) hx hb ht hown hK hP 6 (by decide) (ht _ xw958) (fun _ h_ => h_) rfl d_M_read_115 ?_
          refine lv_iload_n hx hb d_M_read_118 rfl (lv_at hl 4 rfl) ?_
          refine sm_gaI (L := 2) (n := x1.toNatClampNeg) (v := (τ77.1 4 x1.toNatClampNeg)) hx hb hK hP 4 3 rfl rfl (xb_in zc1.1.1 (by omega) (by decide)) (xb_cl zc1.1.1 (by omega)) rfl d_M_read_119 ?_
          refine lv_iconst (v := 4) hx hb d_M_read_120 (by decide) ?_
          refine lv_icmp_ne (tgt := 189) hx hb d_M_read_121 (by decide) (fun c6 => ?_) (fun c6 => ?_)
          · skip
            refine lv_iload hx hb d_M_read_189 (lv_at hl 1 rfl) ?_
            exact W.iret (v := (σ.1 34 (32 * ((3 * x1.toNatClampNeg) + x2.toNatClampNeg)))) hx hb hr (fun t ht_ hW => ⟨⟨(σ.1 34 (32 * ((3 * x1.toNatClampNeg) + x2.toNatClampNeg))), τ77, rfl, ⟨congrArg Prod.fst (((by subst hτ77; exact ((if_neg c1).trans ((if_neg c2).trans ((if_neg c6)))).symm)) : ((σ.1 34 (32 * ((3 * x1.toNatClampNeg) + x2.toNatClampNeg))), τ77) = q_read x1 x2 σ), congrArg Prod.snd (((by subst hτ77; exact ((if_neg c1).trans ((if_neg c2).trans ((if_neg c6)))).symm)) : ((σ.1 34 (32 * ((3 * x1.toNatClampNeg) + x2.toNatClampNeg))), τ77) = q_read x1 x2 σ)⟩, by rw [sm_B, ht_]; exact hP⟩, hS.F ht_⟩) hS.2.2 d_M_read_191
          · skip
            refine lv_aload_n hx hb d_M_read_124 rfl (lv_at hl 3 rfl) ?_
            refine sm_g (v := .ref (α 28)) hx hb ht hown hK hP 30 (by decide) (ht _ xw982) (fun _ h_ => h_) rfl d_M_read_125 ?_
            refine lv_iload_n hx hb d_M_read_128 rfl (lv_at hl 2 rfl) ?_
            refine sm_gaI (L := 6) (n := ((3 * x1.toNatClampNeg) + x2.toNatClampNeg)) (v := (τ77.1 28 ((3 * x1.toNatClampNeg) + x2.toNatClampNeg))) hx hb hK hP 28 27 rfl rfl (xb_in (xb_na (xb_nm (xb_lit (x := (3 : Int32)) 3 rfl) zc1.1.1) zc1.2.1) (by omega) (by decide)) (xb_cl (xb_na (xb_nm (xb_lit (x := (3 : Int32)) 3 rfl) zc1.1.1) zc1.2.1) (by omega)) rfl d_M_read_129 ?_
            refine lv_iconst (v := 2) hx hb d_M_read_130 (by decide) ?_
            refine lv_icmp_ne (tgt := 189) hx hb d_M_read_131 (by decide) (fun c7 => ?_) (fun c7 => ?_)
            · skip
              refine lv_iload hx hb d_M_read_189 (lv_at hl 1 rfl) ?_
              exact W.iret (v := (σ.1 34 (32 * ((3 * x1.toNatClampNeg) + x2.toNatClampNeg)))) hx hb hr (fun t ht_ hW => ⟨⟨(σ.1 34 (32 * ((3 * x1.toNatClampNeg) + x2.toNatClampNeg))), τ77, rfl, ⟨congrArg Prod.fst (((by subst hτ77; exact ((if_neg c1).trans ((if_neg c2).trans ((if_pos c6).trans ((if_neg c7))))).symm)) : ((σ.1 34 (32 * ((3 * x1.toNatClampNeg) + x2.toNatClampNeg))), τ77) = q_read x1 x2 σ), congrArg Prod.snd (((by subst hτ77; exact ((if_neg c1).trans ((if_neg c2).trans ((if_pos c6).trans ((if_neg c7))))).symm)) : ((σ.1 34 (32 * ((3 * x1.toNatClampNeg) + x2.toNatClampNeg))), τ77) = q_read x1 x2 σ)⟩, by rw [sm_B, ht_]; exact hP⟩, hS.F ht_⟩) hS.2.2 d_M_read_191
            · skip
              refine lv_aload_n hx hb d_M_read_134 rfl (lv_at hl 3 rfl) ?_
              refine sm_g (v := .ref (α 33)) hx hb ht hown hK hP 35 (by decide) (ht _ xw987) (fun _ h_ => h_) rfl d_M_read_135 ?_
              refine lv_iload_n hx hb d_M_read_138 rfl (lv_at hl 2 rfl) ?_
              refine sm_gaI (L := 6) (n := ((3 * x1.toNatClampNeg) + x2.toNatClampNeg)) (v := (τ77.1 33 ((3 * x1.toNatClampNeg) + x2.toNatClampNeg))) hx hb hK hP 33 32 rfl rfl (xb_in (xb_na (xb_nm (xb_lit (x := (3 : Int32)) 3 rfl) zc1.1.1) zc1.2.1) (by omega) (by decide)) (xb_cl (xb_na (xb_nm (xb_lit (x := (3 : Int32)) 3 rfl) zc1.1.1) zc1.2.1) (by omega)) rfl d_M_read_139 ?_
              refine lv_bipush (v := 12) hx hb d_M_read_140 (by decide) ?_
              refine lv_icmp_lt (tgt := 189) hx hb d_M_read_142 (by decide) (fun c8 => ?_) (fun c8 => ?_)
              · skip
                refine lv_iload hx hb d_M_read_189 (lv_at hl 1 rfl) ?_
                exact W.iret (v := (σ.1 34 (32 * ((3 * x1.toNatClampNeg) + x2.toNatClampNeg)))) hx hb hr (fun t ht_ hW => ⟨⟨(σ.1 34 (32 * ((3 * x1.toNatClampNeg) + x2.toNatClampNeg))), τ77, rfl, ⟨congrArg Prod.fst (((by subst hτ77; exact ((if_neg c1).trans ((if_neg c2).trans ((if_pos c6).trans ((if_pos c7).trans ((if_pos c8)))))).symm)) : ((σ.1 34 (32 * ((3 * x1.toNatClampNeg) + x2.toNatClampNeg))), τ77) = q_read x1 x2 σ), congrArg Prod.snd (((by subst hτ77; exact ((if_neg c1).trans ((if_neg c2).trans ((if_pos c6).trans ((if_pos c7).trans ((if_pos c8)))))).symm)) : ((σ.1 34 (32 * ((3 * x1.toNatClampNeg) + x2.toNatClampNeg))), τ77) = q_read x1 x2 σ)⟩, by rw [sm_B, ht_]; exact hP⟩, hS.F ht_⟩) hS.2.2 d_M_read_191
              · skip
                refine lv_aload_n hx hb d_M_read_145 rfl (lv_at hl 3 rfl) ?_
                refine sm_g (v := .ref (α 33)) hx hb ht hown hK hP 35 (by decide) (ht _ xw987) (fun _ h_ => h_) rfl d_M_read_146 ?_
                refine lv_iload_n hx hb d_M_read_149 rfl (lv_at hl 2 rfl) ?_
                refine sm_gaI (L := 6) (n := ((3 * x1.toNatClampNeg) + x2.toNatClampNeg)) (v := (τ77.1 33 ((3 * x1.toNatClampNeg) + x2.toNatClampNeg))) hx hb hK hP 33 32 rfl rfl (xb_in (xb_na (xb_nm (xb_lit (x := (3 : Int32)) 3 rfl) zc1.1.1) zc1.2.1) (by omega) (by decide)) (xb_cl (xb_na (xb_nm (xb_lit (x := (3 : Int32)) 3 rfl) zc1.1.1) zc1.2.1) (by omega)) rfl d_M_read_150 ?_
                refine lv_istore (lv' := [(5, .int (τ77.1 33 ((3 * x1.toNatClampNeg) + x2.toNatClampNeg))), (4, .int (σ.1 34 (32 * ((3 * x1.toNatClampNeg) + x2.toNatClampNeg)))), (3, .int (((3 : Int32) * x1) + x2)), (0, .ref (α 0)), (1, .int x1), (2, .int x2)]) hx hb d_M_read_151 hl (by decide) rfl (fun ls hl => ?_)
                refine lv_aload_n hx hb d_M_read_153 rfl (lv_at hl 3 rfl) ?_
                refine sm_g (v := .ref (α 33)) hx hb ht hown hK hP 35 (by decide) (ht _ xw987) (fun _ h_ => h_) rfl d_M_read_154 ?_
                refine lv_iload_n hx hb d_M_read_157 rfl (lv_at hl 2 rfl) ?_
                refine lv_iconst (v := 0) hx hb d_M_read_158 (by decide) ?_
                refine sm_paI (L := 6) (n := ((3 * x1.toNatClampNeg) + x2.toNatClampNeg)) (x := (0 : Int32)) hx hb hK hP 33 32 rfl rfl hD hS (xb_in (xb_na (xb_nm (xb_lit (x := (3 : Int32)) 3 rfl) zc1.1.1) zc1.2.1) (by omega) (by decide)) (xb_cl (xb_na (xb_nm (xb_lit (x := (3 : Int32)) 3 rfl) zc1.1.1) zc1.2.1) (by omega)) sm_s_33 d_M_read_159 (fun H locs hP hS => ?_)
                refine lv_aload_n hx hb d_M_read_160 rfl (lv_at hl 3 rfl) ?_
                refine sm_g (v := .ref (α 31)) hx hb ht hown hK hP 33 (by decide) (ht _ xw985) (fun _ h_ => h_) rfl d_M_read_161 ?_
                refine lv_iload_n hx hb d_M_read_164 rfl (lv_at hl 2 rfl) ?_
                refine lv_dup2_11 hx hb d_M_read_165 rfl rfl ?_
                refine sm_gaI (L := 6) (n := ((3 * x1.toNatClampNeg) + x2.toNatClampNeg)) (v := (τ77.1 31 ((3 * x1.toNatClampNeg) + x2.toNatClampNeg))) hx hb hK hP 31 30 rfl rfl (xb_in (xb_na (xb_nm (xb_lit (x := (3 : Int32)) 3 rfl) zc1.1.1) zc1.2.1) (by omega) (by decide)) (xb_cl (xb_na (xb_nm (xb_lit (x := (3 : Int32)) 3 rfl) zc1.1.1) zc1.2.1) (by omega)) (xb_i_nk (by decide)) d_M_read_166 ?_
                refine lv_iload hx hb d_M_read_167 (lv_at hl 0 rfl) ?_
                refine lv_iadd hx hb d_M_read_169 ?_
                refine sm_paI (L := 6) (n := ((3 * x1.toNatClampNeg) + x2.toNatClampNeg)) (x := ((τ77.1 31 ((3 * x1.toNatClampNeg) + x2.toNatClampNeg)) + (τ77.1 33 ((3 * x1.toNatClampNeg) + x2.toNatClampNeg)))) hx hb hK hP 31 30 rfl rfl hD hS (xb_in (xb_na (xb_nm (xb_lit (x := (3 : Int32)) 3 rfl) zc1.1.1) zc1.2.1) (by omega) (by decide)) (xb_cl (xb_na (xb_nm (xb_lit (x := (3 : Int32)) 3 rfl) zc1.1.1) zc1.2.1) (by omega)) sm_s_31 d_M_read_170 (fun H locs hP hS => ?_)
                refine lv_aload_n hx hb d_M_read_171 rfl (lv_at hl 3 rfl) ?_
                refine lv_iload_n hx hb d_M_read_172 rfl (lv_at hl 4 rfl) ?_
                refine lv_bipush (v := 93) hx hb d_M_read_173 (by decide) ?_
                refine lv_aload_n hx hb d_M_read_175 rfl (lv_at hl 3 rfl) ?_
                refine sm_g (v := .ref (α 29)) hx hb ht hown hK hP 31 (by decide) (ht _ xw983) (fun _ h_ => h_) rfl d_M_read_176 ?_
                refine lv_iload_n hx hb d_M_read_179 rfl (lv_at hl 2 rfl) ?_
                refine sm_gaJ (L := 6) (n := ((3 * x1.toNatClampNeg) + x2.toNatClampNeg)) (v := (τ77.2 29 ((3 * x1.toNatClampNeg) + x2.toNatClampNeg))) hx hb hK hP 29 28 rfl rfl (xb_in (xb_na (xb_nm (xb_lit (x := (3 : Int32)) 3 rfl) zc1.1.1) zc1.2.1) (by omega) (by decide)) (xb_cl (xb_na (xb_nm (xb_lit (x := (3 : Int32)) 3 rfl) zc1.1.1) zc1.2.1) (by omega)) ((xb_l_i).trans (xb_l_i)) d_M_read_180 ?_
                refine lv_iload hx hb d_M_read_181 (lv_at hl 0 rfl) ?_
                refine lv_i2l (v := (τ77.1 33 ((3 * x1.toNatClampNeg) + x2.toNatClampNeg)).toInt64) hx hb d_M_read_183 (by rfl) ?_
                refine lv_lconst (v := 0) hx hb d_M_read_184 (by decide) ?_
                refine lv_lconst (v := 0) hx hb d_M_read_185 (by decide) ?_
                refine sm_cv (va_runV (As := [.int x1, .int (93 : Int32), .long (τ77.2 29 ((3 * x1.toNatClampNeg) + x2.toNatClampNeg)), .long ((τ77.1 33 ((3 * x1.toNatClampNeg) + x2.toNatClampNeg)).toInt64), .long (0 : Int64), .long (0 : Int64)]) (rest := []) ⟨hx, hb, hml, hown, hts⟩ (c_M_send l D α κ hα (xb_si (xb_si τ77 33 ((3 * x1.toNatClampNeg) + x2.toNatClampNeg) (0 : Int32)) 31 ((3 * x1.toNatClampNeg) + x2.toNatClampNeg) ((τ77.1 31 ((3 * x1.toNatClampNeg) + x2.toNatClampNeg)) + (τ77.1 33 ((3 * x1.toNatClampNeg) + x2.toNatClampNeg)))) x1 x1.toNatClampNeg zc1.1.1 (by omega) (93 : Int32) (τ77.2 29 ((3 * x1.toNatClampNeg) + x2.toNatClampNeg)) ((τ77.1 33 ((3 * x1.toNatClampNeg) + x2.toNatClampNeg)).toInt64) (0 : Int64) (0 : Int64) (mk_tr okτ77 (by omega))) (cwV 6 hts (xa_V xw1084 xw1086 xs6 xw11 xw1087) rfl rfl rfl (by decide +kernel) ⟨Nat.le_of_ble_eq_true rfl, Nat.le_of_ble_eq_true rfl⟩) ⟨sm_blind, va_recv (q0 := 0) (ci := 9) hK hP rfl rfl, sm_pre hP hK hN _⟩ rfl rfl hl.1 rfl (lv_room (Nat.le_of_ble_eq_true rfl)) d_M_read_186 ⟨Nat.le_of_ble_eq_true rfl, Nat.le_of_ble_eq_true rfl⟩) hS (fun _ h_ => h_) (fun H locs hP hS => ?_)
                obtain ⟨τ2, hτ2⟩ : ∃ t_, t_ = (q_send x1.toNatClampNeg (93 : Int32) (τ77.2 29 ((3 * x1.toNatClampNeg) + x2.toNatClampNeg)) ((τ77.1 33 ((3 * x1.toNatClampNeg) + x2.toNatClampNeg)).toInt64) (0 : Int64) (0 : Int64) (xb_si (xb_si τ77 33 ((3 * x1.toNatClampNeg) + x2.toNatClampNeg) (0 : Int32)) 31 ((3 * x1.toNatClampNeg) + x2.toNatClampNeg) ((τ77.1 31 ((3 * x1.toNatClampNeg) + x2.toNatClampNeg)) + (τ77.1 33 ((3 * x1.toNatClampNeg) + x2.toNatClampNeg))))) := ⟨_, rfl⟩
                rw [← hτ2] at hP
                have okτ2 : sm_ok τ2 := by rw [hτ2]; exact (ok_q_send x1.toNatClampNeg (93 : Int32) (τ77.2 29 ((3 * x1.toNatClampNeg) + x2.toNatClampNeg)) ((τ77.1 33 ((3 * x1.toNatClampNeg) + x2.toNatClampNeg)).toInt64) (0 : Int64) (0 : Int64) (by omega) (mk_tr okτ77 (by omega)))
                refine lv_iload hx hb d_M_read_189 (lv_at hl 1 rfl) ?_
                exact W.iret (v := (σ.1 34 (32 * ((3 * x1.toNatClampNeg) + x2.toNatClampNeg)))) hx hb hr (fun t ht_ hW => ⟨⟨(σ.1 34 (32 * ((3 * x1.toNatClampNeg) + x2.toNatClampNeg))), τ2, rfl, ⟨congrArg Prod.fst (((by subst hτ2; subst hτ77; exact ((if_neg c1).trans ((if_neg c2).trans ((if_pos c6).trans ((if_pos c7).trans ((if_neg c8)))))).symm)) : ((σ.1 34 (32 * ((3 * x1.toNatClampNeg) + x2.toNatClampNeg))), τ2) = q_read x1 x2 σ), congrArg Prod.snd (((by subst hτ2; subst hτ77; exact ((if_neg c1).trans ((if_neg c2).trans ((if_pos c6).trans ((if_pos c7).trans ((if_neg c8)))))).symm)) : ((σ.1 34 (32 * ((3 * x1.toNatClampNeg) + x2.toNatClampNeg))), τ2) = q_read x1 x2 σ)⟩, by rw [sm_B, ht_]; exact hP⟩, hS.F ht_⟩) hS.2.2 d_M_read_191
        | succ n ih =>
          intro k τ77 ls H locs hk hmm hl hP hS hF
          refine lv_iload hx hb d_M_read_71 (lv_at hl 0 rfl) ?_
          refine lv_aload_n hx hb d_M_read_73 rfl (lv_at hl 3 rfl) ?_
          refine sm_g (v := .ref (α 32)) hx hb ht hown hK hP 34 (by decide) (ht _ xw986) (fun _ h_ => h_) rfl d_M_read_74 ?_
          refine lv_iload_n hx hb d_M_read_77 rfl (lv_at hl 2 rfl) ?_
          refine sm_gaI (L := 6) (n := ((3 * x1.toNatClampNeg) + x2.toNatClampNeg)) (v := (τ77.1 32 ((3 * x1.toNatClampNeg) + x2.toNatClampNeg))) hx hb hK hP 32 31 rfl rfl (xb_in (xb_na (xb_nm (xb_lit (x := (3 : Int32)) 3 rfl) zc1.1.1) zc1.2.1) (by omega) (by decide)) (xb_cl (xb_na (xb_nm (xb_lit (x := (3 : Int32)) 3 rfl) zc1.1.1) zc1.2.1) (by omega)) rfl d_M_read_78 ?_
          refine lv_icmp_ge (tgt := 114) hx hb d_M_read_79 (by decide) (fun h_ => absurd ((xb_leN hmm (xb_lit k rfl) (by omega) (by omega)).mp h_) (by omega)) (fun _ => ?_)
          refine lv_aload_n hx hb d_M_read_82 rfl (lv_at hl 3 rfl) ?_
          refine sm_g (v := .ref (α 34)) hx hb ht hown hK hP 36 (by decide) (ht _ xw988) (fun _ h_ => h_) rfl d_M_read_83 ?_
          refine lv_bipush (v := 32) hx hb d_M_read_86 (by decide) ?_
          refine lv_iload_n hx hb d_M_read_88 rfl (lv_at hl 2 rfl) ?_
          refine lv_imul hx hb d_M_read_89 ?_
          refine lv_iload hx hb d_M_read_90 (lv_at hl 0 rfl) ?_
          refine lv_iadd hx hb d_M_read_92 ?_
          refine lv_aload_n hx hb d_M_read_93 rfl (lv_at hl 3 rfl) ?_
          refine sm_g (v := .ref (α 34)) hx hb ht hown hK hP 36 (by decide) (ht _ xw988) (fun _ h_ => h_) rfl d_M_read_94 ?_
          refine lv_bipush (v := 32) hx hb d_M_read_97 (by decide) ?_
          refine lv_iload_n hx hb d_M_read_99 rfl (lv_at hl 2 rfl) ?_
          refine lv_imul hx hb d_M_read_100 ?_
          refine lv_iload hx hb d_M_read_101 (lv_at hl 0 rfl) ?_
          refine lv_iadd hx hb d_M_read_103 ?_
          refine lv_iconst (v := 1) hx hb d_M_read_104 (by decide) ?_
          refine lv_iadd hx hb d_M_read_105 ?_
          refine sm_gaI (L := 192) (n := (((32 * ((3 * x1.toNatClampNeg) + x2.toNatClampNeg)) + k) + 1)) (v := (τ77.1 34 (((32 * ((3 * x1.toNatClampNeg) + x2.toNatClampNeg)) + k) + 1))) hx hb hK hP 34 33 rfl rfl (xb_in (xb_na (xb_na (xb_nm (xb_lit (x := (32 : Int32)) 32 rfl) (xb_na (xb_nm (xb_lit (x := (3 : Int32)) 3 rfl) zc1.1.1) zc1.2.1)) (xb_lit k rfl)) (xb_lit (x := (1 : Int32)) 1 rfl)) (by omega) (by decide)) (xb_cl (xb_na (xb_na (xb_nm (xb_lit (x := (32 : Int32)) 32 rfl) (xb_na (xb_nm (xb_lit (x := (3 : Int32)) 3 rfl) zc1.1.1) zc1.2.1)) (xb_lit k rfl)) (xb_lit (x := (1 : Int32)) 1 rfl)) (by omega)) rfl d_M_read_106 ?_
          refine sm_paI (L := 192) (n := ((32 * ((3 * x1.toNatClampNeg) + x2.toNatClampNeg)) + k)) (x := (τ77.1 34 (((32 * ((3 * x1.toNatClampNeg) + x2.toNatClampNeg)) + k) + 1))) hx hb hK hP 34 33 rfl rfl hD hS (xb_in (xb_na (xb_nm (xb_lit (x := (32 : Int32)) 32 rfl) (xb_na (xb_nm (xb_lit (x := (3 : Int32)) 3 rfl) zc1.1.1) zc1.2.1)) (xb_lit k rfl)) (by omega) (by decide)) (xb_cl (xb_na (xb_nm (xb_lit (x := (32 : Int32)) 32 rfl) (xb_na (xb_nm (xb_lit (x := (3 : Int32)) 3 rfl) zc1.1.1) zc1.2.1)) (xb_lit k rfl)) (by omega)) sm_s_34 d_M_read_107 (fun H locs hP hS => ?_)
          refine lv_iinc (v := (nI (k + 1))) (k := 0) (lv' := [(5, .int (nI (k + 1))), (4, .int (σ.1 34 (32 * ((3 * x1.toNatClampNeg) + x2.toNatClampNeg)))), (3, .int (((3 : Int32) * x1) + x2)), (0, .ref (α 0)), (1, .int x1), (2, .int x2)]) hx hb d_M_read_108 hl rfl (nI_1 k) (by decide) rfl (fun ls hl => ?_)
          refine lv_goto (tgt := 71) hx hb d_M_read_111 (by decide) ?_
          exact ih (k + 1) _ ls _ _ (by omega) (by rw [xb_i_nk (by decide)]; exact hmm) hl hP hS hF
      exact loop ((σ.1 32 ((3 * x1.toNatClampNeg) + x2.toNatClampNeg)).toNatClampNeg - 1) 0 _ ls _ _ (by omega) (by rw [xb_i_nk (by decide), xb_i_hit]; exact xb_ns hm.1 (xb_lit (x := (1 : Int32)) 1 rfl) (by omega)) hl hP hS rfl
  · skip
    refine lv_aload_n hx hb d_M_read_8 rfl (lv_at hl 0 rfl) ?_
    refine lv_iconst (v := 1) hx hb d_M_read_9 (by decide) ?_
    refine sm_ci (va_runV (As := [.int (1 : Int32)]) (rest := []) ⟨hx, hb, hml, hown, hts⟩ (c_M_raise l D α κ hα σ (1 : Int32)) (cwV 1 hts (xa_V xw1076 xw1078 xs4 xw11 xw1079) rfl rfl rfl (by decide +kernel) ⟨Nat.le_of_ble_eq_true rfl, Nat.le_of_ble_eq_true rfl⟩) ⟨sm_blind, va_recv (q0 := 0) (ci := 9) hK hP rfl rfl, sm_pre hP hK hN _⟩ rfl rfl hl.1 rfl (lv_room (Nat.le_of_ble_eq_true rfl)) d_M_read_10 ⟨Nat.le_of_ble_eq_true rfl, Nat.le_of_ble_eq_true rfl⟩) hS (fun _ h_ => h_) (fun H locs hP hS => ?_)
    obtain ⟨τ3, hτ3⟩ : ∃ t_, t_ = (q_raise (1 : Int32) σ).2 := ⟨_, rfl⟩
    rw [← hτ3] at hP
    have okτ3 : sm_ok τ3 := by rw [hτ3]; exact (ok_q_raise (1 : Int32)  ok)
    obtain ⟨ρ3, hρ3⟩ : ∃ r_, r_ = (q_raise (1 : Int32) σ).1 := ⟨_, rfl⟩
    refine xb_ti (y := ρ3) hρ3.symm ?_
    exact W.iret (v := ρ3) hx hb hr (fun t ht_ hW => ⟨⟨ρ3, τ3, rfl, ⟨congrArg Prod.fst (((by subst hρ3; subst hτ3; exact ((if_pos c1)).symm)) : (ρ3, τ3) = q_read x1 x2 σ), congrArg Prod.snd (((by subst hρ3; subst hτ3; exact ((if_pos c1)).symm)) : (ρ3, τ3) = q_read x1 x2 σ)⟩, by rw [sm_B, ht_]; exact hP⟩, hS.F ht_⟩) hS.2.2 d_M_read_13
theorem ok_q_read {σ : xb_St} (x1 : Int32) (x2 : Int32)  (ok : sm_ok σ) : sm_ok (q_read x1 x2 σ).2 := by
  unfold q_read
  by_cases c1 : (g_isChannel x1 x2) = 0
  · rw [if_pos c1]
    exact (ok_q_raise (1 : Int32)  ok)
  · rw [if_neg c1]
    have zc1 := sm_chan c1
    obtain ⟨a0, b0, d0, hs0, ea, eb, ed⟩ := ok.2 ((3 * x1.toNatClampNeg) + x2.toNatClampNeg) (by omega)
    have hm := xb_nb eb (by omega)
    have hm0 : (σ.1 32 ((3 * x1.toNatClampNeg) + x2.toNatClampNeg)).toNatClampNeg ≤ 24 := by rw [hm.2]; omega
    by_cases c2 : (σ.1 32 ((3 * x1.toNatClampNeg) + x2.toNatClampNeg)) ≤ 0
    · rw [if_pos c2]
      by_cases c3 : (σ.1 4 x1.toNatClampNeg) = (4 : Int32)
      · rw [if_pos c3]
        by_cases c4 : (σ.1 28 ((3 * x1.toNatClampNeg) + x2.toNatClampNeg)) = (2 : Int32)
        · rw [if_pos c4]
          by_cases c5 : (σ.1 33 ((3 * x1.toNatClampNeg) + x2.toNatClampNeg)) < (12 : Int32)
          · rw [if_pos c5]
            exact (mk_si ok (by decide))
          · rw [if_neg c5]
            exact (ok_q_send x1.toNatClampNeg (93 : Int32) (σ.2 29 ((3 * x1.toNatClampNeg) + x2.toNatClampNeg)) ((σ.1 33 ((3 * x1.toNatClampNeg) + x2.toNatClampNeg)).toInt64) (0 : Int64) (0 : Int64) (by omega) (mk_tr (mk_si ok (by decide)) (by omega)))
        · rw [if_neg c4]
          exact (mk_si ok (by decide))
      · rw [if_neg c3]
        exact (mk_si ok (by decide))
    · rw [if_neg c2]
      by_cases c6 : ((f_rd ((σ.1 32 ((3 * x1.toNatClampNeg) + x2.toNatClampNeg)).toNatClampNeg - 1) ((3 * x1.toNatClampNeg) + x2.toNatClampNeg) 0 (xb_si (xb_si (xb_si σ 0 0 (0 : Int32)) 32 ((3 * x1.toNatClampNeg) + x2.toNatClampNeg) ((σ.1 32 ((3 * x1.toNatClampNeg) + x2.toNatClampNeg)) - (1 : Int32))) 33 ((3 * x1.toNatClampNeg) + x2.toNatClampNeg) ((σ.1 33 ((3 * x1.toNatClampNeg) + x2.toNatClampNeg)) + (1 : Int32)))).1 4 x1.toNatClampNeg) = (4 : Int32)
      · rw [if_pos c6]
        by_cases c7 : ((f_rd ((σ.1 32 ((3 * x1.toNatClampNeg) + x2.toNatClampNeg)).toNatClampNeg - 1) ((3 * x1.toNatClampNeg) + x2.toNatClampNeg) 0 (xb_si (xb_si (xb_si σ 0 0 (0 : Int32)) 32 ((3 * x1.toNatClampNeg) + x2.toNatClampNeg) ((σ.1 32 ((3 * x1.toNatClampNeg) + x2.toNatClampNeg)) - (1 : Int32))) 33 ((3 * x1.toNatClampNeg) + x2.toNatClampNeg) ((σ.1 33 ((3 * x1.toNatClampNeg) + x2.toNatClampNeg)) + (1 : Int32)))).1 28 ((3 * x1.toNatClampNeg) + x2.toNatClampNeg)) = (2 : Int32)
        · rw [if_pos c7]
          by_cases c8 : ((f_rd ((σ.1 32 ((3 * x1.toNatClampNeg) + x2.toNatClampNeg)).toNatClampNeg - 1) ((3 * x1.toNatClampNeg) + x2.toNatClampNeg) 0 (xb_si (xb_si (xb_si σ 0 0 (0 : Int32)) 32 ((3 * x1.toNatClampNeg) + x2.toNatClampNeg) ((σ.1 32 ((3 * x1.toNatClampNeg) + x2.toNatClampNeg)) - (1 : Int32))) 33 ((3 * x1.toNatClampNeg) + x2.toNatClampNeg) ((σ.1 33 ((3 * x1.toNatClampNeg) + x2.toNatClampNeg)) + (1 : Int32)))).1 33 ((3 * x1.toNatClampNeg) + x2.toNatClampNeg)) < (12 : Int32)
          · rw [if_pos c8]
            exact (ok_f_rd ((σ.1 32 ((3 * x1.toNatClampNeg) + x2.toNatClampNeg)).toNatClampNeg - 1) 0 (mk_byte (mk_si ok (by decide)) (by omega) c2))
          · rw [if_neg c8]
            exact (ok_q_send x1.toNatClampNeg (93 : Int32) ((f_rd ((σ.1 32 ((3 * x1.toNatClampNeg) + x2.toNatClampNeg)).toNatClampNeg - 1) ((3 * x1.toNatClampNeg) + x2.toNatClampNeg) 0 (xb_si (xb_si (xb_si σ 0 0 (0 : Int32)) 32 ((3 * x1.toNatClampNeg) + x2.toNatClampNeg) ((σ.1 32 ((3 * x1.toNatClampNeg) + x2.toNatClampNeg)) - (1 : Int32))) 33 ((3 * x1.toNatClampNeg) + x2.toNatClampNeg) ((σ.1 33 ((3 * x1.toNatClampNeg) + x2.toNatClampNeg)) + (1 : Int32)))).2 29 ((3 * x1.toNatClampNeg) + x2.toNatClampNeg)) (((f_rd ((σ.1 32 ((3 * x1.toNatClampNeg) + x2.toNatClampNeg)).toNatClampNeg - 1) ((3 * x1.toNatClampNeg) + x2.toNatClampNeg) 0 (xb_si (xb_si (xb_si σ 0 0 (0 : Int32)) 32 ((3 * x1.toNatClampNeg) + x2.toNatClampNeg) ((σ.1 32 ((3 * x1.toNatClampNeg) + x2.toNatClampNeg)) - (1 : Int32))) 33 ((3 * x1.toNatClampNeg) + x2.toNatClampNeg) ((σ.1 33 ((3 * x1.toNatClampNeg) + x2.toNatClampNeg)) + (1 : Int32)))).1 33 ((3 * x1.toNatClampNeg) + x2.toNatClampNeg)).toInt64) (0 : Int64) (0 : Int64) (by omega) (mk_tr (ok_f_rd ((σ.1 32 ((3 * x1.toNatClampNeg) + x2.toNatClampNeg)).toNatClampNeg - 1) 0 (mk_byte (mk_si ok (by decide)) (by omega) c2)) (by omega)))
        · rw [if_neg c7]
          exact (ok_f_rd ((σ.1 32 ((3 * x1.toNatClampNeg) + x2.toNatClampNeg)).toNatClampNeg - 1) 0 (mk_byte (mk_si ok (by decide)) (by omega) c2))
      · rw [if_neg c6]
        exact (ok_f_rd ((σ.1 32 ((3 * x1.toNatClampNeg) + x2.toNatClampNeg)).toNatClampNeg - 1) 0 (mk_byte (mk_si ok (by decide)) (by omega) c2))
