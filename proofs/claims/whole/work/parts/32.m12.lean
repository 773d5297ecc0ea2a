abbrev b_M_take : ByteArray := prog_12_method_28_code
def y_M_take : MethodName := ⟨"SecurePairModel", "take", "(IIJJJJ)V"⟩
abbrev w_M_take : List Cond := .code y_M_take b_M_take 12 none :: xa
theorem d_M_take_0 : decode b_M_take 0 = .ok (.aload_n 0, 1) := by decide +kernel
theorem d_M_take_1 : decode b_M_take 1 = .ok (.getfield 48, 3) := by decide +kernel
theorem d_M_take_4 : decode b_M_take 4 = .ok (.iload_n 1, 1) := by decide +kernel
theorem d_M_take_5 : decode b_M_take 5 = .ok (.baload, 1) := by decide +kernel
theorem d_M_take_6 : decode b_M_take 6 = .ok (.istore 11, 2) := by decide +kernel
theorem d_M_take_8 : decode b_M_take 8 = .ok (.iload_n 2, 1) := by decide +kernel
theorem d_M_take_9 : decode b_M_take 9 = .ok (.iconst 1, 1) := by decide +kernel
theorem d_M_take_10 : decode b_M_take 10 = .ok (.if_icmp .ne 20, 3) := by decide +kernel
theorem d_M_take_13 : decode b_M_take 13 = .ok (.aload_n 0, 1) := by decide +kernel
theorem d_M_take_14 : decode b_M_take 14 = .ok (.getfield 25, 3) := by decide +kernel
theorem d_M_take_17 : decode b_M_take 17 = .ok (.iload_n 1, 1) := by decide +kernel
theorem d_M_take_18 : decode b_M_take 18 = .ok (.iconst 5, 1) := by decide +kernel
theorem d_M_take_19 : decode b_M_take 19 = .ok (.iastore, 1) := by decide +kernel
theorem d_M_take_20 : decode b_M_take 20 = .ok (.aload_n 0, 1) := by decide +kernel
theorem d_M_take_21 : decode b_M_take 21 = .ok (.getfield 28, 3) := by decide +kernel
theorem d_M_take_24 : decode b_M_take 24 = .ok (.iload_n 1, 1) := by decide +kernel
theorem d_M_take_25 : decode b_M_take 25 = .ok (.lload_n 3, 1) := by decide +kernel
theorem d_M_take_26 : decode b_M_take 26 = .ok (.lastore, 1) := by decide +kernel
theorem d_M_take_27 : decode b_M_take 27 = .ok (.goto 196, 3) := by decide +kernel
theorem d_M_take_30 : decode b_M_take 30 = .ok (.iload_n 2, 1) := by decide +kernel
theorem d_M_take_31 : decode b_M_take 31 = .ok (.iconst 2, 1) := by decide +kernel
theorem d_M_take_32 : decode b_M_take 32 = .ok (.if_icmp .ne 23, 3) := by decide +kernel
theorem d_M_take_35 : decode b_M_take 35 = .ok (.aload_n 0, 1) := by decide +kernel
theorem d_M_take_36 : decode b_M_take 36 = .ok (.getfield 48, 3) := by decide +kernel
theorem d_M_take_39 : decode b_M_take 39 = .ok (.iload_n 1, 1) := by decide +kernel
theorem d_M_take_40 : decode b_M_take 40 = .ok (.baload, 1) := by decide +kernel
theorem d_M_take_41 : decode b_M_take 41 = .ok (.ifCond .ne 182, 3) := by decide +kernel
theorem d_M_take_44 : decode b_M_take 44 = .ok (.aload_n 0, 1) := by decide +kernel
theorem d_M_take_45 : decode b_M_take 45 = .ok (.iload_n 1, 1) := by decide +kernel
theorem d_M_take_46 : decode b_M_take 46 = .ok (.ldc2_w 134, 3) := by decide +kernel
theorem d_M_take_49 : decode b_M_take 49 = .ok (.invokevirtual 181, 3) := by decide +kernel
theorem d_M_take_52 : decode b_M_take 52 = .ok (.goto 171, 3) := by decide +kernel
theorem d_M_take_55 : decode b_M_take 55 = .ok (.iload_n 2, 1) := by decide +kernel
theorem d_M_take_56 : decode b_M_take 56 = .ok (.bipush 20, 2) := by decide +kernel
theorem d_M_take_58 : decode b_M_take 58 = .ok (.if_icmp .ne 16, 3) := by decide +kernel
theorem d_M_take_61 : decode b_M_take 61 = .ok (.aload_n 0, 1) := by decide +kernel
theorem d_M_take_62 : decode b_M_take 62 = .ok (.iload_n 1, 1) := by decide +kernel
theorem d_M_take_63 : decode b_M_take 63 = .ok (.lload_n 3, 1) := by decide +kernel
theorem d_M_take_64 : decode b_M_take 64 = .ok (.lload 5, 2) := by decide +kernel
theorem d_M_take_66 : decode b_M_take 66 = .ok (.lload 7, 2) := by decide +kernel
theorem d_M_take_68 : decode b_M_take 68 = .ok (.invokevirtual 230, 3) := by decide +kernel
theorem d_M_take_71 : decode b_M_take 71 = .ok (.goto 152, 3) := by decide +kernel
theorem d_M_take_74 : decode b_M_take 74 = .ok (.iload_n 2, 1) := by decide +kernel
theorem d_M_take_75 : decode b_M_take 75 = .ok (.bipush 30, 2) := by decide +kernel
theorem d_M_take_77 : decode b_M_take 77 = .ok (.if_icmp .ne 12, 3) := by decide +kernel
theorem d_M_take_80 : decode b_M_take 80 = .ok (.aload_n 0, 1) := by decide +kernel
theorem d_M_take_81 : decode b_M_take 81 = .ok (.iload_n 1, 1) := by decide +kernel
theorem d_M_take_82 : decode b_M_take 82 = .ok (.lload_n 3, 1) := by decide +kernel
theorem d_M_take_83 : decode b_M_take 83 = .ok (.invokevirtual 234, 3) := by decide +kernel
theorem d_M_take_86 : decode b_M_take 86 = .ok (.goto 137, 3) := by decide +kernel
theorem d_M_take_89 : decode b_M_take 89 = .ok (.iload_n 2, 1) := by decide +kernel
theorem d_M_take_90 : decode b_M_take 90 = .ok (.bipush 31, 2) := by decide +kernel
theorem d_M_take_92 : decode b_M_take 92 = .ok (.if_icmp .ne 18, 3) := by decide +kernel
theorem d_M_take_95 : decode b_M_take 95 = .ok (.aload_n 0, 1) := by decide +kernel
theorem d_M_take_96 : decode b_M_take 96 = .ok (.iload_n 1, 1) := by decide +kernel
theorem d_M_take_97 : decode b_M_take 97 = .ok (.lload_n 3, 1) := by decide +kernel
theorem d_M_take_98 : decode b_M_take 98 = .ok (.lload 5, 2) := by decide +kernel
theorem d_M_take_100 : decode b_M_take 100 = .ok (.lload 7, 2) := by decide +kernel
theorem d_M_take_102 : decode b_M_take 102 = .ok (.lload 9, 2) := by decide +kernel
theorem d_M_take_104 : decode b_M_take 104 = .ok (.invokevirtual 237, 3) := by decide +kernel
theorem d_M_take_107 : decode b_M_take 107 = .ok (.goto 116, 3) := by decide +kernel
theorem d_M_take_110 : decode b_M_take 110 = .ok (.iload_n 2, 1) := by decide +kernel
theorem d_M_take_111 : decode b_M_take 111 = .ok (.bipush 21, 2) := by decide +kernel
theorem d_M_take_113 : decode b_M_take 113 = .ok (.if_icmp .ne 43, 3) := by decide +kernel
theorem d_M_take_116 : decode b_M_take 116 = .ok (.aload_n 0, 1) := by decide +kernel
theorem d_M_take_117 : decode b_M_take 117 = .ok (.getfield 25, 3) := by decide +kernel
theorem d_M_take_120 : decode b_M_take 120 = .ok (.iload_n 1, 1) := by decide +kernel
theorem d_M_take_121 : decode b_M_take 121 = .ok (.iaload, 1) := by decide +kernel
theorem d_M_take_122 : decode b_M_take 122 = .ok (.iconst 3, 1) := by decide +kernel
theorem d_M_take_123 : decode b_M_take 123 = .ok (.if_icmp .ne 33, 3) := by decide +kernel
theorem d_M_take_126 : decode b_M_take 126 = .ok (.aload_n 0, 1) := by decide +kernel
theorem d_M_take_127 : decode b_M_take 127 = .ok (.iload_n 1, 1) := by decide +kernel
theorem d_M_take_128 : decode b_M_take 128 = .ok (.iconst 1, 1) := by decide +kernel
theorem d_M_take_129 : decode b_M_take 129 = .ok (.invokevirtual 194, 3) := by decide +kernel
theorem d_M_take_132 : decode b_M_take 132 = .ok (.aload_n 0, 1) := by decide +kernel
theorem d_M_take_133 : decode b_M_take 133 = .ok (.getfield 38, 3) := by decide +kernel
theorem d_M_take_136 : decode b_M_take 136 = .ok (.iload_n 1, 1) := by decide +kernel
theorem d_M_take_137 : decode b_M_take 137 = .ok (.iconst 0, 1) := by decide +kernel
theorem d_M_take_138 : decode b_M_take 138 = .ok (.iastore, 1) := by decide +kernel
theorem d_M_take_139 : decode b_M_take 139 = .ok (.aload_n 0, 1) := by decide +kernel
theorem d_M_take_140 : decode b_M_take 140 = .ok (.getfield 48, 3) := by decide +kernel
theorem d_M_take_143 : decode b_M_take 143 = .ok (.iload_n 1, 1) := by decide +kernel
theorem d_M_take_144 : decode b_M_take 144 = .ok (.iconst 1, 1) := by decide +kernel
theorem d_M_take_145 : decode b_M_take 145 = .ok (.bastore, 1) := by decide +kernel
theorem d_M_take_146 : decode b_M_take 146 = .ok (.aload_n 0, 1) := by decide +kernel
theorem d_M_take_147 : decode b_M_take 147 = .ok (.getfield 25, 3) := by decide +kernel
theorem d_M_take_150 : decode b_M_take 150 = .ok (.iload_n 1, 1) := by decide +kernel
theorem d_M_take_151 : decode b_M_take 151 = .ok (.iconst 4, 1) := by decide +kernel
theorem d_M_take_152 : decode b_M_take 152 = .ok (.iastore, 1) := by decide +kernel
theorem d_M_take_153 : decode b_M_take 153 = .ok (.goto 70, 3) := by decide +kernel
theorem d_M_take_156 : decode b_M_take 156 = .ok (.iload_n 2, 1) := by decide +kernel
theorem d_M_take_157 : decode b_M_take 157 = .ok (.bipush 90, 2) := by decide +kernel
theorem d_M_take_159 : decode b_M_take 159 = .ok (.if_icmp .ne 19, 3) := by decide +kernel
theorem d_M_take_162 : decode b_M_take 162 = .ok (.iload 11, 2) := by decide +kernel
theorem d_M_take_164 : decode b_M_take 164 = .ok (.ifCond .eq 14, 3) := by decide +kernel
theorem d_M_take_167 : decode b_M_take 167 = .ok (.aload_n 0, 1) := by decide +kernel
theorem d_M_take_168 : decode b_M_take 168 = .ok (.iload_n 1, 1) := by decide +kernel
theorem d_M_take_169 : decode b_M_take 169 = .ok (.lload_n 3, 1) := by decide +kernel
theorem d_M_take_170 : decode b_M_take 170 = .ok (.lload 5, 2) := by decide +kernel
theorem d_M_take_172 : decode b_M_take 172 = .ok (.invokevirtual 241, 3) := by decide +kernel
theorem d_M_take_175 : decode b_M_take 175 = .ok (.goto 48, 3) := by decide +kernel
theorem d_M_take_178 : decode b_M_take 178 = .ok (.iload_n 2, 1) := by decide +kernel
theorem d_M_take_179 : decode b_M_take 179 = .ok (.bipush 91, 2) := by decide +kernel
theorem d_M_take_181 : decode b_M_take 181 = .ok (.if_icmp .lt 9, 3) := by decide +kernel
theorem d_M_take_184 : decode b_M_take 184 = .ok (.iload_n 2, 1) := by decide +kernel
theorem d_M_take_185 : decode b_M_take 185 = .ok (.bipush 94, 2) := by decide +kernel
theorem d_M_take_187 : decode b_M_take 187 = .ok (.if_icmp .le 9, 3) := by decide +kernel
theorem d_M_take_190 : decode b_M_take 190 = .ok (.iload_n 2, 1) := by decide +kernel
theorem d_M_take_191 : decode b_M_take 191 = .ok (.bipush 97, 2) := by decide +kernel
theorem d_M_take_193 : decode b_M_take 193 = .ok (.if_icmp .ne 22, 3) := by decide +kernel
theorem d_M_take_196 : decode b_M_take 196 = .ok (.iload 11, 2) := by decide +kernel
theorem d_M_take_198 : decode b_M_take 198 = .ok (.ifCond .eq 17, 3) := by decide +kernel
theorem d_M_take_201 : decode b_M_take 201 = .ok (.aload_n 0, 1) := by decide +kernel
theorem d_M_take_202 : decode b_M_take 202 = .ok (.iload_n 1, 1) := by decide +kernel
theorem d_M_take_203 : decode b_M_take 203 = .ok (.iload_n 2, 1) := by decide +kernel
theorem d_M_take_204 : decode b_M_take 204 = .ok (.lload_n 3, 1) := by decide +kernel
theorem d_M_take_205 : decode b_M_take 205 = .ok (.lload 5, 2) := by decide +kernel
theorem d_M_take_207 : decode b_M_take 207 = .ok (.lload 7, 2) := by decide +kernel
theorem d_M_take_209 : decode b_M_take 209 = .ok (.invokevirtual 244, 3) := by decide +kernel
theorem d_M_take_212 : decode b_M_take 212 = .ok (.goto 11, 3) := by decide +kernel
theorem d_M_take_215 : decode b_M_take 215 = .ok (.aload_n 0, 1) := by decide +kernel
theorem d_M_take_216 : decode b_M_take 216 = .ok (.iload_n 1, 1) := by decide +kernel
theorem d_M_take_217 : decode b_M_take 217 = .ok (.ldc2_w 134, 3) := by decide +kernel
theorem d_M_take_220 : decode b_M_take 220 = .ok (.invokevirtual 181, 3) := by decide +kernel
theorem d_M_take_223 : decode b_M_take 223 = .ok (.return_, 1) := by decide +kernel
theorem xw965 : (Cond.fieldLink "SecurePairModel" (48 : Nat) "SecurePairModel" "turned" "[Z") ∈ xa := xa_t 965 (by decide +kernel) (by decide +kernel)
theorem xw1121 : (Cond.methodLink "SecurePairModel" (230 : Nat) ({ cls := "SecurePairModel", name := "initTaken", desc := "(IJJJ)V" } : MethodName)) ∈ xa := xa_t 1121 (by decide +kernel) (by decide +kernel)
theorem xw1123 : (Cond.instanceMethod ({ cls := "SecurePairModel", name := "initTaken", desc := "(IJJJ)V" } : MethodName)) ∈ xa := xa_t 1123 (by decide +kernel) (by decide +kernel)
theorem xw1124 : (Cond.code ({ cls := "SecurePairModel", name := "initTaken", desc := "(IJJJ)V" } : MethodName) prog_12_method_20_code (10 : Nat) (Option.none : Option ClassFile.FieldType)) ∈ xa := xa_t 1124 (by decide +kernel) (by decide +kernel)
theorem xw1138 : (Cond.methodLink "SecurePairModel" (234 : Nat) ({ cls := "SecurePairModel", name := "shareTaken", desc := "(IJ)V" } : MethodName)) ∈ xa := xa_t 1138 (by decide +kernel) (by decide +kernel)
theorem xw1140 : (Cond.instanceMethod ({ cls := "SecurePairModel", name := "shareTaken", desc := "(IJ)V" } : MethodName)) ∈ xa := xa_t 1140 (by decide +kernel) (by decide +kernel)
theorem xw1141 : (Cond.code ({ cls := "SecurePairModel", name := "shareTaken", desc := "(IJ)V" } : MethodName) prog_12_method_25_code (20 : Nat) (Option.none : Option ClassFile.FieldType)) ∈ xa := xa_t 1141 (by decide +kernel) (by decide +kernel)
theorem xw1164 : (Cond.methodLink "SecurePairModel" (237 : Nat) ({ cls := "SecurePairModel", name := "replyTaken", desc := "(IJJJJ)V" } : MethodName)) ∈ xa := xa_t 1164 (by decide +kernel) (by decide +kernel)
theorem xw1166 : (Cond.instanceMethod ({ cls := "SecurePairModel", name := "replyTaken", desc := "(IJJJJ)V" } : MethodName)) ∈ xa := xa_t 1166 (by decide +kernel) (by decide +kernel)
theorem xw1167 : (Cond.code ({ cls := "SecurePairModel", name := "replyTaken", desc := "(IJJJJ)V" } : MethodName) prog_12_method_26_code (14 : Nat) (Option.none : Option ClassFile.FieldType)) ∈ xa := xa_t 1167 (by decide +kernel) (by decide +kernel)
theorem xw1176 : (Cond.methodLink "SecurePairModel" (241 : Nat) ({ cls := "SecurePairModel", name := "opened", desc := "(IJJ)V" } : MethodName)) ∈ xa := xa_t 1176 (by decide +kernel) (by decide +kernel)
theorem xw1178 : (Cond.instanceMethod ({ cls := "SecurePairModel", name := "opened", desc := "(IJJ)V" } : MethodName)) ∈ xa := xa_t 1178 (by decide +kernel) (by decide +kernel)
theorem xw1179 : (Cond.code ({ cls := "SecurePairModel", name := "opened", desc := "(IJJ)V" } : MethodName) prog_12_method_31_code (8 : Nat) (Option.none : Option ClassFile.FieldType)) ∈ xa := xa_t 1179 (by decide +kernel) (by decide +kernel)
theorem xw1189 : (Cond.methodLink "SecurePairModel" (244 : Nat) ({ cls := "SecurePairModel", name := "onChannel", desc := "(IIJJJ)V" } : MethodName)) ∈ xa := xa_t 1189 (by decide +kernel) (by decide +kernel)
theorem xw1191 : (Cond.instanceMethod ({ cls := "SecurePairModel", name := "onChannel", desc := "(IIJJJ)V" } : MethodName)) ∈ xa := xa_t 1191 (by decide +kernel) (by decide +kernel)
theorem xw1192 : (Cond.code ({ cls := "SecurePairModel", name := "onChannel", desc := "(IIJJJ)V" } : MethodName) prog_12_method_32_code (14 : Nat) (Option.none : Option ClassFile.FieldType)) ∈ xa := xa_t 1192 (by decide +kernel) (by decide +kernel)
theorem xs11 : (Cond.selects "SecurePairModel" ⟨"SecurePairModel", "initTaken", "(IJJJ)V"⟩ ⟨"SecurePairModel", "initTaken", "(IJJJ)V"⟩) ∈ xa := xa_s 11 (by decide +kernel) (by decide +kernel)
theorem xs12 : (Cond.selects "SecurePairModel" ⟨"SecurePairModel", "shareTaken", "(IJ)V"⟩ ⟨"SecurePairModel", "shareTaken", "(IJ)V"⟩) ∈ xa := xa_s 12 (by decide +kernel) (by decide +kernel)
theorem xs17 : (Cond.selects "SecurePairModel" ⟨"SecurePairModel", "replyTaken", "(IJJJJ)V"⟩ ⟨"SecurePairModel", "replyTaken", "(IJJJJ)V"⟩) ∈ xa := xa_s 17 (by decide +kernel) (by decide +kernel)
theorem xs18 : (Cond.selects "SecurePairModel" ⟨"SecurePairModel", "opened", "(IJJ)V"⟩ ⟨"SecurePairModel", "opened", "(IJJ)V"⟩) ∈ xa := xa_s 18 (by decide +kernel) (by decide +kernel)
theorem xs21 : (Cond.selects "SecurePairModel" ⟨"SecurePairModel", "onChannel", "(IIJJJ)V"⟩ ⟨"SecurePairModel", "onChannel", "(IIJJJ)V"⟩) ∈ xa := xa_s 21 (by decide +kernel) (by decide +kernel)
def q_take (e1 : Nat) (x2 : Int32) (x3 : Int64) (x4 : Int64) (x5 : Int64) (x6 : Int64) (σ : xb_St) : xb_St := (if x2 = (1 : Int32) then (xb_sl (xb_si σ 4 e1 (5 : Int32)) 5 e1 x3) else (if x2 = (2 : Int32) then (if (σ.1 11 e1) = 0 then (q_fail e1 (2 : Int64) σ) else σ) else (if x2 = (20 : Int32) then (q_init e1 x3 x4 x5 σ) else (if x2 = (30 : Int32) then (q_share e1 x3 σ) else (if x2 = (31 : Int32) then (q_reply e1 x3 x4 x5 x6 σ) else (if x2 = (21 : Int32) then (if (σ.1 4 e1) = (3 : Int32) then (xb_si (xb_si (xb_si (q_change e1 1 σ) 8 e1 (0 : Int32)) 11 e1 (1 : Int32)) 4 e1 (4 : Int32)) else (q_fail e1 (2 : Int64) σ)) else (if x2 = (90 : Int32) then (if (σ.1 11 e1) = 0 then (q_fail e1 (2 : Int64) σ) else (q_opened e1 x3 x4 σ)) else (if x2 < (91 : Int32) then (if x2 = (97 : Int32) then (if (σ.1 11 e1) = 0 then (q_fail e1 (2 : Int64) σ) else (q_on e1 x2 x3 x4 x5 σ)) else (q_fail e1 (2 : Int64) σ)) else (if x2 ≤ (94 : Int32) then (if (σ.1 11 e1) = 0 then (q_fail e1 (2 : Int64) σ) else (q_on e1 x2 x3 x4 x5 σ)) else (if x2 = (97 : Int32) then (if (σ.1 11 e1) = 0 then (q_fail e1 (2 : Int64) σ) else (q_on e1 x2 x3 x4 x5 σ)) else (q_fail e1 (2 : Int64) σ)))))))))))
set_option maxHeartbeats 4000000 in
set_option maxRecDepth 100000 in
theorem c_M_take (l : Launch) (D : va_G) (α : Nat → Nat) (κ : Nat → ClassId) (hα : xb_inj α 35) (σ : xb_St) (x_e1 : Int32) (e1 : Nat) (e_e1 : x_e1 = nI e1) (b_e1 : e1 < 2) (x2 : Int32) (x3 : Int64) (x4 : Int64) (x5 : Int64) (x6 : Int64) (ok : sm_ok σ) : Met l y_M_take w_M_take ({ frames := 5, cells := 0, slots := 0, locals := 154 }) (va_Pc ([.ref (α 0), .int x_e1, .int x2, .long x3, .long x4, .long x5, .long x6]) (sm_Pre D α κ σ)) (va_Qv (fun u : xb_St => u = q_take e1 x2 x3 x4 x5 x6 σ) (sm_B D α κ) (xb_A α 35)) 0 0 (xb_A α 35) := by
  subst e_e1
  refine Met.ofW (cc := b_M_take) (maxL := 12) (ret := none) (by decide) rfl ?_
  intro p e s m args below meth c s₁ B_ hml hv
  obtain ⟨rfl, hP, hK, hN⟩ := hv
  have hx := B_.exec
  have hb := B_.bytes
  have hr := B_.returns
  have hts := atoms_spec (ws := w_M_take) B_.pre
  have ht : ∀ w ∈ xa, w.before _ s = true := fun w h => hts w (List.mem_cons_of_mem _ h)
  have hown : s.vm.findClass "SecurePairModel" = some m.cls := findClass_of_methodNamed B_.named
  have hlocks := B_.notSynchronized
  have hD := sm_D hα κ
  have hS : va_S (xb_A α 35) s.heap s.heap [] := va_S.rf
  have hl := lv_entry ([.ref (α 0), .int (nI e1), .int x2, .long x3, .long x4, .long x5, .long x6]) (n := 12) (Nat.le_of_ble_eq_true rfl)
  rw [lg_entry_eq]
  generalize (lg_sl ([.ref (α 0), .int (nI e1), .int x2, .long x3, .long x4, .long x5, .long x6]) ++ List.replicate (12 - (lg_sl ([.ref (α 0), .int (nI e1), .int x2, .long x3, .long x4, .long x5, .long x6])).length) Slot.unset).toArray = ls at hl ⊢
  have hl : lv_has ls 12 [(0, .ref (α 0)), (1, .int (nI e1)), (2, .int x2), (3, .long x3), (5, .long x4), (7, .long x5), (9, .long x6)] := hl
  refine lv_aload_n hx hb d_M_take_0 rfl (lv_at hl 0 rfl) ?_
  refine sm_g (v := .ref (α 11)) hx hb ht hown hK hP 13 (by decide) (ht _ xw965) (fun _ h_ => h_) rfl d_M_take_1 ?_
  refine lv_iload_n hx hb d_M_take_4 rfl (lv_at hl 1 rfl) ?_
  refine sm_gaZ (L := 2) (n := e1) (v := (σ.1 11 e1)) hx hb hK hP 11 10 rfl rfl (xb_in (xb_lit e1 rfl) (by omega) (by decide)) (xb_cl (xb_lit e1 rfl) (by omega)) rfl d_M_take_5 ?_
  refine lv_istore (lv' := [(11, .int (σ.1 11 e1)), (0, .ref (α 0)), (1, .int (nI e1)), (2, .int x2), (3, .long x3), (5, .long x4), (7, .long x5), (9, .long x6)]) hx hb d_M_take_6 hl (by decide) rfl (fun ls hl => ?_)
  refine lv_iload_n hx hb d_M_take_8 rfl (lv_at hl 3 rfl) ?_
  refine lv_iconst (v := 1) hx hb d_M_take_9 (by decide) ?_
  refine lv_icmp_ne (tgt := 30) hx hb d_M_take_10 (by decide) (fun c1 => ?_) (fun c1 => ?_)
  · skip
    refine lv_iload_n hx hb d_M_take_30 rfl (lv_at hl 3 rfl) ?_
    refine lv_iconst (v := 2) hx hb d_M_take_31 (by decide) ?_
    refine lv_icmp_ne (tgt := 55) hx hb d_M_take_32 (by decide) (fun c2 => ?_) (fun c2 => ?_)
    · skip
      refine lv_iload_n hx hb d_M_take_55 rfl (lv_at hl 3 rfl) ?_
      refine lv_bipush (v := 20) hx hb d_M_take_56 (by decide) ?_
      refine lv_icmp_ne (tgt := 74) hx hb d_M_take_58 (by decide) (fun c3 => ?_) (fun c3 => ?_)
      · skip
        refine lv_iload_n hx hb d_M_take_74 rfl (lv_at hl 3 rfl) ?_
        refine lv_bipush (v := 30) hx hb d_M_take_75 (by decide) ?_
        refine lv_icmp_ne (tgt := 89) hx hb d_M_take_77 (by decide) (fun c4 => ?_) (fun c4 => ?_)
        · skip
          refine lv_iload_n hx hb d_M_take_89 rfl (lv_at hl 3 rfl) ?_
          refine lv_bipush (v := 31) hx hb d_M_take_90 (by decide) ?_
          refine lv_icmp_ne (tgt := 110) hx hb d_M_take_92 (by decide) (fun c5 => ?_) (fun c5 => ?_)
          · skip
            refine lv_iload_n hx hb d_M_take_110 rfl (lv_at hl 3 rfl) ?_
            refine lv_bipush (v := 21) hx hb d_M_take_111 (by decide) ?_
            refine lv_icmp_ne (tgt := 156) hx hb d_M_take_113 (by decide) (fun c6 => ?_) (fun c6 => ?_)
            · skip
              refine lv_iload_n hx hb d_M_take_156 rfl (lv_at hl 3 rfl) ?_
              refine lv_bipush (v := 90) hx hb d_M_take_157 (by decide) ?_
              refine lv_icmp_ne (tgt := 178) hx hb d_M_take_159 (by decide) (fun c7 => ?_) (fun c7 => ?_)
              · skip
                refine lv_iload_n hx hb d_M_take_178 rfl (lv_at hl 3 rfl) ?_
                refine lv_bipush (v := 91) hx hb d_M_take_179 (by decide) ?_
                refine lv_icmp_lt (tgt := 190) hx hb d_M_take_181 (by decide) (fun c8 => ?_) (fun c8 => ?_)
                · skip
                  refine lv_iload_n hx hb d_M_take_190 rfl (lv_at hl 3 rfl) ?_
                  refine lv_bipush (v := 97) hx hb d_M_take_191 (by decide) ?_
                  refine lv_icmp_ne (tgt := 215) hx hb d_M_take_193 (by decide) (fun c9 => ?_) (fun c9 => ?_)
                  · skip
                    refine lv_aload_n hx hb d_M_take_215 rfl (lv_at hl 1 rfl) ?_
                    refine lv_iload_n hx hb d_M_take_216 rfl (lv_at hl 2 rfl) ?_
                    refine lv_ldc2 hx hb hown (ht _ xw1120) d_M_take_217 ?_
                    refine sm_cv (va_runV (As := [.int (nI e1), .long (2 : Int64)]) (rest := []) ⟨hx, hb, hml, hown, hts⟩ (c_M_fail l D α κ hα σ (nI e1) e1 (xb_lit e1 rfl) (by omega) (2 : Int64) ok) (cwV 2 hts (xa_V xw1112 xw1114 xs9 xw11 xw1115) rfl rfl rfl (by decide +kernel) ⟨Nat.le_of_ble_eq_true rfl, Nat.le_of_ble_eq_true rfl⟩) ⟨sm_blind, va_recv (q0 := 0) (ci := 9) hK hP rfl rfl, sm_pre hP hK hN _⟩ rfl rfl hl.1 rfl (lv_room (Nat.le_of_ble_eq_true rfl)) d_M_take_220 ⟨Nat.le_of_ble_eq_true rfl, Nat.le_of_ble_eq_true rfl⟩) hS (fun _ h_ => h_) (fun H locs hP hS => ?_)
                    obtain ⟨τ1, hτ1⟩ : ∃ t_, t_ = (q_fail e1 (2 : Int64) σ) := ⟨_, rfl⟩
                    rw [← hτ1] at hP
                    have okτ1 : sm_ok τ1 := by rw [hτ1]; exact (ok_q_fail e1 (2 : Int64) (by omega) ok)
                    exact W.vret hx hb hr (fun t ht_ hW => ⟨⟨τ1, rfl, (by subst hτ1; exact ((if_neg c1).trans ((if_neg c2).trans ((if_neg c3).trans ((if_neg c4).trans ((if_neg c5).trans ((if_neg c6).trans ((if_neg c7).trans ((if_pos c8).trans ((if_neg c9)))))))))).symm), by rw [sm_B, ht_]; exact hP⟩, hS.F ht_⟩) hS.2.2 d_M_take_223
                  · skip
                    refine lv_iload hx hb d_M_take_196 (lv_at hl 0 rfl) ?_
                    refine lv_if_eq (tgt := 215) hx hb d_M_take_198 (by decide) (fun c10 => ?_) (fun c10 => ?_)
                    · skip
                      refine lv_aload_n hx hb d_M_take_215 rfl (lv_at hl 1 rfl) ?_
                      refine lv_iload_n hx hb d_M_take_216 rfl (lv_at hl 2 rfl) ?_
                      refine lv_ldc2 hx hb hown (ht _ xw1120) d_M_take_217 ?_
                      refine sm_cv (va_runV (As := [.int (nI e1), .long (2 : Int64)]) (rest := []) ⟨hx, hb, hml, hown, hts⟩ (c_M_fail l D α κ hα σ (nI e1) e1 (xb_lit e1 rfl) (by omega) (2 : Int64) ok) (cwV 2 hts (xa_V xw1112 xw1114 xs9 xw11 xw1115) rfl rfl rfl (by decide +kernel) ⟨Nat.le_of_ble_eq_true rfl, Nat.le_of_ble_eq_true rfl⟩) ⟨sm_blind, va_recv (q0 := 0) (ci := 9) hK hP rfl rfl, sm_pre hP hK hN _⟩ rfl rfl hl.1 rfl (lv_room (Nat.le_of_ble_eq_true rfl)) d_M_take_220 ⟨Nat.le_of_ble_eq_true rfl, Nat.le_of_ble_eq_true rfl⟩) hS (fun _ h_ => h_) (fun H locs hP hS => ?_)
                      obtain ⟨τ2, hτ2⟩ : ∃ t_, t_ = (q_fail e1 (2 : Int64) σ) := ⟨_, rfl⟩
                      rw [← hτ2] at hP
                      have okτ2 : sm_ok τ2 := by rw [hτ2]; exact (ok_q_fail e1 (2 : Int64) (by omega) ok)
                      exact W.vret hx hb hr (fun t ht_ hW => ⟨⟨τ2, rfl, (by subst hτ2; exact ((if_neg c1).trans ((if_neg c2).trans ((if_neg c3).trans ((if_neg c4).trans ((if_neg c5).trans ((if_neg c6).trans ((if_neg c7).trans ((if_pos c8).trans ((if_pos c9).trans ((if_pos c10))))))))))).symm), by rw [sm_B, ht_]; exact hP⟩, hS.F ht_⟩) hS.2.2 d_M_take_223
                    · skip
                      refine lv_aload_n hx hb d_M_take_201 rfl (lv_at hl 1 rfl) ?_
                      refine lv_iload_n hx hb d_M_take_202 rfl (lv_at hl 2 rfl) ?_
                      refine lv_iload_n hx hb d_M_take_203 rfl (lv_at hl 3 rfl) ?_
                      refine lv_lload_n hx hb d_M_take_204 rfl (lv_at hl 4 rfl) ?_
                      refine lv_lload hx hb d_M_take_205 (lv_at hl 5 rfl) ?_
                      refine lv_lload hx hb d_M_take_207 (lv_at hl 6 rfl) ?_
                      refine sm_cv (va_runV (As := [.int (nI e1), .int x2, .long x3, .long x4, .long x5]) (rest := []) ⟨hx, hb, hml, hown, hts⟩ (c_M_onChannel l D α κ hα σ (nI e1) e1 (xb_lit e1 rfl) (by omega) x2 x3 x4 x5 ok) (cwV 5 hts (xa_V xw1189 xw1191 xs21 xw11 xw1192) rfl rfl rfl (by decide +kernel) ⟨Nat.le_of_ble_eq_true rfl, Nat.le_of_ble_eq_true rfl⟩) ⟨sm_blind, va_recv (q0 := 0) (ci := 9) hK hP rfl rfl, sm_pre hP hK hN _⟩ rfl rfl hl.1 rfl (lv_room (Nat.le_of_ble_eq_true rfl)) d_M_take_209 ⟨Nat.le_of_ble_eq_true rfl, Nat.le_of_ble_eq_true rfl⟩) hS (fun _ h_ => h_) (fun H locs hP hS => ?_)
                      obtain ⟨τ3, hτ3⟩ : ∃ t_, t_ = (q_on e1 x2 x3 x4 x5 σ) := ⟨_, rfl⟩
                      rw [← hτ3] at hP
                      have okτ3 : sm_ok τ3 := by rw [hτ3]; exact (ok_q_on e1 x2 x3 x4 x5 (by omega) ok)
                      refine lv_goto (tgt := 223) hx hb d_M_take_212 (by decide) ?_
                      exact W.vret hx hb hr (fun t ht_ hW => ⟨⟨τ3, rfl, (by subst hτ3; exact ((if_neg c1).trans ((if_neg c2).trans ((if_neg c3).trans ((if_neg c4).trans ((if_neg c5).trans ((if_neg c6).trans ((if_neg c7).trans ((if_pos c8).trans ((if_pos c9).trans ((if_neg c10))))))))))).symm), by rw [sm_B, ht_]; exact hP⟩, hS.F ht_⟩) hS.2.2 d_M_take_223
                · skip
                  refine lv_iload_n hx hb d_M_take_184 rfl (lv_at hl 3 rfl) ?_
                  refine lv_bipush (v := 94) hx hb d_M_take_185 (by decide) ?_
                  refine lv_icmp_le (tgt := 196) hx hb d_M_take_187 (by decide) (fun c11 => ?_) (fun c11 => ?_)
                  · skip
                    refine lv_iload hx hb d_M_take_196 (lv_at hl 0 rfl) ?_
                    refine lv_if_eq (tgt := 215) hx hb d_M_take_198 (by decide) (fun c12 => ?_) (fun c12 => ?_)
                    · skip
                      refine lv_aload_n hx hb d_M_take_215 rfl (lv_at hl 1 rfl) ?_
                      refine lv_iload_n hx hb d_M_take_216 rfl (lv_at hl 2 rfl) ?_
                      refine lv_ldc2 hx hb hown (ht _ xw1120) d_M_take_217 ?_
                      refine sm_cv (va_runV (As := [.int (nI e1), .long (2 : Int64)]) (rest := []) ⟨hx, hb, hml, hown, hts⟩ (c_M_fail l D α κ hα σ (nI e1) e1 (xb_lit e1 rfl) (by omega) (2 : Int64) ok) (cwV 2 hts (xa_V xw1112 xw1114 xs9 xw11 xw1115) rfl rfl rfl (by decide +kernel) ⟨Nat.le_of_ble_eq_true rfl, Nat.le_of_ble_eq_true rfl⟩) ⟨sm_blind, va_recv (q0 := 0) (ci := 9) hK hP rfl rfl, sm_pre hP hK hN _⟩ rfl rfl hl.1 rfl (lv_room (Nat.le_of_ble_eq_true rfl)) d_M_take_220 ⟨Nat.le_of_ble_eq_true rfl, Nat.le_of_ble_eq_true rfl⟩) hS (fun _ h_ => h_) (fun H locs hP hS => ?_)
                      obtain ⟨τ4, hτ4⟩ : ∃ t_, t_ = (q_fail e1 (2 : Int64) σ) := ⟨_, rfl⟩
                      rw [← hτ4] at hP
                      have okτ4 : sm_ok τ4 := by rw [hτ4]; exact (ok_q_fail e1 (2 : Int64) (by omega) ok)
                      exact W.vret hx hb hr (fun t ht_ hW => ⟨⟨τ4, rfl, (by subst hτ4; exact ((if_neg c1).trans ((if_neg c2).trans ((if_neg c3).trans ((if_neg c4).trans ((if_neg c5).trans ((if_neg c6).trans ((if_neg c7).trans ((if_neg c8).trans ((if_pos c11).trans ((if_pos c12))))))))))).symm), by rw [sm_B, ht_]; exact hP⟩, hS.F ht_⟩) hS.2.2 d_M_take_223
                    · skip
                      refine lv_aload_n hx hb d_M_take_201 rfl (lv_at hl 1 rfl) ?_
                      refine lv_iload_n hx hb d_M_take_202 rfl (lv_at hl 2 rfl) ?_
                      refine lv_iload_n hx hb d_M_take_203 rfl (lv_at hl 3 rfl) ?_
                      refine lv_lload_n hx hb d_M_take_204 rfl (lv_at hl 4 rfl) ?_
                      refine lv_lload hx hb d_M_take_205 (lv_at hl 5 rfl) ?_
                      refine lv_lload hx hb d_M_take_207 (lv_at hl 6 rfl) ?_
                      refine sm_cv (va_runV (As := [.int (nI e1), .int x2, .long x3, .long x4, .long x5]) (rest := []) ⟨hx, hb, hml, hown, hts⟩ (c_M_onChannel l D α κ hα σ (nI e1) e1 (xb_lit e1 rfl) (by omega) x2 x3 x4 x5 ok) (cwV 5 hts (xa_V xw1189 xw1191 xs21 xw11 xw1192) rfl rfl rfl (by decide +kernel) ⟨Nat.le_of_ble_eq_true rfl, Nat.le_of_ble_eq_true rfl⟩) ⟨sm_blind, va_recv (q0 := 0) (ci := 9) hK hP rfl rfl, sm_pre hP hK hN _⟩ rfl rfl hl.1 rfl (lv_room (Nat.le_of_ble_eq_true rfl)) d_M_take_209 ⟨Nat.le_of_ble_eq_true rfl, Nat.le_of_ble_eq_true rfl⟩) hS (fun _ h_ => h_) (fun H locs hP hS => ?_)
                      obtain ⟨τ5, hτ5⟩ : ∃ t_, t_ = (q_on e1 x2 x3 x4 x5 σ) := ⟨_, rfl⟩
                      rw [← hτ5] at hP
                      have okτ5 : sm_ok τ5 := by rw [hτ5]; exact (ok_q_on e1 x2 x3 x4 x5 (by omega) ok)
                      refine lv_goto (tgt := 223) hx hb d_M_take_212 (by decide) ?_
                      exact W.vret hx hb hr (fun t ht_ hW => ⟨⟨τ5, rfl, (by subst hτ5; exact ((if_neg c1).trans ((if_neg c2).trans ((if_neg c3).trans ((if_neg c4).trans ((if_neg c5).trans ((if_neg c6).trans ((if_neg c7).trans ((if_neg c8).trans ((if_pos c11).trans ((if_neg c12))))))))))).symm), by rw [sm_B, ht_]; exact hP⟩, hS.F ht_⟩) hS.2.2 d_M_take_223
                  · skip
                    refine lv_iload_n hx hb d_M_take_190 rfl (lv_at hl 3 rfl) ?_
                    refine lv_bipush (v := 97) hx hb d_M_take_191 (by decide) ?_
                    refine lv_icmp_ne (tgt := 215) hx hb d_M_take_193 (by decide) (fun c13 => ?_) (fun c13 => ?_)
                    · skip
                      refine lv_aload_n hx hb d_M_take_215 rfl (lv_at hl 1 rfl) ?_
                      refine lv_iload_n hx hb d_M_take_216 rfl (lv_at hl 2 rfl) ?_
                      refine lv_ldc2 hx hb hown (ht _ xw1120) d_M_take_217 ?_
                      refine sm_cv (va_runV (As := [.int (nI e1), .long (2 : Int64)]) (rest := []) ⟨hx, hb, hml, hown, hts⟩ (c_M_fail l D α κ hα σ (nI e1) e1 (xb_lit e1 rfl) (by omega) (2 : Int64) ok) (cwV 2 hts (xa_V xw1112 xw1114 xs9 xw11 xw1115) rfl rfl rfl (by decide +kernel) ⟨Nat.le_of_ble_eq_true rfl, Nat.le_of_ble_eq_true rfl⟩) ⟨sm_blind, va_recv (q0 := 0) (ci := 9) hK hP rfl rfl, sm_pre hP hK hN _⟩ rfl rfl hl.1 rfl (lv_room (Nat.le_of_ble_eq_true rfl)) d_M_take_220 ⟨Nat.le_of_ble_eq_true rfl, Nat.le_of_ble_eq_true rfl⟩) hS (fun _ h_ => h_) (fun H locs hP hS => ?_)
                      obtain ⟨τ6, hτ6⟩ : ∃ t_, t_ = (q_fail e1 (2 : Int64) σ) := ⟨_, rfl⟩
                      rw [← hτ6] at hP
                      have okτ6 : sm_ok τ6 := by rw [hτ6]; exact (ok_q_fail e1 (2 : Int64) (by omega) ok)
                      exact W.vret hx hb hr (fun t ht_ hW => ⟨⟨τ6, rfl, (by subst hτ6; exact ((if_neg c1).trans ((if_neg c2).trans ((if_neg c3).trans ((if_neg c4).trans ((if_neg c5).trans ((if_neg c6).trans ((if_neg c7).trans ((if_neg c8).trans ((if_neg c11).trans ((if_neg c13))))))))))).symm), by rw [sm_B, ht_]; exact hP⟩, hS.F ht_⟩) hS.2.2 d_M_take_223
                    · skip
                      refine lv_iload hx hb d_M_take_196 (lv_at hl 0 rfl) ?_
                      refine lv_if_eq (tgt := 215) hx hb d_M_take_198 (by decide) (fun c14 => ?_) (fun c14 => ?_)
                      · skip
                        refine lv_aload_n hx hb d_M_take_215 rfl (lv_at hl 1 rfl) ?_
                        refine lv_iload_n hx hb d_M_take_216 rfl (lv_at hl 2 rfl) ?_
                        refine lv_ldc2 hx hb hown (ht _ xw1120) d_M_take_217 ?_
                        refine sm_cv (va_runV (As := [.int (nI e1), .long (2 : Int64)]) (rest := []) ⟨hx, hb, hml, hown, hts⟩ (c_M_fail l D α κ hα σ (nI e1) e1 (xb_lit e1 rfl) (by omega) (2 : Int64) ok) (cwV 2 hts (xa_V xw1112 xw1114 xs9 xw11 xw1115) rfl rfl rfl (by decide +kernel) ⟨Nat.le_of_ble_eq_true rfl, Nat.le_of_ble_eq_true rfl⟩) ⟨sm_blind, va_recv (q0 := 0) (ci := 9) hK hP rfl rfl, sm_pre hP hK hN _⟩ rfl rfl hl.1 rfl (lv_room (Nat.le_of_ble_eq_true rfl)) d_M_take_220 ⟨Nat.le_of_ble_eq_true rfl, Nat.le_of_ble_eq_true rfl⟩) hS (fun _ h_ => h_) (fun H locs hP hS => ?_)
                        obtain ⟨τ7, hτ7⟩ : ∃ t_, t_ = (q_fail e1 (2 : Int64) σ) := ⟨_, rfl⟩
                        rw [← hτ7] at hP
                        have okτ7 : sm_ok τ7 := by rw [hτ7]; exact (ok_q_fail e1 (2 : Int64) (by omega) ok)
                        exact W.vret hx hb hr (fun t ht_ hW => ⟨⟨τ7, rfl, (by subst hτ7; exact ((if_neg c1).trans ((if_neg c2).trans ((if_neg c3).trans ((if_neg c4).trans ((if_neg c5).trans ((if_neg c6).trans ((if_neg c7).trans ((if_neg c8).trans ((if_neg c11).trans ((if_pos c13).trans ((if_pos c14)))))))))))).symm), by rw [sm_B, ht_]; exact hP⟩, hS.F ht_⟩) hS.2.2 d_M_take_223
                      · skip
                        refine lv_aload_n hx hb d_M_take_201 rfl (lv_at hl 1 rfl) ?_
                        refine lv_iload_n hx hb d_M_take_202 rfl (lv_at hl 2 rfl) ?_
                        refine lv_iload_n hx hb d_M_take_203 rfl (lv_at hl 3 rfl) ?_
                        refine lv_lload_n hx hb d_M_take_204 rfl (lv_at hl 4 rfl) ?_
                        refine lv_lload hx hb d_M_take_205 (lv_at hl 5 rfl) ?_
                        refine lv_lload hx hb d_M_take_207 (lv_at hl 6 rfl) ?_
                        refine sm_cv (va_runV (As := [.int (nI e1), .int x2, .long x3, .long x4, .long x5]) (rest := []) ⟨hx, hb, hml, hown, hts⟩ (c_M_onChannel l D α κ hα σ (nI e1) e1 (xb_lit e1 rfl) (by omega) x2 x3 x4 x5 ok) (cwV 5 hts (xa_V xw1189 xw1191 xs21 xw11 xw1192) rfl rfl rfl (by decide +kernel) ⟨Nat.le_of_ble_eq_true rfl, Nat.le_of_ble_eq_true rfl⟩) ⟨sm_blind, va_recv (q0 := 0) (ci := 9) hK hP rfl rfl, sm_pre hP hK hN _⟩ rfl rfl hl.1 rfl (lv_room (Nat.le_of_ble_eq_true rfl)) d_M_take_209 ⟨Nat.le_of_ble_eq_true rfl, Nat.le_of_ble_eq_true rfl⟩) hS (fun _ h_ => h_) (fun H locs hP hS => ?_)
                        obtain ⟨τ8, hτ8⟩ : ∃ t_, t_ = (q_on e1 x2 x3 x4 x5 σ) := ⟨_, rfl⟩
                        rw [← hτ8] at hP
                        have okτ8 : sm_ok τ8 := by rw [hτ8]; exact (ok_q_on e1 x2 x3 x4 x5 (by omega) ok)
                        refine lv_goto (tgt := 223) hx hb d_M_take_212 (by decide) ?_
                        exact W.vret hx hb hr (fun t ht_ hW => ⟨⟨τ8, rfl, (by subst hτ8; exact ((if_neg c1).trans ((if_neg c2).trans ((if_neg c3).trans ((if_neg c4).trans ((if_neg c5).trans ((if_neg c6).trans ((if_neg c7).trans ((if_neg c8).trans ((if_neg c11).trans ((if_pos c13).trans ((if_neg c14)))))))))))).symm), by rw [sm_B, ht_]; exact hP⟩, hS.F ht_⟩) hS.2.2 d_M_take_223
              · skip
                refine lv_iload hx hb d_M_take_162 (lv_at hl 0 rfl) ?_
                refine lv_if_eq (tgt := 178) hx hb d_M_take_164 (by decide) (fun c15 => ?_) (fun c15 => ?_)
                · skip
                  refine lv_iload_n hx hb d_M_take_178 rfl (lv_at hl 3 rfl) ?_
                  refine lv_bipush (v := 91) hx hb d_M_take_179 (by decide) ?_
                  refine lv_icmp_lt (tgt := 190) hx hb d_M_take_181 (by decide) (fun _ => ?_) (fun h_ => absurd h_ (by rw [c7]; decide))
                  refine lv_iload_n hx hb d_M_take_190 rfl (lv_at hl 3 rfl) ?_
                  refine lv_bipush (v := 97) hx hb d_M_take_191 (by decide) ?_
                  refine lv_icmp_ne (tgt := 215) hx hb d_M_take_193 (by decide) (fun _ => ?_) (fun h_ => absurd h_ (by rw [c7]; decide))
                  refine lv_aload_n hx hb d_M_take_215 rfl (lv_at hl 1 rfl) ?_
                  refine lv_iload_n hx hb d_M_take_216 rfl (lv_at hl 2 rfl) ?_
                  refine lv_ldc2 hx hb hown (ht _ xw1120) d_M_take_217 ?_
                  refine sm_cv (va_runV (As := [.int (nI e1), .long (2 : Int64)]) (rest := []) ⟨hx, hb, hml, hown, hts⟩ (c_M_fail l D α κ hα σ (nI e1) e1 (xb_lit e1 rfl) (by omega) (2 : Int64) ok) (cwV 2 hts (xa_V xw1112 xw1114 xs9 xw11 xw1115) rfl rfl rfl (by decide +kernel) ⟨Nat.le_of_ble_eq_true rfl, Nat.le_of_ble_eq_true rfl⟩) ⟨sm_blind, va_recv (q0 := 0) (ci := 9) hK hP rfl rfl, sm_pre hP hK hN _⟩ rfl rfl hl.1 rfl (lv_room (Nat.le_of_ble_eq_true rfl)) d_M_take_220 ⟨Nat.le_of_ble_eq_true rfl, Nat.le_of_ble_eq_true rfl⟩) hS (fun _ h_ => h_) (fun H locs hP hS => ?_)
                  obtain ⟨τ9, hτ9⟩ : ∃ t_, t_ = (q_fail e1 (2 : Int64) σ) := ⟨_, rfl⟩
                  rw [← hτ9] at hP
                  have okτ9 : sm_ok τ9 := by rw [hτ9]; exact (ok_q_fail e1 (2 : Int64) (by omega) ok)
                  exact W.vret hx hb hr (fun t ht_ hW => ⟨⟨τ9, rfl, (by subst hτ9; exact ((if_neg c1).trans ((if_neg c2).trans ((if_neg c3).trans ((if_neg c4).trans ((if_neg c5).trans ((if_neg c6).trans ((if_pos c7).trans ((if_pos c15))))))))).symm), by rw [sm_B, ht_]; exact hP⟩, hS.F ht_⟩) hS.2.2 d_M_take_223
                · skip
                  refine lv_aload_n hx hb d_M_take_167 rfl (lv_at hl 1 rfl) ?_
                  refine lv_iload_n hx hb d_M_take_168 rfl (lv_at hl 2 rfl) ?_
                  refine lv_lload_n hx hb d_M_take_169 rfl (lv_at hl 4 rfl) ?_
                  refine lv_lload hx hb d_M_take_170 (lv_at hl 5 rfl) ?_
                  refine sm_cv (va_runV (As := [.int (nI e1), .long x3, .long x4]) (rest := []) ⟨hx, hb, hml, hown, hts⟩ (c_M_opened l D α κ hα σ (nI e1) e1 (xb_lit e1 rfl) (by omega) x3 x4 ok) (cwV 3 hts (xa_V xw1176 xw1178 xs18 xw11 xw1179) rfl rfl rfl (by decide +kernel) ⟨Nat.le_of_ble_eq_true rfl, Nat.le_of_ble_eq_true rfl⟩) ⟨sm_blind, va_recv (q0 := 0) (ci := 9) hK hP rfl rfl, sm_pre hP hK hN _⟩ rfl rfl hl.1 rfl (lv_room (Nat.le_of_ble_eq_true rfl)) d_M_take_172 ⟨Nat.le_of_ble_eq_true rfl, Nat.le_of_ble_eq_true rfl⟩) hS (fun _ h_ => h_) (fun H locs hP hS => ?_)
                  obtain ⟨τ10, hτ10⟩ : ∃ t_, t_ = (q_opened e1 x3 x4 σ) := ⟨_, rfl⟩
                  rw [← hτ10] at hP
                  have okτ10 : sm_ok τ10 := by rw [hτ10]; exact (ok_q_opened e1 x3 x4 (by omega) ok)
                  refine lv_goto (tgt := 223) hx hb d_M_take_175 (by decide) ?_
                  exact W.vret hx hb hr (fun t ht_ hW => ⟨⟨τ10, rfl, (by subst hτ10; exact ((if_neg c1).trans ((if_neg c2).trans ((if_neg c3).trans ((if_neg c4).trans ((if_neg c5).trans ((if_neg c6).trans ((if_pos c7).trans ((if_neg c15))))))))).symm), by rw [sm_B, ht_]; exact hP⟩, hS.F ht_⟩) hS.2.2 d_M_take_223
            · skip
              refine lv_aload_n hx hb d_M_take_116 rfl (lv_at hl 1 rfl) ?_
              refine sm_g (v := .ref (α 4)) hx hb ht hown hK hP 6 (by decide) (ht _ xw958) (fun _ h_ => h_) rfl d_M_take_117 ?_
              refine lv_iload_n hx hb d_M_take_120 rfl (lv_at hl 2 rfl) ?_
              refine sm_gaI (L := 2) (n := e1) (v := (σ.1 4 e1)) hx hb hK hP 4 3 rfl rfl (xb_in (xb_lit e1 rfl) (by omega) (by decide)) (xb_cl (xb_lit e1 rfl) (by omega)) rfl d_M_take_121 ?_
              refine lv_iconst (v := 3) hx hb d_M_take_122 (by decide) ?_
              refine lv_icmp_ne (tgt := 156) hx hb d_M_take_123 (by decide) (fun c16 => ?_) (fun c16 => ?_)
              · skip
                refine lv_iload_n hx hb d_M_take_156 rfl (lv_at hl 3 rfl) ?_
                refine lv_bipush (v := 90) hx hb d_M_take_157 (by decide) ?_
                refine lv_icmp_ne (tgt := 178) hx hb d_M_take_159 (by decide) (fun _ => ?_) (fun h_ => absurd h_ (by rw [c6]; decide))
                refine lv_iload_n hx hb d_M_take_178 rfl (lv_at hl 3 rfl) ?_
                refine lv_bipush (v := 91) hx hb d_M_take_179 (by decide) ?_
                refine lv_icmp_lt (tgt := 190) hx hb d_M_take_181 (by decide) (fun _ => ?_) (fun h_ => absurd h_ (by rw [c6]; decide))
                refine lv_iload_n hx hb d_M_take_190 rfl (lv_at hl 3 rfl) ?_
                refine lv_bipush (v := 97) hx hb d_M_take_191 (by decide) ?_
                refine lv_icmp_ne (tgt := 215) hx hb d_M_take_193 (by decide) (fun _ => ?_) (fun h_ => absurd h_ (by rw [c6]; decide))
                refine lv_aload_n hx hb d_M_take_215 rfl (lv_at hl 1 rfl) ?_
                refine lv_iload_n hx hb d_M_take_216 rfl (lv_at hl 2 rfl) ?_
                refine lv_ldc2 hx hb hown (ht _ xw1120) d_M_take_217 ?_
                refine sm_cv (va_runV (As := [.int (nI e1), .long (2 : Int64)]) (rest := []) ⟨hx, hb, hml, hown, hts⟩ (c_M_fail l D α κ hα σ (nI e1) e1 (xb_lit e1 rfl) (by omega) (2 : Int64) ok) (cwV 2 hts (xa_V xw1112 xw1114 xs9 xw11 xw1115) rfl rfl rfl (by decide +kernel) ⟨Nat.le_of_ble_eq_true rfl, Nat.le_of_ble_eq_true rfl⟩) ⟨sm_blind, va_recv (q0 := 0) (ci := 9) hK hP rfl rfl, sm_pre hP hK hN _⟩ rfl rfl hl.1 rfl (lv_room (Nat.le_of_ble_eq_true rfl)) d_M_take_220 ⟨Nat.le_of_ble_eq_true rfl, Nat.le_of_ble_eq_true rfl⟩) hS (fun _ h_ => h_) (fun H locs hP hS => ?_)
                obtain ⟨τ11, hτ11⟩ : ∃ t_, t_ = (q_fail e1 (2 : Int64) σ) := ⟨_, rfl⟩
                rw [← hτ11] at hP
                have okτ11 : sm_ok τ11 := by rw [hτ11]; exact (ok_q_fail e1 (2 : Int64) (by omega) ok)
                exact W.vret hx hb hr (fun t ht_ hW => ⟨⟨τ11, rfl, (by subst hτ11; exact ((if_neg c1).trans ((if_neg c2).trans ((if_neg c3).trans ((if_neg c4).trans ((if_neg c5).trans ((if_pos c6).trans ((if_neg c16)))))))).symm), by rw [sm_B, ht_]; exact hP⟩, hS.F ht_⟩) hS.2.2 d_M_take_223
              · skip
                refine lv_aload_n hx hb d_M_take_126 rfl (lv_at hl 1 rfl) ?_
                refine lv_iload_n hx hb d_M_take_127 rfl (lv_at hl 2 rfl) ?_
                refine lv_iconst (v := 1) hx hb d_M_take_128 (by decide) ?_
                refine sm_cv (va_runV (As := [.int (nI e1), .int (1 : Int32)]) (rest := []) ⟨hx, hb, hml, hown, hts⟩ (c_M_change l D α κ hα σ (nI e1) e1 (xb_lit e1 rfl) (by omega) (1 : Int32) 1 (xb_lit (x := (1 : Int32)) 1 rfl) (by omega)) (cwV 2 hts (xa_V xw1160 xw1162 xs16 xw11 xw1163) rfl rfl rfl (by decide +kernel) ⟨Nat.le_of_ble_eq_true rfl, Nat.le_of_ble_eq_true rfl⟩) ⟨sm_blind, va_recv (q0 := 0) (ci := 9) hK hP rfl rfl, sm_pre hP hK hN _⟩ rfl rfl hl.1 rfl (lv_room (Nat.le_of_ble_eq_true rfl)) d_M_take_129 ⟨Nat.le_of_ble_eq_true rfl, Nat.le_of_ble_eq_true rfl⟩) hS (fun _ h_ => h_) (fun H locs hP hS => ?_)
                obtain ⟨τ12, hτ12⟩ : ∃ t_, t_ = (q_change e1 1 σ) := ⟨_, rfl⟩
                rw [← hτ12] at hP
                have okτ12 : sm_ok τ12 := by rw [hτ12]; exact (ok_q_change e1 1 (by omega) (by omega) ok)
                refine lv_aload_n hx hb d_M_take_132 rfl (lv_at hl 1 rfl) ?_
                refine sm_g (v := .ref (α 8)) hx hb ht hown hK hP 10 (by decide) (ht _ xw962) (fun _ h_ => h_) rfl d_M_take_133 ?_
                refine lv_iload_n hx hb d_M_take_136 rfl (lv_at hl 2 rfl) ?_
                refine lv_iconst (v := 0) hx hb d_M_take_137 (by decide) ?_
                refine sm_paI (L := 2) (n := e1) (x := (0 : Int32)) hx hb hK hP 8 7 rfl rfl hD hS (xb_in (xb_lit e1 rfl) (by omega) (by decide)) (xb_cl (xb_lit e1 rfl) (by omega)) sm_s_8 d_M_take_138 (fun H locs hP hS => ?_)
                refine lv_aload_n hx hb d_M_take_139 rfl (lv_at hl 1 rfl) ?_
                refine sm_g (v := .ref (α 11)) hx hb ht hown hK hP 13 (by decide) (ht _ xw965) (fun _ h_ => h_) rfl d_M_take_140 ?_
                refine lv_iload_n hx hb d_M_take_143 rfl (lv_at hl 2 rfl) ?_
                refine lv_iconst (v := 1) hx hb d_M_take_144 (by decide) ?_
                refine sm_paZ (L := 2) (n := e1) (x := (1 : Int32)) hx hb hK hP 11 10 rfl rfl hD hS rfl (xb_in (xb_lit e1 rfl) (by omega) (by decide)) (xb_cl (xb_lit e1 rfl) (by omega)) sm_s_11 d_M_take_145 (fun H locs hP hS => ?_)
                refine lv_aload_n hx hb d_M_take_146 rfl (lv_at hl 1 rfl) ?_
                refine sm_g (v := .ref (α 4)) hx hb ht hown hK hP 6 (by decide) (ht _ xw958) (fun _ h_ => h_) rfl d_M_take_147 ?_
                refine lv_iload_n hx hb d_M_take_150 rfl (lv_at hl 2 rfl) ?_
                refine lv_iconst (v := 4) hx hb d_M_take_151 (by decide) ?_
                refine sm_paI (L := 2) (n := e1) (x := (4 : Int32)) hx hb hK hP 4 3 rfl rfl hD hS (xb_in (xb_lit e1 rfl) (by omega) (by decide)) (xb_cl (xb_lit e1 rfl) (by omega)) sm_s_4 d_M_take_152 (fun H locs hP hS => ?_)
                refine lv_goto (tgt := 223) hx hb d_M_take_153 (by decide) ?_
                exact W.vret hx hb hr (fun t ht_ hW => ⟨⟨(xb_si (xb_si (xb_si τ12 8 e1 (0 : Int32)) 11 e1 (1 : Int32)) 4 e1 (4 : Int32)), rfl, (by subst hτ12; exact ((if_neg c1).trans ((if_neg c2).trans ((if_neg c3).trans ((if_neg c4).trans ((if_neg c5).trans ((if_pos c6).trans ((if_pos c16)))))))).symm), by rw [sm_B, ht_]; exact hP⟩, hS.F ht_⟩) hS.2.2 d_M_take_223
          · skip
            refine lv_aload_n hx hb d_M_take_95 rfl (lv_at hl 1 rfl) ?_
            refine lv_iload_n hx hb d_M_take_96 rfl (lv_at hl 2 rfl) ?_
            refine lv_lload_n hx hb d_M_take_97 rfl (lv_at hl 4 rfl) ?_
            refine lv_lload hx hb d_M_take_98 (lv_at hl 5 rfl) ?_
            refine lv_lload hx hb d_M_take_100 (lv_at hl 6 rfl) ?_
            refine lv_lload hx hb d_M_take_102 (lv_at hl 7 rfl) ?_
            refine sm_cv (va_runV (As := [.int (nI e1), .long x3, .long x4, .long x5, .long x6]) (rest := []) ⟨hx, hb, hml, hown, hts⟩ (c_M_replyTaken l D α κ hα σ (nI e1) e1 (xb_lit e1 rfl) (by omega) x3 x4 x5 x6 ok) (cwV 5 hts (xa_V xw1164 xw1166 xs17 xw11 xw1167) rfl rfl rfl (by decide +kernel) ⟨Nat.le_of_ble_eq_true rfl, Nat.le_of_ble_eq_true rfl⟩) ⟨sm_blind, va_recv (q0 := 0) (ci := 9) hK hP rfl rfl, sm_pre hP hK hN _⟩ rfl rfl hl.1 rfl (lv_room (Nat.le_of_ble_eq_true rfl)) d_M_take_104 ⟨Nat.le_of_ble_eq_true rfl, Nat.le_of_ble_eq_true rfl⟩) hS (fun _ h_ => h_) (fun H locs hP hS => ?_)
            obtain ⟨τ13, hτ13⟩ : ∃ t_, t_ = (q_reply e1 x3 x4 x5 x6 σ) := ⟨_, rfl⟩
            rw [← hτ13] at hP
            have okτ13 : sm_ok τ13 := by rw [hτ13]; exact (ok_q_reply e1 x3 x4 x5 x6 (by omega) ok)
            refine lv_goto (tgt := 223) hx hb d_M_take_107 (by decide) ?_
            exact W.vret hx hb hr (fun t ht_ hW => ⟨⟨τ13, rfl, (by subst hτ13; exact ((if_neg c1).trans ((if_neg c2).trans ((if_neg c3).trans ((if_neg c4).trans ((if_pos c5)))))).symm), by rw [sm_B, ht_]; exact hP⟩, hS.F ht_⟩) hS.2.2 d_M_take_223
        · skip
          refine lv_aload_n hx hb d_M_take_80 rfl (lv_at hl 1 rfl) ?_
          refine lv_iload_n hx hb d_M_take_81 rfl (lv_at hl 2 rfl) ?_
          refine lv_lload_n hx hb d_M_take_82 rfl (lv_at hl 4 rfl) ?_
          refine sm_cv (va_runV (As := [.int (nI e1), .long x3]) (rest := []) ⟨hx, hb, hml, hown, hts⟩ (c_M_shareTaken l D α κ hα σ (nI e1) e1 (xb_lit e1 rfl) (by omega) x3 ok) (cwV 2 hts (xa_V xw1138 xw1140 xs12 xw11 xw1141) rfl rfl rfl (by decide +kernel) ⟨Nat.le_of_ble_eq_true rfl, Nat.le_of_ble_eq_true rfl⟩) ⟨sm_blind, va_recv (q0 := 0) (ci := 9) hK hP rfl rfl, sm_pre hP hK hN _⟩ rfl rfl hl.1 rfl (lv_room (Nat.le_of_ble_eq_true rfl)) d_M_take_83 ⟨Nat.le_of_ble_eq_true rfl, Nat.le_of_ble_eq_true rfl⟩) hS (fun _ h_ => h_) (fun H locs hP hS => ?_)
          obtain ⟨τ14, hτ14⟩ : ∃ t_, t_ = (q_share e1 x3 σ) := ⟨_, rfl⟩
          rw [← hτ14] at hP
          have okτ14 : sm_ok τ14 := by rw [hτ14]; exact (ok_q_share e1 x3 (by omega) ok)
          refine lv_goto (tgt := 223) hx hb d_M_take_86 (by decide) ?_
          exact W.vret hx hb hr (fun t ht_ hW => ⟨⟨τ14, rfl, (by subst hτ14; exact ((if_neg c1).trans ((if_neg c2).trans ((if_neg c3).trans ((if_pos c4))))).symm), by rw [sm_B, ht_]; exact hP⟩, hS.F ht_⟩) hS.2.2 d_M_take_223
      · skip
        refine lv_aload_n hx hb d_M_take_61 rfl (lv_at hl 1 rfl) ?_
        refine lv_iload_n hx hb d_M_take_62 rfl (lv_at hl 2 rfl) ?_
        refine lv_lload_n hx hb d_M_take_63 rfl (lv_at hl 4 rfl) ?_
        refine lv_lload hx hb d_M_take_64 (lv_at hl 5 rfl) ?_
        refine lv_lload hx hb d_M_take_66 (lv_at hl 6 rfl) ?_
        refine sm_cv (va_runV (As := [.int (nI e1), .long x3, .long x4, .long x5]) (rest := []) ⟨hx, hb, hml, hown, hts⟩ (c_M_initTaken l D α κ hα σ (nI e1) e1 (xb_lit e1 rfl) (by omega) x3 x4 x5 ok) (cwV 4 hts (xa_V xw1121 xw1123 xs11 xw11 xw1124) rfl rfl rfl (by decide +kernel) ⟨Nat.le_of_ble_eq_true rfl, Nat.le_of_ble_eq_true rfl⟩) ⟨sm_blind, va_recv (q0 := 0) (ci := 9) hK hP rfl rfl, sm_pre hP hK hN _⟩ rfl rfl hl.1 rfl (lv_room (Nat.le_of_ble_eq_true rfl)) d_M_take_68 ⟨Nat.le_of_ble_eq_true rfl, Nat.le_of_ble_eq_true rfl⟩) hS (fun _ h_ => h_) (fun H locs hP hS => ?_)
        obtain ⟨τ15, hτ15⟩ : ∃ t_, t_ = (q_init e1 x3 x4 x5 σ) := ⟨_, rfl⟩
        rw [← hτ15] at hP
        have okτ15 : sm_ok τ15 := by rw [hτ15]; exact (ok_q_init e1 x3 x4 x5 (by omega) ok)
        refine lv_goto (tgt := 223) hx hb d_M_take_71 (by decide) ?_
        exact W.vret hx hb hr (fun t ht_ hW => ⟨⟨τ15, rfl, (by subst hτ15; exact ((if_neg c1).trans ((if_neg c2).trans ((if_pos c3)))).symm), by rw [sm_B, ht_]; exact hP⟩, hS.F ht_⟩) hS.2.2 d_M_take_223
    · skip
      refine lv_aload_n hx hb d_M_take_35 rfl (lv_at hl 1 rfl) ?_
      refine sm_g (v := .ref (α 11)) hx hb ht hown hK hP 13 (by decide) (ht _ xw965) (fun _ h_ => h_) rfl d_M_take_36 ?_
      refine lv_iload_n hx hb d_M_take_39 rfl (lv_at hl 2 rfl) ?_
      refine sm_gaZ (L := 2) (n := e1) (v := (σ.1 11 e1)) hx hb hK hP 11 10 rfl rfl (xb_in (xb_lit e1 rfl) (by omega) (by decide)) (xb_cl (xb_lit e1 rfl) (by omega)) rfl d_M_take_40 ?_
      refine lv_if_ne (tgt := 223) hx hb d_M_take_41 (by decide) (fun c17 => ?_) (fun c17 => ?_)
      · skip
        exact W.vret hx hb hr (fun t ht_ hW => ⟨⟨σ, rfl, ((if_neg c1).trans ((if_pos c2).trans ((if_neg c17)))).symm, by rw [sm_B, ht_]; exact hP⟩, hS.F ht_⟩) hS.2.2 d_M_take_223
      · skip
        refine lv_aload_n hx hb d_M_take_44 rfl (lv_at hl 1 rfl) ?_
        refine lv_iload_n hx hb d_M_take_45 rfl (lv_at hl 2 rfl) ?_
        refine lv_ldc2 hx hb hown (ht _ xw1120) d_M_take_46 ?_
        refine sm_cv (va_runV (As := [.int (nI e1), .long (2 : Int64)]) (rest := []) ⟨hx, hb, hml, hown, hts⟩ (c_M_fail l D α κ hα σ (nI e1) e1 (xb_lit e1 rfl) (by omega) (2 : Int64) ok) (cwV 2 hts (xa_V xw1112 xw1114 xs9 xw11 xw1115) rfl rfl rfl (by decide +kernel) ⟨Nat.le_of_ble_eq_true rfl, Nat.le_of_ble_eq_true rfl⟩) ⟨sm_blind, va_recv (q0 := 0) (ci := 9) hK hP rfl rfl, sm_pre hP hK hN _⟩ rfl rfl hl.1 rfl (lv_room (Nat.le_of_ble_eq_true rfl)) d_M_take_49 ⟨Nat.le_of_ble_eq_true rfl, Nat.le_of_ble_eq_true rfl⟩) hS (fun _ h_ => h_) (fun H locs hP hS => ?_)
        obtain ⟨τ16, hτ16⟩ : ∃ t_, t_ = (q_fail e1 (2 : Int64) σ) := ⟨_, rfl⟩
        rw [← hτ16] at hP
        have okτ16 : sm_ok τ16 := by rw [hτ16]; exact (ok_q_fail e1 (2 : Int64) (by omega) ok)
        refine lv_goto (tgt := 223) hx hb d_M_take_52 (by decide) ?_
        exact W.vret hx hb hr (fun t ht_ hW => ⟨⟨τ16, rfl, (by subst hτ16; exact ((if_neg c1).trans ((if_pos c2).trans ((if_pos c17)))).symm), by rw [sm_B, ht_]; exact hP⟩, hS.F ht_⟩) hS.2.2 d_M_take_223
  · skip
    refine lv_aload_n hx hb d_M_take_13 rfl (lv_at hl 1 rfl) ?_
    refine sm_g (v := .ref (α 4)) hx hb ht hown hK hP 6 (by decide) (ht _ xw958) (fun _ h_ => h_) rfl d_M_take_14 ?_
    refine lv_iload_n hx hb d_M_take_17 rfl (lv_at hl 2 rfl) ?_
    refine lv_iconst (v := 5) hx hb d_M_take_18 (by decide) ?_
    refine sm_paI (L := 2) (n := e1) (x := (5 : Int32)) hx hb hK hP 4 3 rfl rfl hD hS (xb_in (xb_lit e1 rfl) (by omega) (by decide)) (xb_cl (xb_lit e1 rfl) (by omega)) sm_s_4 d_M_take_19 (fun H locs hP hS => ?_)
    refine lv_aload_n hx hb d_M_take_20 rfl (lv_at hl 1 rfl) ?_
    refine sm_g (v := .ref (α 5)) hx hb ht hown hK hP 7 (by decide) (ht _ xw959) (fun _ h_ => h_) rfl d_M_take_21 ?_
    refine lv_iload_n hx hb d_M_take_24 rfl (lv_at hl 2 rfl) ?_
    refine lv_lload_n hx hb d_M_take_25 rfl (lv_at hl 4 rfl) ?_
    refine sm_paJ (L := 2) (n := e1) (x := x3) hx hb hK hP 5 4 rfl rfl hD hS (xb_in (xb_lit e1 rfl) (by omega) (by decide)) (xb_cl (xb_lit e1 rfl) (by omega)) sm_s_5 d_M_take_26 (fun H locs hP hS => ?_)
    refine lv_goto (tgt := 223) hx hb d_M_take_27 (by decide) ?_
    exact W.vret hx hb hr (fun t ht_ hW => ⟨⟨(xb_sl (xb_si σ 4 e1 (5 : Int32)) 5 e1 x3), rfl, ((if_pos c1)).symm, by rw [sm_B, ht_]; exact hP⟩, hS.F ht_⟩) hS.2.2 d_M_take_223
theorem ok_q_take {σ : xb_St} (e1 : Nat) (x2 : Int32) (x3 : Int64) (x4 : Int64) (x5 : Int64) (x6 : Int64) (b_e1 : e1 < 2) (ok : sm_ok σ) : sm_ok (q_take e1 x2 x3 x4 x5 x6 σ) := by
  unfold q_take
  by_cases c1 : x2 = (1 : Int32)
  · rw [if_pos c1]
    exact (mk_sl (mk_si ok (by decide)))
  · rw [if_neg c1]
    by_cases c2 : x2 = (2 : Int32)
    · rw [if_pos c2]
      by_cases c17 : (σ.1 11 e1) = 0
      · rw [if_pos c17]
        exact (ok_q_fail e1 (2 : Int64) (by omega) ok)
      · rw [if_neg c17]
        exact ok
    · rw [if_neg c2]
      by_cases c3 : x2 = (20 : Int32)
      · rw [if_pos c3]
        exact (ok_q_init e1 x3 x4 x5 (by omega) ok)
      · rw [if_neg c3]
        by_cases c4 : x2 = (30 : Int32)
        · rw [if_pos c4]
          exact (ok_q_share e1 x3 (by omega) ok)
        · rw [if_neg c4]
          by_cases c5 : x2 = (31 : Int32)
          · rw [if_pos c5]
            exact (ok_q_reply e1 x3 x4 x5 x6 (by omega) ok)
          · rw [if_neg c5]
            by_cases c6 : x2 = (21 : Int32)
            · rw [if_pos c6]
              by_cases c16 : (σ.1 4 e1) = (3 : Int32)
              · rw [if_pos c16]
                exact (mk_si (mk_si (mk_si (ok_q_change e1 1 (by omega) (by omega) ok) (by decide)) (by decide)) (by decide))
              · rw [if_neg c16]
                exact (ok_q_fail e1 (2 : Int64) (by omega) ok)
            · rw [if_neg c6]
              by_cases c7 : x2 = (90 : Int32)
              · rw [if_pos c7]
                by_cases c15 : (σ.1 11 e1) = 0
                · rw [if_pos c15]
                  exact (ok_q_fail e1 (2 : Int64) (by omega) ok)
                · rw [if_neg c15]
                  exact (ok_q_opened e1 x3 x4 (by omega) ok)
              · rw [if_neg c7]
                by_cases c8 : x2 < (91 : Int32)
                · rw [if_pos c8]
                  by_cases c9 : x2 = (97 : Int32)
                  · rw [if_pos c9]
                    by_cases c10 : (σ.1 11 e1) = 0
                    · rw [if_pos c10]
                      exact (ok_q_fail e1 (2 : Int64) (by omega) ok)
                    · rw [if_neg c10]
                      exact (ok_q_on e1 x2 x3 x4 x5 (by omega) ok)
                  · rw [if_neg c9]
                    exact (ok_q_fail e1 (2 : Int64) (by omega) ok)
                · rw [if_neg c8]
                  by_cases c11 : x2 ≤ (94 : Int32)
                  · rw [if_pos c11]
                    by_cases c12 : (σ.1 11 e1) = 0
                    · rw [if_pos c12]
                      exact (ok_q_fail e1 (2 : Int64) (by omega) ok)
                    · rw [if_neg c12]
                      exact (ok_q_on e1 x2 x3 x4 x5 (by omega) ok)
                  · rw [if_neg c11]
                    by_cases c13 : x2 = (97 : Int32)
                    · rw [if_pos c13]
                      by_cases c14 : (σ.1 11 e1) = 0
                      · rw [if_pos c14]
                        exact (ok_q_fail e1 (2 : Int64) (by omega) ok)
                      · rw [if_neg c14]
                        exact (ok_q_on e1 x2 x3 x4 x5 (by omega) ok)
                    · rw [if_neg c13]
                      exact (ok_q_fail e1 (2 : Int64) (by omega) ok)
