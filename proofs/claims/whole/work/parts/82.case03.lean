theorem xw336 : (Cond.methodLink "SecurePairLaw" (42 : Nat) ({ cls := "SecurePair", name := "offer", desc := "(III)Z" } : MethodName)) ∈ xa := xa_t 336 (by decide +kernel) (by decide +kernel)
theorem xw337 : (Cond.instanceMethod ({ cls := "SecurePair", name := "offer", desc := "(III)Z" } : MethodName)) ∈ xa := xa_t 337 (by decide +kernel) (by decide +kernel)
theorem xw338 : (Cond.selects "SecurePair" ({ cls := "SecurePair", name := "offer", desc := "(III)Z" } : MethodName) ({ cls := "SecurePair", name := "offer", desc := "(III)Z" } : MethodName)) ∈ xa := xa_t 338 (by decide +kernel) (by decide +kernel)
theorem xw339 : (Cond.code ({ cls := "SecurePair", name := "offer", desc := "(III)Z" } : MethodName) prog_1_method_2_code (5 : Nat) (Option.some ClassFile.FieldType.boolean)) ∈ xa := xa_t 339 (by decide +kernel) (by decide +kernel)
theorem xw349 : (Cond.methodLink "SecurePairLaw" (47 : Nat) ({ cls := "SecurePair", name := "secret", desc := "(II)Z" } : MethodName)) ∈ xa := xa_t 349 (by decide +kernel) (by decide +kernel)
theorem xw350 : (Cond.instanceMethod ({ cls := "SecurePair", name := "secret", desc := "(II)Z" } : MethodName)) ∈ xa := xa_t 350 (by decide +kernel) (by decide +kernel)
theorem xw351 : (Cond.selects "SecurePair" ({ cls := "SecurePair", name := "secret", desc := "(II)Z" } : MethodName) ({ cls := "SecurePair", name := "secret", desc := "(II)Z" } : MethodName)) ∈ xa := xa_t 351 (by decide +kernel) (by decide +kernel)
theorem xw352 : (Cond.code ({ cls := "SecurePair", name := "secret", desc := "(II)Z" } : MethodName) prog_1_method_3_code (4 : Nat) (Option.some ClassFile.FieldType.boolean)) ∈ xa := xa_t 352 (by decide +kernel) (by decide +kernel)
theorem xw357 : (Cond.methodLink "SecurePairLaw" (52 : Nat) ({ cls := "SecurePair", name := "host", desc := "(I)I" } : MethodName)) ∈ xa := xa_t 357 (by decide +kernel) (by decide +kernel)
theorem xw358 : (Cond.instanceMethod ({ cls := "SecurePair", name := "host", desc := "(I)I" } : MethodName)) ∈ xa := xa_t 358 (by decide +kernel) (by decide +kernel)
theorem xw359 : (Cond.selects "SecurePair" ({ cls := "SecurePair", name := "host", desc := "(I)I" } : MethodName) ({ cls := "SecurePair", name := "host", desc := "(I)I" } : MethodName)) ∈ xa := xa_t 359 (by decide +kernel) (by decide +kernel)
theorem xw360 : (Cond.code ({ cls := "SecurePair", name := "host", desc := "(I)I" } : MethodName) prog_1_method_4_code (2 : Nat) (Option.some ClassFile.FieldType.int)) ∈ xa := xa_t 360 (by decide +kernel) (by decide +kernel)
theorem xw365 : (Cond.methodLink "SecurePairLaw" (56 : Nat) ({ cls := "SecurePair", name := "trust", desc := "(I)V" } : MethodName)) ∈ xa := xa_t 365 (by decide +kernel) (by decide +kernel)
theorem xw366 : (Cond.instanceMethod ({ cls := "SecurePair", name := "trust", desc := "(I)V" } : MethodName)) ∈ xa := xa_t 366 (by decide +kernel) (by decide +kernel)
theorem xw367 : (Cond.selects "SecurePair" ({ cls := "SecurePair", name := "trust", desc := "(I)V" } : MethodName) ({ cls := "SecurePair", name := "trust", desc := "(I)V" } : MethodName)) ∈ xa := xa_t 367 (by decide +kernel) (by decide +kernel)
theorem xw368 : (Cond.code ({ cls := "SecurePair", name := "trust", desc := "(I)V" } : MethodName) prog_1_method_5_code (2 : Nat) (Option.none : Option ClassFile.FieldType)) ∈ xa := xa_t 368 (by decide +kernel) (by decide +kernel)
theorem xw1214 : (Cond.methodLink "SecurePairLaw" (46 : Nat) ({ cls := "SecurePairModel", name := "offer", desc := "(III)Z" } : MethodName)) ∈ xa := xa_t 1214 (by decide +kernel) (by decide +kernel)
theorem xw1215 : (Cond.instanceMethod ({ cls := "SecurePairModel", name := "offer", desc := "(III)Z" } : MethodName)) ∈ xa := xa_t 1215 (by decide +kernel) (by decide +kernel)
theorem xw1216 : (Cond.selects "SecurePairModel" ({ cls := "SecurePairModel", name := "offer", desc := "(III)Z" } : MethodName) ({ cls := "SecurePairModel", name := "offer", desc := "(III)Z" } : MethodName)) ∈ xa := xa_t 1216 (by decide +kernel) (by decide +kernel)
theorem xw1217 : (Cond.code ({ cls := "SecurePairModel", name := "offer", desc := "(III)Z" } : MethodName) prog_12_method_38_code (4 : Nat) (Option.some ClassFile.FieldType.boolean)) ∈ xa := xa_t 1217 (by decide +kernel) (by decide +kernel)
theorem xw1218 : (Cond.methodLink "SecurePairLaw" (51 : Nat) ({ cls := "SecurePairModel", name := "secret", desc := "(II)Z" } : MethodName)) ∈ xa := xa_t 1218 (by decide +kernel) (by decide +kernel)
theorem xw1219 : (Cond.instanceMethod ({ cls := "SecurePairModel", name := "secret", desc := "(II)Z" } : MethodName)) ∈ xa := xa_t 1219 (by decide +kernel) (by decide +kernel)
theorem xw1220 : (Cond.selects "SecurePairModel" ({ cls := "SecurePairModel", name := "secret", desc := "(II)Z" } : MethodName) ({ cls := "SecurePairModel", name := "secret", desc := "(II)Z" } : MethodName)) ∈ xa := xa_t 1220 (by decide +kernel) (by decide +kernel)
theorem xw1221 : (Cond.code ({ cls := "SecurePairModel", name := "secret", desc := "(II)Z" } : MethodName) prog_12_method_39_code (3 : Nat) (Option.some ClassFile.FieldType.boolean)) ∈ xa := xa_t 1221 (by decide +kernel) (by decide +kernel)
theorem xw1223 : (Cond.methodLink "SecurePairLaw" (55 : Nat) ({ cls := "SecurePairModel", name := "host", desc := "(I)I" } : MethodName)) ∈ xa := xa_t 1223 (by decide +kernel) (by decide +kernel)
theorem xw1224 : (Cond.instanceMethod ({ cls := "SecurePairModel", name := "host", desc := "(I)I" } : MethodName)) ∈ xa := xa_t 1224 (by decide +kernel) (by decide +kernel)
theorem xw1225 : (Cond.selects "SecurePairModel" ({ cls := "SecurePairModel", name := "host", desc := "(I)I" } : MethodName) ({ cls := "SecurePairModel", name := "host", desc := "(I)I" } : MethodName)) ∈ xa := xa_t 1225 (by decide +kernel) (by decide +kernel)
theorem xw1226 : (Cond.code ({ cls := "SecurePairModel", name := "host", desc := "(I)I" } : MethodName) prog_12_method_40_code (2 : Nat) (Option.some ClassFile.FieldType.int)) ∈ xa := xa_t 1226 (by decide +kernel) (by decide +kernel)
theorem xw1227 : (Cond.methodLink "SecurePairLaw" (60 : Nat) ({ cls := "SecurePairModel", name := "trust", desc := "(I)V" } : MethodName)) ∈ xa := xa_t 1227 (by decide +kernel) (by decide +kernel)
theorem xw1228 : (Cond.instanceMethod ({ cls := "SecurePairModel", name := "trust", desc := "(I)V" } : MethodName)) ∈ xa := xa_t 1228 (by decide +kernel) (by decide +kernel)
theorem xw1229 : (Cond.selects "SecurePairModel" ({ cls := "SecurePairModel", name := "trust", desc := "(I)V" } : MethodName) ({ cls := "SecurePairModel", name := "trust", desc := "(I)V" } : MethodName)) ∈ xa := xa_t 1229 (by decide +kernel) (by decide +kernel)
theorem xw1230 : (Cond.code ({ cls := "SecurePairModel", name := "trust", desc := "(I)V" } : MethodName) prog_12_method_41_code (2 : Nat) (Option.none : Option ClassFile.FieldType)) ∈ xa := xa_t 1230 (by decide +kernel) (by decide +kernel)
section LWC
variable {p : Program} {l : Launch} {e : Env} {s : State} {m : MethodId} {below : List Frame} {meth : Method} {c : Code} {H : Heap} {locs : List Loc} {cells slots : Nat} {Q : State → Prop}
variable {pc : Nat} {ls : Array Slot} {rest st0 : List Value} {b L : Nat} {xs : Nat → Int32} {D : va_G} {α : Nat → Nat} {κ : Nat → ClassId} {μ : Nat → Nat} {ν : Nat → ClassId} {oa : Nat} {ko : ClassId} {σ τ : xb_St} {g : Nat → Int64} {i : Nat}
set_option maxHeartbeats 4000000 in
set_option maxRecDepth 100000 in
theorem lw_k0 (F : lw_F p l s m c b L xs D α κ μ ν oa ko) (I : lw_I D α κ μ ν oa ko s H locs σ τ g) (hl : lv_has ls 7 (lw_ls b α μ oa i)) (hi : i + 7 ≤ L) (hcl : cells + 1 ≤ 601024) (hsl : slots + 6 ≤ 7293034)
    (kk : ∀ (H : Heap) (locs : List Loc) (σ τ : xb_St) (g : Nat → Int64) (ls : Array Slot), lw_I D α κ μ ν oa ko s H locs σ τ g → lv_has ls 7 (lw_ls b α μ oa i) → W p l e room_1 s m #[Value.ref b] below meth c H locs (cells + 1) (slots + 6) Q (F0 m 1196 ls [])) : W p l e room_1 s m #[Value.ref b] below meth c H locs cells slots Q (F0 m 144 ls []) := by
  obtain ⟨⟨hx, hb, hml, hown, ht, htr⟩, ⟨hX, hbl, hL⟩, ⟨hα, hμ, hA1, hA2, hA3, ho, ho2, hd1⟩, hK, hKm, hN, hG, hC⟩ := id F
  obtain ⟨hP, hM, hR, hS⟩ := I
  have ok := Rel_sp hR
  have om := Rel_sm hR
  have hts := lw_hts ht
  refine lv_aload_n hx hb d_lw_144 rfl (lv_at hl 1 rfl) ?_
  refine lv_aload_n hx hb d_lw_145 rfl (lv_at hl 0 rfl) ?_
  refine lv_iload hx hb d_lw_146 (lv_at hl 4 rfl) ?_
  refine lv_iconst (v := 1) hx hb d_lw_148 (by decide) ?_
  refine lw_rd2 F hS (k := 1) rfl (by omega) d_lw_149 d_lw_150 ?_
  refine lv_aload_n hx hb d_lw_151 rfl (lv_at hl 0 rfl) ?_
  refine lv_iload hx hb d_lw_152 (lv_at hl 4 rfl) ?_
  refine lv_iconst (v := 2) hx hb d_lw_154 (by decide) ?_
  refine lw_rd2 F hS (k := 2) rfl (by omega) d_lw_155 d_lw_156 ?_
  refine lv_aload_n hx hb d_lw_157 rfl (lv_at hl 0 rfl) ?_
  refine lv_iload hx hb d_lw_158 (lv_at hl 4 rfl) ?_
  refine lv_iconst (v := 3) hx hb d_lw_160 (by decide) ?_
  refine lw_rd2 F hS (k := 3) rfl (by omega) d_lw_161 d_lw_162 ?_
  refine lp_i F hP hM hS (As := [.int (xs (i + 1)), .int (xs (i + 2)), .int (xs (i + 3))]) (rest := []) (c_P_offer l D α κ hα σ 0 (xs (i + 1)) (xs (i + 2)) (xs (i + 3)) rfl) (cwV 3 hts (xa_V xw336 xw337 xw338 xw1 xw339) rfl rfl rfl (by decide +kernel) ⟨Nat.le_of_ble_eq_true rfl, Nat.le_of_ble_eq_true rfl⟩) rfl hl.1 rfl (Nat.le_of_ble_eq_true rfl) d_lw_163 (by omega) (by omega) (fun H locs hP hM hS => ?_)
  refine lv_aload_n hx hb d_lw_166 rfl (lv_at hl 2 rfl) ?_
  refine lv_aload_n hx hb d_lw_167 rfl (lv_at hl 0 rfl) ?_
  refine lv_iload hx hb d_lw_168 (lv_at hl 4 rfl) ?_
  refine lv_iconst (v := 1) hx hb d_lw_170 (by decide) ?_
  refine lw_rd2 F hS (k := 1) rfl (by omega) d_lw_171 d_lw_172 ?_
  refine lv_aload_n hx hb d_lw_173 rfl (lv_at hl 0 rfl) ?_
  refine lv_iload hx hb d_lw_174 (lv_at hl 4 rfl) ?_
  refine lv_iconst (v := 2) hx hb d_lw_176 (by decide) ?_
  refine lw_rd2 F hS (k := 2) rfl (by omega) d_lw_177 d_lw_178 ?_
  refine lv_aload_n hx hb d_lw_179 rfl (lv_at hl 0 rfl) ?_
  refine lv_iload hx hb d_lw_180 (lv_at hl 4 rfl) ?_
  refine lv_iconst (v := 3) hx hb d_lw_182 (by decide) ?_
  refine lw_rd2 F hS (k := 3) rfl (by omega) d_lw_183 d_lw_184 ?_
  refine lm_i F hP hM hS (As := [.int (xs (i + 1)), .int (xs (i + 2)), .int (xs (i + 3))]) (rest := [.int (p_offer 0 (xs (i + 1)) (xs (i + 2)) (xs (i + 3)) σ).1]) (c_M_offer l D μ ν hμ τ (xs (i + 1)) (xs (i + 2)) (xs (i + 3))) (cwV 3 hts (xa_V xw1214 xw1215 xw1216 xw11 xw1217) rfl rfl rfl (by decide +kernel) ⟨Nat.le_of_ble_eq_true rfl, Nat.le_of_ble_eq_true rfl⟩) rfl hl.1 rfl (Nat.le_of_ble_eq_true rfl) d_lw_185 (by omega) (by omega) (fun H locs hP hM hS => ?_)
  have K := K_offer (Z := 0) hR (xs (i + 1)) (xs (i + 2)) (xs (i + 3))
  refine lv_icmp_eq (tgt := 1196) hx hb d_lw_188 (by decide) (fun _ => ?_) (fun z => absurd K.1 z)
  refine W.widen (k := cells + 1) (n := slots + 6) (by omega) (by omega) ?_
  exact kk _ _ _ _ _ _ ⟨hP, hM, K.2, hS⟩ hl
set_option maxHeartbeats 4000000 in
set_option maxRecDepth 100000 in
theorem lw_k1 (F : lw_F p l s m c b L xs D α κ μ ν oa ko) (I : lw_I D α κ μ ν oa ko s H locs σ τ g) (hl : lv_has ls 7 (lw_ls b α μ oa i)) (hi : i + 7 ≤ L) (hcl : cells + 1 ≤ 601024) (hsl : slots + 6 ≤ 7293034)
    (kk : ∀ (H : Heap) (locs : List Loc) (σ τ : xb_St) (g : Nat → Int64) (ls : Array Slot), lw_I D α κ μ ν oa ko s H locs σ τ g → lv_has ls 7 (lw_ls b α μ oa i) → W p l e room_1 s m #[Value.ref b] below meth c H locs (cells + 1) (slots + 6) Q (F0 m 1196 ls [])) : W p l e room_1 s m #[Value.ref b] below meth c H locs cells slots Q (F0 m 193 ls []) := by
  obtain ⟨⟨hx, hb, hml, hown, ht, htr⟩, ⟨hX, hbl, hL⟩, ⟨hα, hμ, hA1, hA2, hA3, ho, ho2, hd1⟩, hK, hKm, hN, hG, hC⟩ := id F
  obtain ⟨hP, hM, hR, hS⟩ := I
  have ok := Rel_sp hR
  have om := Rel_sm hR
  have hts := lw_hts ht
  refine lv_aload_n hx hb d_lw_193 rfl (lv_at hl 1 rfl) ?_
  refine lv_aload_n hx hb d_lw_194 rfl (lv_at hl 0 rfl) ?_
  refine lv_iload hx hb d_lw_195 (lv_at hl 4 rfl) ?_
  refine lv_iconst (v := 1) hx hb d_lw_197 (by decide) ?_
  refine lw_rd2 F hS (k := 1) rfl (by omega) d_lw_198 d_lw_199 ?_
  refine lv_aload_n hx hb d_lw_200 rfl (lv_at hl 0 rfl) ?_
  refine lv_iload hx hb d_lw_201 (lv_at hl 4 rfl) ?_
  refine lv_iconst (v := 2) hx hb d_lw_203 (by decide) ?_
  refine lw_rd2 F hS (k := 2) rfl (by omega) d_lw_204 d_lw_205 ?_
  refine lp_i F hP hM hS (As := [.int (xs (i + 1)), .int (xs (i + 2))]) (rest := []) (c_P_secret l D α κ hα σ 0 (xs (i + 1)) (xs (i + 2)) rfl) (cwV 2 hts (xa_V xw349 xw350 xw351 xw1 xw352) rfl rfl rfl (by decide +kernel) ⟨Nat.le_of_ble_eq_true rfl, Nat.le_of_ble_eq_true rfl⟩) rfl hl.1 rfl (Nat.le_of_ble_eq_true rfl) d_lw_206 (by omega) (by omega) (fun H locs hP hM hS => ?_)
  refine lv_aload_n hx hb d_lw_209 rfl (lv_at hl 2 rfl) ?_
  refine lv_aload_n hx hb d_lw_210 rfl (lv_at hl 0 rfl) ?_
  refine lv_iload hx hb d_lw_211 (lv_at hl 4 rfl) ?_
  refine lv_iconst (v := 1) hx hb d_lw_213 (by decide) ?_
  refine lw_rd2 F hS (k := 1) rfl (by omega) d_lw_214 d_lw_215 ?_
  refine lv_aload_n hx hb d_lw_216 rfl (lv_at hl 0 rfl) ?_
  refine lv_iload hx hb d_lw_217 (lv_at hl 4 rfl) ?_
  refine lv_iconst (v := 2) hx hb d_lw_219 (by decide) ?_
  refine lw_rd2 F hS (k := 2) rfl (by omega) d_lw_220 d_lw_221 ?_
  refine lm_i F hP hM hS (As := [.int (xs (i + 1)), .int (xs (i + 2))]) (rest := [.int (p_secret 0 (xs (i + 1)) (xs (i + 2)) σ).1]) (c_M_secret l D μ ν hμ τ (xs (i + 1)) (xs (i + 2))) (cwV 2 hts (xa_V xw1218 xw1219 xw1220 xw11 xw1221) rfl rfl rfl (by decide +kernel) ⟨Nat.le_of_ble_eq_true rfl, Nat.le_of_ble_eq_true rfl⟩) rfl hl.1 rfl (Nat.le_of_ble_eq_true rfl) d_lw_222 (by omega) (by omega) (fun H locs hP hM hS => ?_)
  have K := K_secret (Z := 0) hR (xs (i + 1)) (xs (i + 2))
  refine lv_icmp_eq (tgt := 1196) hx hb d_lw_225 (by decide) (fun _ => ?_) (fun z => absurd K.1 z)
  refine W.widen (k := cells + 1) (n := slots + 6) (by omega) (by omega) ?_
  exact kk _ _ _ _ _ _ ⟨hP, hM, K.2, hS⟩ hl
set_option maxHeartbeats 4000000 in
set_option maxRecDepth 100000 in
theorem lw_k2 (F : lw_F p l s m c b L xs D α κ μ ν oa ko) (I : lw_I D α κ μ ν oa ko s H locs σ τ g) (hl : lv_has ls 7 (lw_ls b α μ oa i)) (hi : i + 7 ≤ L) (hcl : cells + 1 ≤ 601024) (hsl : slots + 6 ≤ 7293034)
    (kk : ∀ (H : Heap) (locs : List Loc) (σ τ : xb_St) (g : Nat → Int64) (ls : Array Slot), lw_I D α κ μ ν oa ko s H locs σ τ g → lv_has ls 7 (lw_ls b α μ oa i) → W p l e room_1 s m #[Value.ref b] below meth c H locs (cells + 1) (slots + 6) Q (F0 m 1196 ls [])) : W p l e room_1 s m #[Value.ref b] below meth c H locs cells slots Q (F0 m 230 ls []) := by
  obtain ⟨⟨hx, hb, hml, hown, ht, htr⟩, ⟨hX, hbl, hL⟩, ⟨hα, hμ, hA1, hA2, hA3, ho, ho2, hd1⟩, hK, hKm, hN, hG, hC⟩ := id F
  obtain ⟨hP, hM, hR, hS⟩ := I
  have ok := Rel_sp hR
  have om := Rel_sm hR
  have hts := lw_hts ht
  refine lv_aload_n hx hb d_lw_230 rfl (lv_at hl 1 rfl) ?_
  refine lv_aload_n hx hb d_lw_231 rfl (lv_at hl 0 rfl) ?_
  refine lv_iload hx hb d_lw_232 (lv_at hl 4 rfl) ?_
  refine lv_iconst (v := 1) hx hb d_lw_234 (by decide) ?_
  refine lw_rd2 F hS (k := 1) rfl (by omega) d_lw_235 d_lw_236 ?_
  refine lp_i F hP hM hS (As := [.int (xs (i + 1))]) (rest := []) (c_P_host l D α κ hα σ 0 (xs (i + 1)) rfl) (cwV 1 hts (xa_V xw357 xw358 xw359 xw1 xw360) rfl rfl rfl (by decide +kernel) ⟨Nat.le_of_ble_eq_true rfl, Nat.le_of_ble_eq_true rfl⟩) rfl hl.1 rfl (Nat.le_of_ble_eq_true rfl) d_lw_237 (by omega) (by omega) (fun H locs hP hM hS => ?_)
  refine lv_aload_n hx hb d_lw_240 rfl (lv_at hl 2 rfl) ?_
  refine lv_aload_n hx hb d_lw_241 rfl (lv_at hl 0 rfl) ?_
  refine lv_iload hx hb d_lw_242 (lv_at hl 4 rfl) ?_
  refine lv_iconst (v := 1) hx hb d_lw_244 (by decide) ?_
  refine lw_rd2 F hS (k := 1) rfl (by omega) d_lw_245 d_lw_246 ?_
  refine lm_i F hP hM hS (As := [.int (xs (i + 1))]) (rest := [.int (p_host 0 (xs (i + 1)) σ).1]) (c_M_host l D μ ν hμ τ (xs (i + 1))) (cwV 1 hts (xa_V xw1223 xw1224 xw1225 xw11 xw1226) rfl rfl rfl (by decide +kernel) ⟨Nat.le_of_ble_eq_true rfl, Nat.le_of_ble_eq_true rfl⟩) rfl hl.1 rfl (Nat.le_of_ble_eq_true rfl) d_lw_247 (by omega) (by omega) (fun H locs hP hM hS => ?_)
  have K := K_host (Z := 0) hR (xs (i + 1))
  refine lv_icmp_eq (tgt := 1196) hx hb d_lw_250 (by decide) (fun _ => ?_) (fun z => absurd K.1 z)
  refine W.widen (k := cells + 1) (n := slots + 6) (by omega) (by omega) ?_
  exact kk _ _ _ _ _ _ ⟨hP, hM, K.2, hS⟩ hl
set_option maxHeartbeats 4000000 in
set_option maxRecDepth 100000 in
theorem lw_k3 (F : lw_F p l s m c b L xs D α κ μ ν oa ko) (I : lw_I D α κ μ ν oa ko s H locs σ τ g) (hl : lv_has ls 7 (lw_ls b α μ oa i)) (hi : i + 7 ≤ L) (hcl : cells + 1 ≤ 601024) (hsl : slots + 6 ≤ 7293034)
    (kk : ∀ (H : Heap) (locs : List Loc) (σ τ : xb_St) (g : Nat → Int64) (ls : Array Slot), lw_I D α κ μ ν oa ko s H locs σ τ g → lv_has ls 7 (lw_ls b α μ oa i) → W p l e room_1 s m #[Value.ref b] below meth c H locs (cells + 1) (slots + 6) Q (F0 m 1196 ls [])) : W p l e room_1 s m #[Value.ref b] below meth c H locs cells slots Q (F0 m 255 ls []) := by
  obtain ⟨⟨hx, hb, hml, hown, ht, htr⟩, ⟨hX, hbl, hL⟩, ⟨hα, hμ, hA1, hA2, hA3, ho, ho2, hd1⟩, hK, hKm, hN, hG, hC⟩ := id F
  obtain ⟨hP, hM, hR, hS⟩ := I
  have ok := Rel_sp hR
  have om := Rel_sm hR
  have hts := lw_hts ht
  refine lv_aload_n hx hb d_lw_255 rfl (lv_at hl 1 rfl) ?_
  refine lv_aload_n hx hb d_lw_256 rfl (lv_at hl 0 rfl) ?_
  refine lv_iload hx hb d_lw_257 (lv_at hl 4 rfl) ?_
  refine lv_iconst (v := 1) hx hb d_lw_259 (by decide) ?_
  refine lw_rd2 F hS (k := 1) rfl (by omega) d_lw_260 d_lw_261 ?_
  refine lp_v F hP hM hS (As := [.int (xs (i + 1))]) (rest := []) (c_P_trust l D α κ hα σ 0 (xs (i + 1)) rfl) (cwV 1 hts (xa_V xw365 xw366 xw367 xw1 xw368) rfl rfl rfl (by decide +kernel) ⟨Nat.le_of_ble_eq_true rfl, Nat.le_of_ble_eq_true rfl⟩) rfl hl.1 rfl (Nat.le_of_ble_eq_true rfl) d_lw_262 (by omega) (by omega) (fun H locs hP hM hS => ?_)
  refine lv_aload_n hx hb d_lw_265 rfl (lv_at hl 2 rfl) ?_
  refine lv_aload_n hx hb d_lw_266 rfl (lv_at hl 0 rfl) ?_
  refine lv_iload hx hb d_lw_267 (lv_at hl 4 rfl) ?_
  refine lv_iconst (v := 1) hx hb d_lw_269 (by decide) ?_
  refine lw_rd2 F hS (k := 1) rfl (by omega) d_lw_270 d_lw_271 ?_
  refine lm_v F hP hM hS (As := [.int (xs (i + 1))]) (rest := []) (c_M_trust l D μ ν hμ τ (xs (i + 1))) (cwV 1 hts (xa_V xw1227 xw1228 xw1229 xw11 xw1230) rfl rfl rfl (by decide +kernel) ⟨Nat.le_of_ble_eq_true rfl, Nat.le_of_ble_eq_true rfl⟩) rfl hl.1 rfl (Nat.le_of_ble_eq_true rfl) d_lw_272 (by omega) (by omega) (fun H locs hP hM hS => ?_)
  have K := K_trust (Z := 0) hR (xs (i + 1))
  refine lv_goto (tgt := 1196) hx hb d_lw_275 (by decide) ?_
  refine W.widen (k := cells + 1) (n := slots + 6) (by omega) (by omega) ?_
  exact kk _ _ _ _ _ _ ⟨hP, hM, K, hS⟩ hl
end LWC
