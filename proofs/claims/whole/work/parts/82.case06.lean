theorem xw0 : (Cond.initialized "SecurePairLaw") ∈ xa := xa_t 0 (by decide +kernel) (by decide +kernel)
theorem xw500 : (Cond.methodLink "SecurePairLaw" (61 : Nat) ({ cls := "SecurePairLaw", name := "begin", desc := "(LSecurePair;I[J)I" } : MethodName)) ∈ xa := xa_t 500 (by decide +kernel) (by decide +kernel)
theorem xw501 : (Cond.static ({ cls := "SecurePairLaw", name := "begin", desc := "(LSecurePair;I[J)I" } : MethodName)) ∈ xa := xa_t 501 (by decide +kernel) (by decide +kernel)
theorem xw502 : (Cond.codeWith ({ cls := "SecurePairLaw", name := "begin", desc := "(LSecurePair;I[J)I" } : MethodName) method_3_code (4 : Nat) (Option.some ClassFile.FieldType.int) [((0 : Nat), (9 : Nat), (12 : Nat), (13 : Nat)), ((0 : Nat), (9 : Nat), (15 : Nat), (15 : Nat))]) ∈ xa := xa_t 502 (by decide +kernel) (by decide +kernel)
theorem xw620 : (Cond.methodLink "SecurePairLaw" (71 : Nat) ({ cls := "SecurePairLaw", name := "deliver", desc := "(LSecurePair;I[J)I" } : MethodName)) ∈ xa := xa_t 620 (by decide +kernel) (by decide +kernel)
theorem xw621 : (Cond.static ({ cls := "SecurePairLaw", name := "deliver", desc := "(LSecurePair;I[J)I" } : MethodName)) ∈ xa := xa_t 621 (by decide +kernel) (by decide +kernel)
theorem xw622 : (Cond.codeWith ({ cls := "SecurePairLaw", name := "deliver", desc := "(LSecurePair;I[J)I" } : MethodName) method_4_code (4 : Nat) (Option.some ClassFile.FieldType.int) [((0 : Nat), (9 : Nat), (12 : Nat), (13 : Nat))]) ∈ xa := xa_t 622 (by decide +kernel) (by decide +kernel)
theorem xw834 : (Cond.methodLink "SecurePairLaw" (74 : Nat) ({ cls := "SecurePairLaw", name := "open", desc := "(LSecurePair;I[J)I" } : MethodName)) ∈ xa := xa_t 834 (by decide +kernel) (by decide +kernel)
theorem xw835 : (Cond.static ({ cls := "SecurePairLaw", name := "open", desc := "(LSecurePair;I[J)I" } : MethodName)) ∈ xa := xa_t 835 (by decide +kernel) (by decide +kernel)
theorem xw836 : (Cond.codeWith ({ cls := "SecurePairLaw", name := "open", desc := "(LSecurePair;I[J)I" } : MethodName) method_5_code (4 : Nat) (Option.some ClassFile.FieldType.int) [((0 : Nat), (9 : Nat), (12 : Nat), (13 : Nat)), ((0 : Nat), (9 : Nat), (15 : Nat), (15 : Nat)), ((0 : Nat), (9 : Nat), (18 : Nat), (23 : Nat))]) ∈ xa := xa_t 836 (by decide +kernel) (by decide +kernel)
theorem xw1065 : (Cond.methodLink "SecurePairLaw" (67 : Nat) ({ cls := "SecurePairModel", name := "thrown", desc := "()I" } : MethodName)) ∈ xa := xa_t 1065 (by decide +kernel) (by decide +kernel)
theorem xw1066 : (Cond.instanceMethod ({ cls := "SecurePairModel", name := "thrown", desc := "()I" } : MethodName)) ∈ xa := xa_t 1066 (by decide +kernel) (by decide +kernel)
theorem xw1067 : (Cond.selects "SecurePairModel" ({ cls := "SecurePairModel", name := "thrown", desc := "()I" } : MethodName) ({ cls := "SecurePairModel", name := "thrown", desc := "()I" } : MethodName)) ∈ xa := xa_t 1067 (by decide +kernel) (by decide +kernel)
theorem xw1068 : (Cond.code ({ cls := "SecurePairModel", name := "thrown", desc := "()I" } : MethodName) prog_12_method_2_code (1 : Nat) (Option.some ClassFile.FieldType.int)) ∈ xa := xa_t 1068 (by decide +kernel) (by decide +kernel)
theorem xw1069 : (Cond.methodLink "SecurePairLaw" (66 : Nat) ({ cls := "SecurePairModel", name := "begin", desc := "(I)I" } : MethodName)) ∈ xa := xa_t 1069 (by decide +kernel) (by decide +kernel)
theorem xw1070 : (Cond.instanceMethod ({ cls := "SecurePairModel", name := "begin", desc := "(I)I" } : MethodName)) ∈ xa := xa_t 1070 (by decide +kernel) (by decide +kernel)
theorem xw1071 : (Cond.selects "SecurePairModel" ({ cls := "SecurePairModel", name := "begin", desc := "(I)I" } : MethodName) ({ cls := "SecurePairModel", name := "begin", desc := "(I)I" } : MethodName)) ∈ xa := xa_t 1071 (by decide +kernel) (by decide +kernel)
theorem xw1072 : (Cond.code ({ cls := "SecurePairModel", name := "begin", desc := "(I)I" } : MethodName) prog_12_method_19_code (2 : Nat) (Option.some ClassFile.FieldType.int)) ∈ xa := xa_t 1072 (by decide +kernel) (by decide +kernel)
theorem xw1104 : (Cond.methodLink "SecurePairLaw" (73 : Nat) ({ cls := "SecurePairModel", name := "deliver", desc := "(I)I" } : MethodName)) ∈ xa := xa_t 1104 (by decide +kernel) (by decide +kernel)
theorem xw1105 : (Cond.instanceMethod ({ cls := "SecurePairModel", name := "deliver", desc := "(I)I" } : MethodName)) ∈ xa := xa_t 1105 (by decide +kernel) (by decide +kernel)
theorem xw1106 : (Cond.selects "SecurePairModel" ({ cls := "SecurePairModel", name := "deliver", desc := "(I)I" } : MethodName) ({ cls := "SecurePairModel", name := "deliver", desc := "(I)I" } : MethodName)) ∈ xa := xa_t 1106 (by decide +kernel) (by decide +kernel)
theorem xw1107 : (Cond.code ({ cls := "SecurePairModel", name := "deliver", desc := "(I)I" } : MethodName) prog_12_method_27_code (13 : Nat) (Option.some ClassFile.FieldType.int)) ∈ xa := xa_t 1107 (by decide +kernel) (by decide +kernel)
theorem xw1195 : (Cond.methodLink "SecurePairLaw" (76 : Nat) ({ cls := "SecurePairModel", name := "open", desc := "(I)I" } : MethodName)) ∈ xa := xa_t 1195 (by decide +kernel) (by decide +kernel)
theorem xw1196 : (Cond.instanceMethod ({ cls := "SecurePairModel", name := "open", desc := "(I)I" } : MethodName)) ∈ xa := xa_t 1196 (by decide +kernel) (by decide +kernel)
theorem xw1197 : (Cond.selects "SecurePairModel" ({ cls := "SecurePairModel", name := "open", desc := "(I)I" } : MethodName) ({ cls := "SecurePairModel", name := "open", desc := "(I)I" } : MethodName)) ∈ xa := xa_t 1197 (by decide +kernel) (by decide +kernel)
theorem xw1198 : (Cond.code ({ cls := "SecurePairModel", name := "open", desc := "(I)I" } : MethodName) prog_12_method_34_code (3 : Nat) (Option.some ClassFile.FieldType.int)) ∈ xa := xa_t 1198 (by decide +kernel) (by decide +kernel)
section LWC
variable {p : Program} {l : Launch} {e : Env} {s : State} {m : MethodId} {below : List Frame} {meth : Method} {c : Code} {H : Heap} {locs : List Loc} {cells slots : Nat} {Q : State → Prop}
variable {pc : Nat} {ls : Array Slot} {rest st0 : List Value} {b L : Nat} {xs : Nat → Int32} {D : va_G} {α : Nat → Nat} {κ : Nat → ClassId} {μ : Nat → Nat} {ν : Nat → ClassId} {oa : Nat} {ko : ClassId} {σ τ : xb_St} {g : Nat → Int64} {i : Nat}
set_option maxHeartbeats 4000000 in
set_option maxRecDepth 100000 in
theorem lw_k4 (F : lw_F p l s m c b L xs D α κ μ ν oa ko) (I : lw_I D α κ μ ν oa ko s H locs σ τ g) (hl : lv_has ls 7 (lw_ls b α μ oa i)) (hi : i + 7 ≤ L) (hcl : cells + 1 ≤ 601024) (hsl : slots + 6 ≤ 7293034)
    (kk : ∀ (H : Heap) (locs : List Loc) (σ τ : xb_St) (g : Nat → Int64) (ls : Array Slot), lw_I D α κ μ ν oa ko s H locs σ τ g → lv_has ls 7 (lw_ls b α μ oa i) → W p l e room_1 s m #[Value.ref b] below meth c H locs (cells + 1) (slots + 6) Q (F0 m 1196 ls [])) : W p l e room_1 s m #[Value.ref b] below meth c H locs cells slots Q (F0 m 278 ls []) := by
  obtain ⟨⟨hx, hb, hml, hown, ht, htr⟩, ⟨hX, hbl, hL⟩, ⟨hα, hμ, hA1, hA2, hA3, ho, ho2, hd1⟩, hK, hKm, hN, hG, hC⟩ := id F
  obtain ⟨hP, hM, hR, hS⟩ := I
  have ok := Rel_sp hR
  have om := Rel_sm hR
  have hts := lw_hts ht
  refine lv_aload_n hx hb d_lw_278 rfl (lv_at hl 1 rfl) ?_
  refine lv_aload_n hx hb d_lw_279 rfl (lv_at hl 0 rfl) ?_
  refine lv_iload hx hb d_lw_280 (lv_at hl 4 rfl) ?_
  refine lv_iconst (v := 1) hx hb d_lw_282 (by decide) ?_
  refine lw_rd2 F hS (k := 1) rfl (by omega) d_lw_283 d_lw_284 ?_
  refine lv_aload_n hx hb d_lw_285 rfl (lv_at hl 3 rfl) ?_
  refine lh_c F hP hM hS (n := 3) (As := [.ref (α 0), .int (xs (i + 1)), .ref oa]) (rest := []) (c_L_begin l D α κ hα htr oa ko ho σ g (xs (i + 1)) ok) (by decide) (by decide) xw502 xw500 xw501 xw0 ⟨by decide, by decide⟩ (by decide +kernel) rfl hl.1 rfl (Nat.le_of_ble_eq_true rfl) d_lw_286 hcl hsl (fun H locs u g1 e0 e1 hP hM hS => ?_)
  refine lv_istore (lv' := [(5, .int (nI (th_P_begin 0 (xs (i + 1)) σ))), (0, .ref b), (1, .ref (α 0)), (2, .ref (μ 0)), (3, .ref oa), (4, .int (nI i))]) hx hb d_lw_289 hl (by decide) rfl (fun ls hl => ?_)
  refine lv_aload_n hx hb d_lw_291 rfl (lv_at hl 3 rfl) ?_
  refine lv_aload_n hx hb d_lw_292 rfl (lv_at hl 1 rfl) ?_
  refine lv_iload hx hb d_lw_293 (lv_at hl 5 rfl) ?_
  refine lv_iconst (v := 1) hx hb d_lw_295 (by decide) ?_
  refine lw_rd2 F hS (k := 1) rfl (by omega) d_lw_296 d_lw_297 ?_
  refine lm_i F hP hM hS (As := [.int (xs (i + 1))]) (rest := []) (c_M_begin l D μ ν hμ τ (xs (i + 1)) om) (cwV 1 hts (xa_V xw1069 xw1070 xw1071 xw11 xw1072) rfl rfl rfl (by decide +kernel) ⟨Nat.le_of_ble_eq_true rfl, Nat.le_of_ble_eq_true rfl⟩) rfl hl.1 rfl (Nat.le_of_ble_eq_true rfl) d_lw_298 (by omega) (by omega) (fun H locs hP hM hS => ?_)
  refine lv_istore (lv' := [(6, .int (q_begin (xs (i + 1)) τ).1), (5, .int (nI (th_P_begin 0 (xs (i + 1)) σ))), (0, .ref b), (1, .ref (α 0)), (2, .ref (μ 0)), (3, .ref oa), (4, .int (nI i))]) hx hb d_lw_301 hl (by decide) rfl (fun ls hl => ?_)
  refine lv_aload_n hx hb d_lw_303 rfl (lv_at hl 4 rfl) ?_
  refine lm_i F hP hM hS (As := []) (rest := []) (c_M_thrown l D μ ν hμ (q_begin (xs (i + 1)) τ).2) (cwV 0 hts (xa_V xw1065 xw1066 xw1067 xw11 xw1068) rfl rfl rfl (by decide +kernel) ⟨Nat.le_of_ble_eq_true rfl, Nat.le_of_ble_eq_true rfl⟩) rfl hl.1 rfl (Nat.le_of_ble_eq_true rfl) d_lw_304 (by omega) (by omega) (fun H locs hP hM hS => ?_)
  have K := K_begin (Z := 0) hR (xs (i + 1))
  have hle := th_P_begin_le 0 (xs (i + 1)) σ
  refine lv_iload hx hb d_lw_307 (lv_at hl 1 rfl) ?_
  refine lv_icmp_eq (tgt := 314) hx hb d_lw_309 (by decide) (fun _ => ?_) (fun z => absurd K.1 z)
  refine lv_iload hx hb d_lw_314 (lv_at hl 1 rfl) ?_
  by_cases h0 : (th_P_begin 0 (xs (i + 1)) σ) = 0
  · skip
    obtain ⟨rfl, hg0⟩ := e0 h0
    obtain ⟨hr, hR1⟩ := K.2.1 h0
    refine lv_if_ne (tgt := 331) hx hb d_lw_316 (by decide) (fun z => absurd (show nI (th_P_begin 0 (xs (i + 1)) σ) = 0 by rw [h0]; rfl) z) (fun _ => ?_)
    refine lv_aload_n hx hb d_lw_319 rfl (lv_at hl 5 rfl) ?_
    refine lv_iconst (v := 0) hx hb d_lw_320 (by decide) ?_
    refine va_lald hx hb hK hP 35 10 rfl rfl (i := 0) (xb_in (x := (0 : Int32)) (xb_lit 0 rfl) (by decide) (by decide)) d_lw_321 ?_
    refine lv_iload hx hb d_lw_322 (lv_at hl 0 rfl) ?_
    refine lv_i2l (v := (q_begin (xs (i + 1)) τ).1.toInt64) hx hb d_lw_324 rfl ?_
    refine xb_leq (tgt := 331) hx hb d_lw_325 d_lw_326 (by decide) (fun _ => ?_) (fun z => absurd (show g1 (0 : Int32).toNatClampNeg = (q_begin (xs (i + 1)) τ).1.toInt64 from (show g1 0 = _ from hg0).trans (congrArg _ hr)) z)
    refine lv_goto (tgt := 1196) hx hb d_lw_331 (by decide) ?_
    exact kk _ _ _ _ _ _ ⟨hP, hM, hR1, hS⟩ (lv_sub hl [2, 3, 4, 5, 6] rfl)
  · skip
    rw [e1 h0] at hP
    refine lv_if_ne (tgt := 331) hx hb d_lw_316 (by decide) (fun _ => ?_) (fun z => absurd ((nI_eq (b := 0) (by omega) (by decide)).mp z) h0)
    refine lv_goto (tgt := 1196) hx hb d_lw_331 (by decide) ?_
    exact kk _ _ _ _ _ _ ⟨hP, hM, K.2.2 h0, hS⟩ (lv_sub hl [2, 3, 4, 5, 6] rfl)
set_option maxHeartbeats 4000000 in
set_option maxRecDepth 100000 in
theorem lw_k5 (F : lw_F p l s m c b L xs D α κ μ ν oa ko) (I : lw_I D α κ μ ν oa ko s H locs σ τ g) (hl : lv_has ls 7 (lw_ls b α μ oa i)) (hi : i + 7 ≤ L) (hcl : cells + 1 ≤ 601024) (hsl : slots + 6 ≤ 7293034)
    (kk : ∀ (H : Heap) (locs : List Loc) (σ τ : xb_St) (g : Nat → Int64) (ls : Array Slot), lw_I D α κ μ ν oa ko s H locs σ τ g → lv_has ls 7 (lw_ls b α μ oa i) → W p l e room_1 s m #[Value.ref b] below meth c H locs (cells + 1) (slots + 6) Q (F0 m 1196 ls [])) : W p l e room_1 s m #[Value.ref b] below meth c H locs cells slots Q (F0 m 334 ls []) := by
  obtain ⟨⟨hx, hb, hml, hown, ht, htr⟩, ⟨hX, hbl, hL⟩, ⟨hα, hμ, hA1, hA2, hA3, ho, ho2, hd1⟩, hK, hKm, hN, hG, hC⟩ := id F
  obtain ⟨hP, hM, hR, hS⟩ := I
  have ok := Rel_sp hR
  have om := Rel_sm hR
  have hts := lw_hts ht
  refine lv_aload_n hx hb d_lw_334 rfl (lv_at hl 1 rfl) ?_
  refine lv_aload_n hx hb d_lw_335 rfl (lv_at hl 0 rfl) ?_
  refine lv_iload hx hb d_lw_336 (lv_at hl 4 rfl) ?_
  refine lv_iconst (v := 1) hx hb d_lw_338 (by decide) ?_
  refine lw_rd2 F hS (k := 1) rfl (by omega) d_lw_339 d_lw_340 ?_
  refine lv_aload_n hx hb d_lw_341 rfl (lv_at hl 3 rfl) ?_
  refine lh_c F hP hM hS (n := 3) (As := [.ref (α 0), .int (xs (i + 1)), .ref oa]) (rest := []) (c_L_deliver l D α κ hα htr oa ko ho σ g (xs (i + 1)) ok) (by decide) (by decide) xw622 xw620 xw621 xw0 ⟨by decide, by decide⟩ (by decide +kernel) rfl hl.1 rfl (Nat.le_of_ble_eq_true rfl) d_lw_342 hcl hsl (fun H locs u g1 e0 e1 hP hM hS => ?_)
  refine lv_istore (lv' := [(5, .int (nI (th_P_deliver 0 (xs (i + 1)) σ))), (0, .ref b), (1, .ref (α 0)), (2, .ref (μ 0)), (3, .ref oa), (4, .int (nI i))]) hx hb d_lw_345 hl (by decide) rfl (fun ls hl => ?_)
  refine lv_aload_n hx hb d_lw_347 rfl (lv_at hl 3 rfl) ?_
  refine lv_aload_n hx hb d_lw_348 rfl (lv_at hl 1 rfl) ?_
  refine lv_iload hx hb d_lw_349 (lv_at hl 5 rfl) ?_
  refine lv_iconst (v := 1) hx hb d_lw_351 (by decide) ?_
  refine lw_rd2 F hS (k := 1) rfl (by omega) d_lw_352 d_lw_353 ?_
  refine lm_i F hP hM hS (As := [.int (xs (i + 1))]) (rest := []) (c_M_deliver l D μ ν hμ τ (xs (i + 1)) om) (cwV 1 hts (xa_V xw1104 xw1105 xw1106 xw11 xw1107) rfl rfl rfl (by decide +kernel) ⟨Nat.le_of_ble_eq_true rfl, Nat.le_of_ble_eq_true rfl⟩) rfl hl.1 rfl (Nat.le_of_ble_eq_true rfl) d_lw_354 (by omega) (by omega) (fun H locs hP hM hS => ?_)
  refine lv_istore (lv' := [(6, .int (q_deliver (xs (i + 1)) τ).1), (5, .int (nI (th_P_deliver 0 (xs (i + 1)) σ))), (0, .ref b), (1, .ref (α 0)), (2, .ref (μ 0)), (3, .ref oa), (4, .int (nI i))]) hx hb d_lw_357 hl (by decide) rfl (fun ls hl => ?_)
  refine lv_aload_n hx hb d_lw_359 rfl (lv_at hl 4 rfl) ?_
  refine lm_i F hP hM hS (As := []) (rest := []) (c_M_thrown l D μ ν hμ (q_deliver (xs (i + 1)) τ).2) (cwV 0 hts (xa_V xw1065 xw1066 xw1067 xw11 xw1068) rfl rfl rfl (by decide +kernel) ⟨Nat.le_of_ble_eq_true rfl, Nat.le_of_ble_eq_true rfl⟩) rfl hl.1 rfl (Nat.le_of_ble_eq_true rfl) d_lw_360 (by omega) (by omega) (fun H locs hP hM hS => ?_)
  have K := K_deliver (Z := 0) hR (xs (i + 1))
  have hle := th_P_deliver_le 0 (xs (i + 1)) σ
  refine lv_iload hx hb d_lw_363 (lv_at hl 1 rfl) ?_
  refine lv_icmp_eq (tgt := 370) hx hb d_lw_365 (by decide) (fun _ => ?_) (fun z => absurd K.1 z)
  refine lv_iload hx hb d_lw_370 (lv_at hl 1 rfl) ?_
  by_cases h0 : (th_P_deliver 0 (xs (i + 1)) σ) = 0
  · skip
    obtain ⟨rfl, hg0⟩ := e0 h0
    obtain ⟨hr, hR1⟩ := K.2.1 h0
    refine lv_if_ne (tgt := 387) hx hb d_lw_372 (by decide) (fun z => absurd (show nI (th_P_deliver 0 (xs (i + 1)) σ) = 0 by rw [h0]; rfl) z) (fun _ => ?_)
    refine lv_aload_n hx hb d_lw_375 rfl (lv_at hl 5 rfl) ?_
    refine lv_iconst (v := 0) hx hb d_lw_376 (by decide) ?_
    refine va_lald hx hb hK hP 35 10 rfl rfl (i := 0) (xb_in (x := (0 : Int32)) (xb_lit 0 rfl) (by decide) (by decide)) d_lw_377 ?_
    refine lv_iload hx hb d_lw_378 (lv_at hl 0 rfl) ?_
    refine lv_i2l (v := (q_deliver (xs (i + 1)) τ).1.toInt64) hx hb d_lw_380 rfl ?_
    refine xb_leq (tgt := 387) hx hb d_lw_381 d_lw_382 (by decide) (fun _ => ?_) (fun z => absurd (show g1 (0 : Int32).toNatClampNeg = (q_deliver (xs (i + 1)) τ).1.toInt64 from (show g1 0 = _ from hg0).trans (congrArg _ hr)) z)
    refine lv_goto (tgt := 1196) hx hb d_lw_387 (by decide) ?_
    exact kk _ _ _ _ _ _ ⟨hP, hM, hR1, hS⟩ (lv_sub hl [2, 3, 4, 5, 6] rfl)
  · skip
    rw [e1 h0] at hP
    refine lv_if_ne (tgt := 387) hx hb d_lw_372 (by decide) (fun _ => ?_) (fun z => absurd ((nI_eq (b := 0) (by omega) (by decide)).mp z) h0)
    refine lv_goto (tgt := 1196) hx hb d_lw_387 (by decide) ?_
    exact kk _ _ _ _ _ _ ⟨hP, hM, K.2.2 h0, hS⟩ (lv_sub hl [2, 3, 4, 5, 6] rfl)
set_option maxHeartbeats 4000000 in
set_option maxRecDepth 100000 in
theorem lw_k6 (F : lw_F p l s m c b L xs D α κ μ ν oa ko) (I : lw_I D α κ μ ν oa ko s H locs σ τ g) (hl : lv_has ls 7 (lw_ls b α μ oa i)) (hi : i + 7 ≤ L) (hcl : cells + 1 ≤ 601024) (hsl : slots + 6 ≤ 7293034)
    (kk : ∀ (H : Heap) (locs : List Loc) (σ τ : xb_St) (g : Nat → Int64) (ls : Array Slot), lw_I D α κ μ ν oa ko s H locs σ τ g → lv_has ls 7 (lw_ls b α μ oa i) → W p l e room_1 s m #[Value.ref b] below meth c H locs (cells + 1) (slots + 6) Q (F0 m 1196 ls [])) : W p l e room_1 s m #[Value.ref b] below meth c H locs cells slots Q (F0 m 390 ls []) := by
  obtain ⟨⟨hx, hb, hml, hown, ht, htr⟩, ⟨hX, hbl, hL⟩, ⟨hα, hμ, hA1, hA2, hA3, ho, ho2, hd1⟩, hK, hKm, hN, hG, hC⟩ := id F
  obtain ⟨hP, hM, hR, hS⟩ := I
  have ok := Rel_sp hR
  have om := Rel_sm hR
  have hts := lw_hts ht
  refine lv_aload_n hx hb d_lw_390 rfl (lv_at hl 1 rfl) ?_
  refine lv_aload_n hx hb d_lw_391 rfl (lv_at hl 0 rfl) ?_
  refine lv_iload hx hb d_lw_392 (lv_at hl 4 rfl) ?_
  refine lv_iconst (v := 1) hx hb d_lw_394 (by decide) ?_
  refine lw_rd2 F hS (k := 1) rfl (by omega) d_lw_395 d_lw_396 ?_
  refine lv_aload_n hx hb d_lw_397 rfl (lv_at hl 3 rfl) ?_
  refine lh_c F hP hM hS (n := 3) (As := [.ref (α 0), .int (xs (i + 1)), .ref oa]) (rest := []) (c_L_open l D α κ hα htr oa ko ho σ g (xs (i + 1)) ok) (by decide) (by decide) xw836 xw834 xw835 xw0 ⟨by decide, by decide⟩ (by decide +kernel) rfl hl.1 rfl (Nat.le_of_ble_eq_true rfl) d_lw_398 hcl hsl (fun H locs u g1 e0 e1 hP hM hS => ?_)
  refine lv_istore (lv' := [(5, .int (nI (th_P_open 0 (xs (i + 1)) σ))), (0, .ref b), (1, .ref (α 0)), (2, .ref (μ 0)), (3, .ref oa), (4, .int (nI i))]) hx hb d_lw_401 hl (by decide) rfl (fun ls hl => ?_)
  refine lv_aload_n hx hb d_lw_403 rfl (lv_at hl 3 rfl) ?_
  refine lv_aload_n hx hb d_lw_404 rfl (lv_at hl 1 rfl) ?_
  refine lv_iload hx hb d_lw_405 (lv_at hl 5 rfl) ?_
  refine lv_iconst (v := 1) hx hb d_lw_407 (by decide) ?_
  refine lw_rd2 F hS (k := 1) rfl (by omega) d_lw_408 d_lw_409 ?_
  refine lm_i F hP hM hS (As := [.int (xs (i + 1))]) (rest := []) (c_M_open l D μ ν hμ τ (xs (i + 1)) om) (cwV 1 hts (xa_V xw1195 xw1196 xw1197 xw11 xw1198) rfl rfl rfl (by decide +kernel) ⟨Nat.le_of_ble_eq_true rfl, Nat.le_of_ble_eq_true rfl⟩) rfl hl.1 rfl (Nat.le_of_ble_eq_true rfl) d_lw_410 (by omega) (by omega) (fun H locs hP hM hS => ?_)
  refine lv_istore (lv' := [(6, .int (q_open (xs (i + 1)) τ).1), (5, .int (nI (th_P_open 0 (xs (i + 1)) σ))), (0, .ref b), (1, .ref (α 0)), (2, .ref (μ 0)), (3, .ref oa), (4, .int (nI i))]) hx hb d_lw_413 hl (by decide) rfl (fun ls hl => ?_)
  refine lv_aload_n hx hb d_lw_415 rfl (lv_at hl 4 rfl) ?_
  refine lm_i F hP hM hS (As := []) (rest := []) (c_M_thrown l D μ ν hμ (q_open (xs (i + 1)) τ).2) (cwV 0 hts (xa_V xw1065 xw1066 xw1067 xw11 xw1068) rfl rfl rfl (by decide +kernel) ⟨Nat.le_of_ble_eq_true rfl, Nat.le_of_ble_eq_true rfl⟩) rfl hl.1 rfl (Nat.le_of_ble_eq_true rfl) d_lw_416 (by omega) (by omega) (fun H locs hP hM hS => ?_)
  have K := K_open (Z := 0) hR (xs (i + 1))
  have hle := th_P_open_le 0 (xs (i + 1)) σ
  refine lv_iload hx hb d_lw_419 (lv_at hl 1 rfl) ?_
  refine lv_icmp_eq (tgt := 426) hx hb d_lw_421 (by decide) (fun _ => ?_) (fun z => absurd K.1 z)
  refine lv_iload hx hb d_lw_426 (lv_at hl 1 rfl) ?_
  by_cases h0 : (th_P_open 0 (xs (i + 1)) σ) = 0
  · skip
    obtain ⟨rfl, hg0⟩ := e0 h0
    obtain ⟨hr, hR1⟩ := K.2.1 h0
    refine lv_if_ne (tgt := 443) hx hb d_lw_428 (by decide) (fun z => absurd (show nI (th_P_open 0 (xs (i + 1)) σ) = 0 by rw [h0]; rfl) z) (fun _ => ?_)
    refine lv_aload_n hx hb d_lw_431 rfl (lv_at hl 5 rfl) ?_
    refine lv_iconst (v := 0) hx hb d_lw_432 (by decide) ?_
    refine va_lald hx hb hK hP 35 10 rfl rfl (i := 0) (xb_in (x := (0 : Int32)) (xb_lit 0 rfl) (by decide) (by decide)) d_lw_433 ?_
    refine lv_iload hx hb d_lw_434 (lv_at hl 0 rfl) ?_
    refine lv_i2l (v := (q_open (xs (i + 1)) τ).1.toInt64) hx hb d_lw_436 rfl ?_
    refine xb_leq (tgt := 443) hx hb d_lw_437 d_lw_438 (by decide) (fun _ => ?_) (fun z => absurd (show g1 (0 : Int32).toNatClampNeg = (q_open (xs (i + 1)) τ).1.toInt64 from (show g1 0 = _ from hg0).trans (congrArg _ hr)) z)
    refine lv_goto (tgt := 1196) hx hb d_lw_443 (by decide) ?_
    exact kk _ _ _ _ _ _ ⟨hP, hM, hR1, hS⟩ (lv_sub hl [2, 3, 4, 5, 6] rfl)
  · skip
    rw [e1 h0] at hP
    refine lv_if_ne (tgt := 443) hx hb d_lw_428 (by decide) (fun _ => ?_) (fun z => absurd ((nI_eq (b := 0) (by omega) (by decide)).mp z) h0)
    refine lv_goto (tgt := 1196) hx hb d_lw_443 (by decide) ?_
    exact kk _ _ _ _ _ _ ⟨hP, hM, K.2.2 h0, hS⟩ (lv_sub hl [2, 3, 4, 5, 6] rfl)
end LWC
