theorem xw459 : (Cond.methodLink "SecurePairLaw" (116 : Nat) ({ cls := "SecurePair", name := "phase", desc := "(I)J" } : MethodName)) ∈ xa := xa_t 459 (by decide +kernel) (by decide +kernel)
theorem xw460 : (Cond.instanceMethod ({ cls := "SecurePair", name := "phase", desc := "(I)J" } : MethodName)) ∈ xa := xa_t 460 (by decide +kernel) (by decide +kernel)
theorem xw461 : (Cond.selects "SecurePair" ({ cls := "SecurePair", name := "phase", desc := "(I)J" } : MethodName) ({ cls := "SecurePair", name := "phase", desc := "(I)J" } : MethodName)) ∈ xa := xa_t 461 (by decide +kernel) (by decide +kernel)
theorem xw462 : (Cond.code ({ cls := "SecurePair", name := "phase", desc := "(I)J" } : MethodName) prog_1_method_18_code (3 : Nat) (Option.some ClassFile.FieldType.long)) ∈ xa := xa_t 462 (by decide +kernel) (by decide +kernel)
theorem xw465 : (Cond.methodLink "SecurePairLaw" (121 : Nat) ({ cls := "SecurePair", name := "session", desc := "(I)J" } : MethodName)) ∈ xa := xa_t 465 (by decide +kernel) (by decide +kernel)
theorem xw466 : (Cond.instanceMethod ({ cls := "SecurePair", name := "session", desc := "(I)J" } : MethodName)) ∈ xa := xa_t 466 (by decide +kernel) (by decide +kernel)
theorem xw467 : (Cond.selects "SecurePair" ({ cls := "SecurePair", name := "session", desc := "(I)J" } : MethodName) ({ cls := "SecurePair", name := "session", desc := "(I)J" } : MethodName)) ∈ xa := xa_t 467 (by decide +kernel) (by decide +kernel)
theorem xw468 : (Cond.code ({ cls := "SecurePair", name := "session", desc := "(I)J" } : MethodName) prog_1_method_19_code (3 : Nat) (Option.some ClassFile.FieldType.long)) ∈ xa := xa_t 468 (by decide +kernel) (by decide +kernel)
theorem xw469 : (Cond.methodLink "SecurePairLaw" (125 : Nat) ({ cls := "SecurePair", name := "state", desc := "(II)I" } : MethodName)) ∈ xa := xa_t 469 (by decide +kernel) (by decide +kernel)
theorem xw470 : (Cond.instanceMethod ({ cls := "SecurePair", name := "state", desc := "(II)I" } : MethodName)) ∈ xa := xa_t 470 (by decide +kernel) (by decide +kernel)
theorem xw471 : (Cond.selects "SecurePair" ({ cls := "SecurePair", name := "state", desc := "(II)I" } : MethodName) ({ cls := "SecurePair", name := "state", desc := "(II)I" } : MethodName)) ∈ xa := xa_t 471 (by decide +kernel) (by decide +kernel)
theorem xw472 : (Cond.code ({ cls := "SecurePair", name := "state", desc := "(II)I" } : MethodName) prog_1_method_20_code (4 : Nat) (Option.some ClassFile.FieldType.int)) ∈ xa := xa_t 472 (by decide +kernel) (by decide +kernel)
theorem xw473 : (Cond.methodLink "SecurePairLaw" (129 : Nat) ({ cls := "SecurePair", name := "channel", desc := "(II)J" } : MethodName)) ∈ xa := xa_t 473 (by decide +kernel) (by decide +kernel)
theorem xw474 : (Cond.instanceMethod ({ cls := "SecurePair", name := "channel", desc := "(II)J" } : MethodName)) ∈ xa := xa_t 474 (by decide +kernel) (by decide +kernel)
theorem xw475 : (Cond.selects "SecurePair" ({ cls := "SecurePair", name := "channel", desc := "(II)J" } : MethodName) ({ cls := "SecurePair", name := "channel", desc := "(II)J" } : MethodName)) ∈ xa := xa_t 475 (by decide +kernel) (by decide +kernel)
theorem xw476 : (Cond.code ({ cls := "SecurePair", name := "channel", desc := "(II)J" } : MethodName) prog_1_method_21_code (5 : Nat) (Option.some ClassFile.FieldType.long)) ∈ xa := xa_t 476 (by decide +kernel) (by decide +kernel)
theorem xw492 : (Cond.methodLink "SecurePairLaw" (134 : Nat) ({ cls := "SecurePair", name := "packet", desc := "(III)J" } : MethodName)) ∈ xa := xa_t 492 (by decide +kernel) (by decide +kernel)
theorem xw493 : (Cond.instanceMethod ({ cls := "SecurePair", name := "packet", desc := "(III)J" } : MethodName)) ∈ xa := xa_t 493 (by decide +kernel) (by decide +kernel)
theorem xw494 : (Cond.selects "SecurePair" ({ cls := "SecurePair", name := "packet", desc := "(III)J" } : MethodName) ({ cls := "SecurePair", name := "packet", desc := "(III)J" } : MethodName)) ∈ xa := xa_t 494 (by decide +kernel) (by decide +kernel)
theorem xw495 : (Cond.code ({ cls := "SecurePair", name := "packet", desc := "(III)J" } : MethodName) prog_1_method_22_code (5 : Nat) (Option.some ClassFile.FieldType.long)) ∈ xa := xa_t 495 (by decide +kernel) (by decide +kernel)
theorem xw496 : (Cond.methodLink "SecurePairLaw" (139 : Nat) ({ cls := "SecurePair", name := "line", desc := "(I)I" } : MethodName)) ∈ xa := xa_t 496 (by decide +kernel) (by decide +kernel)
theorem xw497 : (Cond.instanceMethod ({ cls := "SecurePair", name := "line", desc := "(I)I" } : MethodName)) ∈ xa := xa_t 497 (by decide +kernel) (by decide +kernel)
theorem xw498 : (Cond.selects "SecurePair" ({ cls := "SecurePair", name := "line", desc := "(I)I" } : MethodName) ({ cls := "SecurePair", name := "line", desc := "(I)I" } : MethodName)) ∈ xa := xa_t 498 (by decide +kernel) (by decide +kernel)
theorem xw499 : (Cond.code ({ cls := "SecurePair", name := "line", desc := "(I)I" } : MethodName) prog_1_method_23_code (3 : Nat) (Option.some ClassFile.FieldType.int)) ∈ xa := xa_t 499 (by decide +kernel) (by decide +kernel)
theorem xw1259 : (Cond.methodLink "SecurePairLaw" (120 : Nat) ({ cls := "SecurePairModel", name := "phase", desc := "(I)J" } : MethodName)) ∈ xa := xa_t 1259 (by decide +kernel) (by decide +kernel)
theorem xw1260 : (Cond.instanceMethod ({ cls := "SecurePairModel", name := "phase", desc := "(I)J" } : MethodName)) ∈ xa := xa_t 1260 (by decide +kernel) (by decide +kernel)
theorem xw1261 : (Cond.selects "SecurePairModel" ({ cls := "SecurePairModel", name := "phase", desc := "(I)J" } : MethodName) ({ cls := "SecurePairModel", name := "phase", desc := "(I)J" } : MethodName)) ∈ xa := xa_t 1261 (by decide +kernel) (by decide +kernel)
theorem xw1262 : (Cond.code ({ cls := "SecurePairModel", name := "phase", desc := "(I)J" } : MethodName) prog_12_method_49_code (2 : Nat) (Option.some ClassFile.FieldType.long)) ∈ xa := xa_t 1262 (by decide +kernel) (by decide +kernel)
theorem xw1264 : (Cond.methodLink "SecurePairLaw" (124 : Nat) ({ cls := "SecurePairModel", name := "session", desc := "(I)J" } : MethodName)) ∈ xa := xa_t 1264 (by decide +kernel) (by decide +kernel)
theorem xw1265 : (Cond.instanceMethod ({ cls := "SecurePairModel", name := "session", desc := "(I)J" } : MethodName)) ∈ xa := xa_t 1265 (by decide +kernel) (by decide +kernel)
theorem xw1266 : (Cond.selects "SecurePairModel" ({ cls := "SecurePairModel", name := "session", desc := "(I)J" } : MethodName) ({ cls := "SecurePairModel", name := "session", desc := "(I)J" } : MethodName)) ∈ xa := xa_t 1266 (by decide +kernel) (by decide +kernel)
theorem xw1267 : (Cond.code ({ cls := "SecurePairModel", name := "session", desc := "(I)J" } : MethodName) prog_12_method_50_code (2 : Nat) (Option.some ClassFile.FieldType.long)) ∈ xa := xa_t 1267 (by decide +kernel) (by decide +kernel)
theorem xw1268 : (Cond.methodLink "SecurePairLaw" (128 : Nat) ({ cls := "SecurePairModel", name := "state", desc := "(II)I" } : MethodName)) ∈ xa := xa_t 1268 (by decide +kernel) (by decide +kernel)
theorem xw1269 : (Cond.instanceMethod ({ cls := "SecurePairModel", name := "state", desc := "(II)I" } : MethodName)) ∈ xa := xa_t 1269 (by decide +kernel) (by decide +kernel)
theorem xw1270 : (Cond.selects "SecurePairModel" ({ cls := "SecurePairModel", name := "state", desc := "(II)I" } : MethodName) ({ cls := "SecurePairModel", name := "state", desc := "(II)I" } : MethodName)) ∈ xa := xa_t 1270 (by decide +kernel) (by decide +kernel)
theorem xw1271 : (Cond.code ({ cls := "SecurePairModel", name := "state", desc := "(II)I" } : MethodName) prog_12_method_51_code (3 : Nat) (Option.some ClassFile.FieldType.int)) ∈ xa := xa_t 1271 (by decide +kernel) (by decide +kernel)
theorem xw1272 : (Cond.methodLink "SecurePairLaw" (133 : Nat) ({ cls := "SecurePairModel", name := "channel", desc := "(II)J" } : MethodName)) ∈ xa := xa_t 1272 (by decide +kernel) (by decide +kernel)
theorem xw1273 : (Cond.instanceMethod ({ cls := "SecurePairModel", name := "channel", desc := "(II)J" } : MethodName)) ∈ xa := xa_t 1273 (by decide +kernel) (by decide +kernel)
theorem xw1274 : (Cond.selects "SecurePairModel" ({ cls := "SecurePairModel", name := "channel", desc := "(II)J" } : MethodName) ({ cls := "SecurePairModel", name := "channel", desc := "(II)J" } : MethodName)) ∈ xa := xa_t 1274 (by decide +kernel) (by decide +kernel)
theorem xw1275 : (Cond.code ({ cls := "SecurePairModel", name := "channel", desc := "(II)J" } : MethodName) prog_12_method_52_code (4 : Nat) (Option.some ClassFile.FieldType.long)) ∈ xa := xa_t 1275 (by decide +kernel) (by decide +kernel)
theorem xw1279 : (Cond.methodLink "SecurePairLaw" (138 : Nat) ({ cls := "SecurePairModel", name := "packet", desc := "(III)J" } : MethodName)) ∈ xa := xa_t 1279 (by decide +kernel) (by decide +kernel)
theorem xw1280 : (Cond.instanceMethod ({ cls := "SecurePairModel", name := "packet", desc := "(III)J" } : MethodName)) ∈ xa := xa_t 1280 (by decide +kernel) (by decide +kernel)
theorem xw1281 : (Cond.selects "SecurePairModel" ({ cls := "SecurePairModel", name := "packet", desc := "(III)J" } : MethodName) ({ cls := "SecurePairModel", name := "packet", desc := "(III)J" } : MethodName)) ∈ xa := xa_t 1281 (by decide +kernel) (by decide +kernel)
theorem xw1282 : (Cond.code ({ cls := "SecurePairModel", name := "packet", desc := "(III)J" } : MethodName) prog_12_method_53_code (5 : Nat) (Option.some ClassFile.FieldType.long)) ∈ xa := xa_t 1282 (by decide +kernel) (by decide +kernel)
theorem xw1283 : (Cond.methodLink "SecurePairLaw" (142 : Nat) ({ cls := "SecurePairModel", name := "line", desc := "(I)I" } : MethodName)) ∈ xa := xa_t 1283 (by decide +kernel) (by decide +kernel)
theorem xw1284 : (Cond.instanceMethod ({ cls := "SecurePairModel", name := "line", desc := "(I)I" } : MethodName)) ∈ xa := xa_t 1284 (by decide +kernel) (by decide +kernel)
theorem xw1285 : (Cond.selects "SecurePairModel" ({ cls := "SecurePairModel", name := "line", desc := "(I)I" } : MethodName) ({ cls := "SecurePairModel", name := "line", desc := "(I)I" } : MethodName)) ∈ xa := xa_t 1285 (by decide +kernel) (by decide +kernel)
theorem xw1286 : (Cond.code ({ cls := "SecurePairModel", name := "line", desc := "(I)I" } : MethodName) prog_12_method_54_code (2 : Nat) (Option.some ClassFile.FieldType.int)) ∈ xa := xa_t 1286 (by decide +kernel) (by decide +kernel)
section LWC
variable {p : Program} {l : Launch} {e : Env} {s : State} {m : MethodId} {below : List Frame} {meth : Method} {c : Code} {H : Heap} {locs : List Loc} {cells slots : Nat} {Q : State → Prop}
variable {pc : Nat} {ls : Array Slot} {rest st0 : List Value} {b L : Nat} {xs : Nat → Int32} {D : va_G} {α : Nat → Nat} {κ : Nat → ClassId} {μ : Nat → Nat} {ν : Nat → ClassId} {oa : Nat} {ko : ClassId} {σ τ : xb_St} {g : Nat → Int64} {i : Nat}
set_option maxHeartbeats 4000000 in
set_option maxRecDepth 100000 in
theorem lw_k16 (F : lw_F p l s m c b L xs D α κ μ ν oa ko) (I : lw_I D α κ μ ν oa ko s H locs σ τ g) (hl : lv_has ls 7 (lw_ls b α μ oa i)) (hi : i + 7 ≤ L) (hcl : cells + 1 ≤ 601024) (hsl : slots + 6 ≤ 7293034)
    (kk : ∀ (H : Heap) (locs : List Loc) (σ τ : xb_St) (g : Nat → Int64) (ls : Array Slot), lw_I D α κ μ ν oa ko s H locs σ τ g → lv_has ls 7 (lw_ls b α μ oa i) → W p l e room_1 s m #[Value.ref b] below meth c H locs (cells + 1) (slots + 6) Q (F0 m 1196 ls [])) : W p l e room_1 s m #[Value.ref b] below meth c H locs cells slots Q (F0 m 994 ls []) := by
  obtain ⟨⟨hx, hb, hml, hown, ht, htr⟩, ⟨hX, hbl, hL⟩, ⟨hα, hμ, hA1, hA2, hA3, ho, ho2, hd1⟩, hK, hKm, hN, hG, hC⟩ := id F
  obtain ⟨hP, hM, hR, hS⟩ := I
  have ok := Rel_sp hR
  have om := Rel_sm hR
  have hts := lw_hts ht
  refine lv_aload_n hx hb d_lw_994 rfl (lv_at hl 1 rfl) ?_
  refine lv_aload_n hx hb d_lw_995 rfl (lv_at hl 0 rfl) ?_
  refine lv_iload hx hb d_lw_996 (lv_at hl 4 rfl) ?_
  refine lv_iconst (v := 1) hx hb d_lw_998 (by decide) ?_
  refine lw_rd2 F hS (k := 1) rfl (by omega) d_lw_999 d_lw_1000 ?_
  refine lp_l F hP hM hS (As := [.int (xs (i + 1))]) (rest := []) (c_P_phase l D α κ hα σ 0 (xs (i + 1)) rfl) (cwV 1 hts (xa_V xw459 xw460 xw461 xw1 xw462) rfl rfl rfl (by decide +kernel) ⟨Nat.le_of_ble_eq_true rfl, Nat.le_of_ble_eq_true rfl⟩) rfl hl.1 rfl (Nat.le_of_ble_eq_true rfl) d_lw_1001 (by omega) (by omega) (fun H locs hP hM hS => ?_)
  refine lv_aload_n hx hb d_lw_1004 rfl (lv_at hl 2 rfl) ?_
  refine lv_aload_n hx hb d_lw_1005 rfl (lv_at hl 0 rfl) ?_
  refine lv_iload hx hb d_lw_1006 (lv_at hl 4 rfl) ?_
  refine lv_iconst (v := 1) hx hb d_lw_1008 (by decide) ?_
  refine lw_rd2 F hS (k := 1) rfl (by omega) d_lw_1009 d_lw_1010 ?_
  refine lm_l F hP hM hS (As := [.int (xs (i + 1))]) (rest := [.long (p_phase 0 (xs (i + 1)) σ)]) (c_M_phase l D μ ν hμ τ (xs (i + 1))) (cwV 1 hts (xa_V xw1259 xw1260 xw1261 xw11 xw1262) rfl rfl rfl (by decide +kernel) ⟨Nat.le_of_ble_eq_true rfl, Nat.le_of_ble_eq_true rfl⟩) rfl hl.1 rfl (Nat.le_of_ble_eq_true rfl) d_lw_1011 (by omega) (by omega) (fun H locs hP hM hS => ?_)
  have K := K_phase (Z := 0) hR (xs (i + 1))
  refine xb_leq (tgt := 1196) hx hb d_lw_1014 d_lw_1015 (by decide) (fun _ => ?_) (fun z => absurd K.1 z)
  refine W.widen (k := cells + 1) (n := slots + 6) (by omega) (by omega) ?_
  exact kk _ _ _ _ _ _ ⟨hP, hM, K.2, hS⟩ hl
set_option maxHeartbeats 4000000 in
set_option maxRecDepth 100000 in
theorem lw_k17 (F : lw_F p l s m c b L xs D α κ μ ν oa ko) (I : lw_I D α κ μ ν oa ko s H locs σ τ g) (hl : lv_has ls 7 (lw_ls b α μ oa i)) (hi : i + 7 ≤ L) (hcl : cells + 1 ≤ 601024) (hsl : slots + 6 ≤ 7293034)
    (kk : ∀ (H : Heap) (locs : List Loc) (σ τ : xb_St) (g : Nat → Int64) (ls : Array Slot), lw_I D α κ μ ν oa ko s H locs σ τ g → lv_has ls 7 (lw_ls b α μ oa i) → W p l e room_1 s m #[Value.ref b] below meth c H locs (cells + 1) (slots + 6) Q (F0 m 1196 ls [])) : W p l e room_1 s m #[Value.ref b] below meth c H locs cells slots Q (F0 m 1020 ls []) := by
  obtain ⟨⟨hx, hb, hml, hown, ht, htr⟩, ⟨hX, hbl, hL⟩, ⟨hα, hμ, hA1, hA2, hA3, ho, ho2, hd1⟩, hK, hKm, hN, hG, hC⟩ := id F
  obtain ⟨hP, hM, hR, hS⟩ := I
  have ok := Rel_sp hR
  have om := Rel_sm hR
  have hts := lw_hts ht
  refine lv_aload_n hx hb d_lw_1020 rfl (lv_at hl 1 rfl) ?_
  refine lv_aload_n hx hb d_lw_1021 rfl (lv_at hl 0 rfl) ?_
  refine lv_iload hx hb d_lw_1022 (lv_at hl 4 rfl) ?_
  refine lv_iconst (v := 1) hx hb d_lw_1024 (by decide) ?_
  refine lw_rd2 F hS (k := 1) rfl (by omega) d_lw_1025 d_lw_1026 ?_
  refine lp_l F hP hM hS (As := [.int (xs (i + 1))]) (rest := []) (c_P_session l D α κ hα σ 0 (xs (i + 1)) rfl) (cwV 1 hts (xa_V xw465 xw466 xw467 xw1 xw468) rfl rfl rfl (by decide +kernel) ⟨Nat.le_of_ble_eq_true rfl, Nat.le_of_ble_eq_true rfl⟩) rfl hl.1 rfl (Nat.le_of_ble_eq_true rfl) d_lw_1027 (by omega) (by omega) (fun H locs hP hM hS => ?_)
  refine lv_aload_n hx hb d_lw_1030 rfl (lv_at hl 2 rfl) ?_
  refine lv_aload_n hx hb d_lw_1031 rfl (lv_at hl 0 rfl) ?_
  refine lv_iload hx hb d_lw_1032 (lv_at hl 4 rfl) ?_
  refine lv_iconst (v := 1) hx hb d_lw_1034 (by decide) ?_
  refine lw_rd2 F hS (k := 1) rfl (by omega) d_lw_1035 d_lw_1036 ?_
  refine lm_l F hP hM hS (As := [.int (xs (i + 1))]) (rest := [.long (p_session 0 (xs (i + 1)) σ)]) (c_M_session l D μ ν hμ τ (xs (i + 1))) (cwV 1 hts (xa_V xw1264 xw1265 xw1266 xw11 xw1267) rfl rfl rfl (by decide +kernel) ⟨Nat.le_of_ble_eq_true rfl, Nat.le_of_ble_eq_true rfl⟩) rfl hl.1 rfl (Nat.le_of_ble_eq_true rfl) d_lw_1037 (by omega) (by omega) (fun H locs hP hM hS => ?_)
  have K := K_session (Z := 0) hR (xs (i + 1))
  refine xb_leq (tgt := 1196) hx hb d_lw_1040 d_lw_1041 (by decide) (fun _ => ?_) (fun z => absurd K.1 z)
  refine W.widen (k := cells + 1) (n := slots + 6) (by omega) (by omega) ?_
  exact kk _ _ _ _ _ _ ⟨hP, hM, K.2, hS⟩ hl
set_option maxHeartbeats 4000000 in
set_option maxRecDepth 100000 in
theorem lw_k18 (F : lw_F p l s m c b L xs D α κ μ ν oa ko) (I : lw_I D α κ μ ν oa ko s H locs σ τ g) (hl : lv_has ls 7 (lw_ls b α μ oa i)) (hi : i + 7 ≤ L) (hcl : cells + 1 ≤ 601024) (hsl : slots + 6 ≤ 7293034)
    (kk : ∀ (H : Heap) (locs : List Loc) (σ τ : xb_St) (g : Nat → Int64) (ls : Array Slot), lw_I D α κ μ ν oa ko s H locs σ τ g → lv_has ls 7 (lw_ls b α μ oa i) → W p l e room_1 s m #[Value.ref b] below meth c H locs (cells + 1) (slots + 6) Q (F0 m 1196 ls [])) : W p l e room_1 s m #[Value.ref b] below meth c H locs cells slots Q (F0 m 1046 ls []) := by
  obtain ⟨⟨hx, hb, hml, hown, ht, htr⟩, ⟨hX, hbl, hL⟩, ⟨hα, hμ, hA1, hA2, hA3, ho, ho2, hd1⟩, hK, hKm, hN, hG, hC⟩ := id F
  obtain ⟨hP, hM, hR, hS⟩ := I
  have ok := Rel_sp hR
  have om := Rel_sm hR
  have hts := lw_hts ht
  refine lv_aload_n hx hb d_lw_1046 rfl (lv_at hl 1 rfl) ?_
  refine lv_aload_n hx hb d_lw_1047 rfl (lv_at hl 0 rfl) ?_
  refine lv_iload hx hb d_lw_1048 (lv_at hl 4 rfl) ?_
  refine lv_iconst (v := 1) hx hb d_lw_1050 (by decide) ?_
  refine lw_rd2 F hS (k := 1) rfl (by omega) d_lw_1051 d_lw_1052 ?_
  refine lv_aload_n hx hb d_lw_1053 rfl (lv_at hl 0 rfl) ?_
  refine lv_iload hx hb d_lw_1054 (lv_at hl 4 rfl) ?_
  refine lv_iconst (v := 2) hx hb d_lw_1056 (by decide) ?_
  refine lw_rd2 F hS (k := 2) rfl (by omega) d_lw_1057 d_lw_1058 ?_
  refine lp_i F hP hM hS (As := [.int (xs (i + 1)), .int (xs (i + 2))]) (rest := []) (c_P_state l D α κ hα σ 0 (xs (i + 1)) (xs (i + 2)) rfl) (cwV 2 hts (xa_V xw469 xw470 xw471 xw1 xw472) rfl rfl rfl (by decide +kernel) ⟨Nat.le_of_ble_eq_true rfl, Nat.le_of_ble_eq_true rfl⟩) rfl hl.1 rfl (Nat.le_of_ble_eq_true rfl) d_lw_1059 (by omega) (by omega) (fun H locs hP hM hS => ?_)
  refine lv_aload_n hx hb d_lw_1062 rfl (lv_at hl 2 rfl) ?_
  refine lv_aload_n hx hb d_lw_1063 rfl (lv_at hl 0 rfl) ?_
  refine lv_iload hx hb d_lw_1064 (lv_at hl 4 rfl) ?_
  refine lv_iconst (v := 1) hx hb d_lw_1066 (by decide) ?_
  refine lw_rd2 F hS (k := 1) rfl (by omega) d_lw_1067 d_lw_1068 ?_
  refine lv_aload_n hx hb d_lw_1069 rfl (lv_at hl 0 rfl) ?_
  refine lv_iload hx hb d_lw_1070 (lv_at hl 4 rfl) ?_
  refine lv_iconst (v := 2) hx hb d_lw_1072 (by decide) ?_
  refine lw_rd2 F hS (k := 2) rfl (by omega) d_lw_1073 d_lw_1074 ?_
  refine lm_i F hP hM hS (As := [.int (xs (i + 1)), .int (xs (i + 2))]) (rest := [.int (p_state 0 (xs (i + 1)) (xs (i + 2)) σ)]) (c_M_state l D μ ν hμ τ (xs (i + 1)) (xs (i + 2))) (cwV 2 hts (xa_V xw1268 xw1269 xw1270 xw11 xw1271) rfl rfl rfl (by decide +kernel) ⟨Nat.le_of_ble_eq_true rfl, Nat.le_of_ble_eq_true rfl⟩) rfl hl.1 rfl (Nat.le_of_ble_eq_true rfl) d_lw_1075 (by omega) (by omega) (fun H locs hP hM hS => ?_)
  have K := K_state (Z := 0) hR (xs (i + 1)) (xs (i + 2))
  refine lv_icmp_eq (tgt := 1196) hx hb d_lw_1078 (by decide) (fun _ => ?_) (fun z => absurd K.1 z)
  refine W.widen (k := cells + 1) (n := slots + 6) (by omega) (by omega) ?_
  exact kk _ _ _ _ _ _ ⟨hP, hM, K.2, hS⟩ hl
set_option maxHeartbeats 4000000 in
set_option maxRecDepth 100000 in
theorem lw_k19 (F : lw_F p l s m c b L xs D α κ μ ν oa ko) (I : lw_I D α κ μ ν oa ko s H locs σ τ g) (hl : lv_has ls 7 (lw_ls b α μ oa i)) (hi : i + 7 ≤ L) (hcl : cells + 1 ≤ 601024) (hsl : slots + 6 ≤ 7293034)
    (kk : ∀ (H : Heap) (locs : List Loc) (σ τ : xb_St) (g : Nat → Int64) (ls : Array Slot), lw_I D α κ μ ν oa ko s H locs σ τ g → lv_has ls 7 (lw_ls b α μ oa i) → W p l e room_1 s m #[Value.ref b] below meth c H locs (cells + 1) (slots + 6) Q (F0 m 1196 ls [])) : W p l e room_1 s m #[Value.ref b] below meth c H locs cells slots Q (F0 m 1083 ls []) := by
  obtain ⟨⟨hx, hb, hml, hown, ht, htr⟩, ⟨hX, hbl, hL⟩, ⟨hα, hμ, hA1, hA2, hA3, ho, ho2, hd1⟩, hK, hKm, hN, hG, hC⟩ := id F
  obtain ⟨hP, hM, hR, hS⟩ := I
  have ok := Rel_sp hR
  have om := Rel_sm hR
  have hts := lw_hts ht
  refine lv_aload_n hx hb d_lw_1083 rfl (lv_at hl 1 rfl) ?_
  refine lv_aload_n hx hb d_lw_1084 rfl (lv_at hl 0 rfl) ?_
  refine lv_iload hx hb d_lw_1085 (lv_at hl 4 rfl) ?_
  refine lv_iconst (v := 1) hx hb d_lw_1087 (by decide) ?_
  refine lw_rd2 F hS (k := 1) rfl (by omega) d_lw_1088 d_lw_1089 ?_
  refine lv_aload_n hx hb d_lw_1090 rfl (lv_at hl 0 rfl) ?_
  refine lv_iload hx hb d_lw_1091 (lv_at hl 4 rfl) ?_
  refine lv_iconst (v := 2) hx hb d_lw_1093 (by decide) ?_
  refine lw_rd2 F hS (k := 2) rfl (by omega) d_lw_1094 d_lw_1095 ?_
  refine lp_l F hP hM hS (As := [.int (xs (i + 1)), .int (xs (i + 2))]) (rest := []) (c_P_channel l D α κ hα σ 0 (xs (i + 1)) (xs (i + 2)) rfl) (cwV 2 hts (xa_V xw473 xw474 xw475 xw1 xw476) rfl rfl rfl (by decide +kernel) ⟨Nat.le_of_ble_eq_true rfl, Nat.le_of_ble_eq_true rfl⟩) rfl hl.1 rfl (Nat.le_of_ble_eq_true rfl) d_lw_1096 (by omega) (by omega) (fun H locs hP hM hS => ?_)
  refine lv_aload_n hx hb d_lw_1099 rfl (lv_at hl 2 rfl) ?_
  refine lv_aload_n hx hb d_lw_1100 rfl (lv_at hl 0 rfl) ?_
  refine lv_iload hx hb d_lw_1101 (lv_at hl 4 rfl) ?_
  refine lv_iconst (v := 1) hx hb d_lw_1103 (by decide) ?_
  refine lw_rd2 F hS (k := 1) rfl (by omega) d_lw_1104 d_lw_1105 ?_
  refine lv_aload_n hx hb d_lw_1106 rfl (lv_at hl 0 rfl) ?_
  refine lv_iload hx hb d_lw_1107 (lv_at hl 4 rfl) ?_
  refine lv_iconst (v := 2) hx hb d_lw_1109 (by decide) ?_
  refine lw_rd2 F hS (k := 2) rfl (by omega) d_lw_1110 d_lw_1111 ?_
  refine lm_l F hP hM hS (As := [.int (xs (i + 1)), .int (xs (i + 2))]) (rest := [.long (p_channel 0 (xs (i + 1)) (xs (i + 2)) σ)]) (c_M_channel l D μ ν hμ τ (xs (i + 1)) (xs (i + 2))) (cwV 2 hts (xa_V xw1272 xw1273 xw1274 xw11 xw1275) rfl rfl rfl (by decide +kernel) ⟨Nat.le_of_ble_eq_true rfl, Nat.le_of_ble_eq_true rfl⟩) rfl hl.1 rfl (Nat.le_of_ble_eq_true rfl) d_lw_1112 (by omega) (by omega) (fun H locs hP hM hS => ?_)
  have K := K_channel (Z := 0) hR (xs (i + 1)) (xs (i + 2))
  refine xb_leq (tgt := 1196) hx hb d_lw_1115 d_lw_1116 (by decide) (fun _ => ?_) (fun z => absurd K.1 z)
  refine W.widen (k := cells + 1) (n := slots + 6) (by omega) (by omega) ?_
  exact kk _ _ _ _ _ _ ⟨hP, hM, K.2, hS⟩ hl
set_option maxHeartbeats 4000000 in
set_option maxRecDepth 100000 in
theorem lw_k20 (F : lw_F p l s m c b L xs D α κ μ ν oa ko) (I : lw_I D α κ μ ν oa ko s H locs σ τ g) (hl : lv_has ls 7 (lw_ls b α μ oa i)) (hi : i + 7 ≤ L) (hcl : cells + 1 ≤ 601024) (hsl : slots + 6 ≤ 7293034)
    (kk : ∀ (H : Heap) (locs : List Loc) (σ τ : xb_St) (g : Nat → Int64) (ls : Array Slot), lw_I D α κ μ ν oa ko s H locs σ τ g → lv_has ls 7 (lw_ls b α μ oa i) → W p l e room_1 s m #[Value.ref b] below meth c H locs (cells + 1) (slots + 6) Q (F0 m 1196 ls [])) : W p l e room_1 s m #[Value.ref b] below meth c H locs cells slots Q (F0 m 1121 ls []) := by
  obtain ⟨⟨hx, hb, hml, hown, ht, htr⟩, ⟨hX, hbl, hL⟩, ⟨hα, hμ, hA1, hA2, hA3, ho, ho2, hd1⟩, hK, hKm, hN, hG, hC⟩ := id F
  obtain ⟨hP, hM, hR, hS⟩ := I
  have ok := Rel_sp hR
  have om := Rel_sm hR
  have hts := lw_hts ht
  refine lv_aload_n hx hb d_lw_1121 rfl (lv_at hl 1 rfl) ?_
  refine lv_aload_n hx hb d_lw_1122 rfl (lv_at hl 0 rfl) ?_
  refine lv_iload hx hb d_lw_1123 (lv_at hl 4 rfl) ?_
  refine lv_iconst (v := 1) hx hb d_lw_1125 (by decide) ?_
  refine lw_rd2 F hS (k := 1) rfl (by omega) d_lw_1126 d_lw_1127 ?_
  refine lv_aload_n hx hb d_lw_1128 rfl (lv_at hl 0 rfl) ?_
  refine lv_iload hx hb d_lw_1129 (lv_at hl 4 rfl) ?_
  refine lv_iconst (v := 2) hx hb d_lw_1131 (by decide) ?_
  refine lw_rd2 F hS (k := 2) rfl (by omega) d_lw_1132 d_lw_1133 ?_
  refine lv_aload_n hx hb d_lw_1134 rfl (lv_at hl 0 rfl) ?_
  refine lv_iload hx hb d_lw_1135 (lv_at hl 4 rfl) ?_
  refine lv_iconst (v := 3) hx hb d_lw_1137 (by decide) ?_
  refine lw_rd2 F hS (k := 3) rfl (by omega) d_lw_1138 d_lw_1139 ?_
  refine lp_l F hP hM hS (As := [.int (xs (i + 1)), .int (xs (i + 2)), .int (xs (i + 3))]) (rest := []) (c_P_packet l D α κ hα σ 0 (xs (i + 1)) (xs (i + 2)) (xs (i + 3)) rfl ok) (cwV 3 hts (xa_V xw492 xw493 xw494 xw1 xw495) rfl rfl rfl (by decide +kernel) ⟨Nat.le_of_ble_eq_true rfl, Nat.le_of_ble_eq_true rfl⟩) rfl hl.1 rfl (Nat.le_of_ble_eq_true rfl) d_lw_1140 (by omega) (by omega) (fun H locs hP hM hS => ?_)
  refine lv_aload_n hx hb d_lw_1143 rfl (lv_at hl 2 rfl) ?_
  refine lv_aload_n hx hb d_lw_1144 rfl (lv_at hl 0 rfl) ?_
  refine lv_iload hx hb d_lw_1145 (lv_at hl 4 rfl) ?_
  refine lv_iconst (v := 1) hx hb d_lw_1147 (by decide) ?_
  refine lw_rd2 F hS (k := 1) rfl (by omega) d_lw_1148 d_lw_1149 ?_
  refine lv_aload_n hx hb d_lw_1150 rfl (lv_at hl 0 rfl) ?_
  refine lv_iload hx hb d_lw_1151 (lv_at hl 4 rfl) ?_
  refine lv_iconst (v := 2) hx hb d_lw_1153 (by decide) ?_
  refine lw_rd2 F hS (k := 2) rfl (by omega) d_lw_1154 d_lw_1155 ?_
  refine lv_aload_n hx hb d_lw_1156 rfl (lv_at hl 0 rfl) ?_
  refine lv_iload hx hb d_lw_1157 (lv_at hl 4 rfl) ?_
  refine lv_iconst (v := 3) hx hb d_lw_1159 (by decide) ?_
  refine lw_rd2 F hS (k := 3) rfl (by omega) d_lw_1160 d_lw_1161 ?_
  refine lm_l F hP hM hS (As := [.int (xs (i + 1)), .int (xs (i + 2)), .int (xs (i + 3))]) (rest := [.long (p_packet 0 (xs (i + 1)) (xs (i + 2)) (xs (i + 3)) σ)]) (c_M_packet l D μ ν hμ τ (xs (i + 1)) (xs (i + 2)) (xs (i + 3)) om) (cwV 3 hts (xa_V xw1279 xw1280 xw1281 xw11 xw1282) rfl rfl rfl (by decide +kernel) ⟨Nat.le_of_ble_eq_true rfl, Nat.le_of_ble_eq_true rfl⟩) rfl hl.1 rfl (Nat.le_of_ble_eq_true rfl) d_lw_1162 (by omega) (by omega) (fun H locs hP hM hS => ?_)
  have K := K_packet (Z := 0) hR (xs (i + 1)) (xs (i + 2)) (xs (i + 3))
  refine xb_leq (tgt := 1196) hx hb d_lw_1165 d_lw_1166 (by decide) (fun _ => ?_) (fun z => absurd K.1 z)
  refine W.widen (k := cells + 1) (n := slots + 6) (by omega) (by omega) ?_
  exact kk _ _ _ _ _ _ ⟨hP, hM, K.2, hS⟩ hl
set_option maxHeartbeats 4000000 in
set_option maxRecDepth 100000 in
theorem lw_k21 (F : lw_F p l s m c b L xs D α κ μ ν oa ko) (I : lw_I D α κ μ ν oa ko s H locs σ τ g) (hl : lv_has ls 7 (lw_ls b α μ oa i)) (hi : i + 7 ≤ L) (hcl : cells + 1 ≤ 601024) (hsl : slots + 6 ≤ 7293034)
    (kk : ∀ (H : Heap) (locs : List Loc) (σ τ : xb_St) (g : Nat → Int64) (ls : Array Slot), lw_I D α κ μ ν oa ko s H locs σ τ g → lv_has ls 7 (lw_ls b α μ oa i) → W p l e room_1 s m #[Value.ref b] below meth c H locs (cells + 1) (slots + 6) Q (F0 m 1196 ls [])) : W p l e room_1 s m #[Value.ref b] below meth c H locs cells slots Q (F0 m 1171 ls []) := by
  obtain ⟨⟨hx, hb, hml, hown, ht, htr⟩, ⟨hX, hbl, hL⟩, ⟨hα, hμ, hA1, hA2, hA3, ho, ho2, hd1⟩, hK, hKm, hN, hG, hC⟩ := id F
  obtain ⟨hP, hM, hR, hS⟩ := I
  have ok := Rel_sp hR
  have om := Rel_sm hR
  have hts := lw_hts ht
  refine lv_aload_n hx hb d_lw_1171 rfl (lv_at hl 1 rfl) ?_
  refine lv_aload_n hx hb d_lw_1172 rfl (lv_at hl 0 rfl) ?_
  refine lv_iload hx hb d_lw_1173 (lv_at hl 4 rfl) ?_
  refine lv_iconst (v := 1) hx hb d_lw_1175 (by decide) ?_
  refine lw_rd2 F hS (k := 1) rfl (by omega) d_lw_1176 d_lw_1177 ?_
  refine lp_i F hP hM hS (As := [.int (xs (i + 1))]) (rest := []) (c_P_line l D α κ hα σ 0 (xs (i + 1)) rfl) (cwV 1 hts (xa_V xw496 xw497 xw498 xw1 xw499) rfl rfl rfl (by decide +kernel) ⟨Nat.le_of_ble_eq_true rfl, Nat.le_of_ble_eq_true rfl⟩) rfl hl.1 rfl (Nat.le_of_ble_eq_true rfl) d_lw_1178 (by omega) (by omega) (fun H locs hP hM hS => ?_)
  refine lv_aload_n hx hb d_lw_1181 rfl (lv_at hl 2 rfl) ?_
  refine lv_aload_n hx hb d_lw_1182 rfl (lv_at hl 0 rfl) ?_
  refine lv_iload hx hb d_lw_1183 (lv_at hl 4 rfl) ?_
  refine lv_iconst (v := 1) hx hb d_lw_1185 (by decide) ?_
  refine lw_rd2 F hS (k := 1) rfl (by omega) d_lw_1186 d_lw_1187 ?_
  refine lm_i F hP hM hS (As := [.int (xs (i + 1))]) (rest := [.int (p_line 0 (xs (i + 1)) σ)]) (c_M_line l D μ ν hμ τ (xs (i + 1))) (cwV 1 hts (xa_V xw1283 xw1284 xw1285 xw11 xw1286) rfl rfl rfl (by decide +kernel) ⟨Nat.le_of_ble_eq_true rfl, Nat.le_of_ble_eq_true rfl⟩) rfl hl.1 rfl (Nat.le_of_ble_eq_true rfl) d_lw_1188 (by omega) (by omega) (fun H locs hP hM hS => ?_)
  have K := K_line (Z := 0) hR (xs (i + 1))
  refine lv_icmp_eq (tgt := 1196) hx hb d_lw_1191 (by decide) (fun _ => ?_) (fun z => absurd K.1 z)
  refine W.widen (k := cells + 1) (n := slots + 6) (by omega) (by omega) ?_
  exact kk _ _ _ _ _ _ ⟨hP, hM, K.2, hS⟩ hl
end LWC
