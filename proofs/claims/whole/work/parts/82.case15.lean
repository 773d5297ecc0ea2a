theorem xw369 : (Cond.methodLink "SecurePairLaw" (90 : Nat) ({ cls := "SecurePair", name := "leave", desc := "(II)Z" } : MethodName)) ∈ xa := xa_t 369 (by decide +kernel) (by decide +kernel)
theorem xw370 : (Cond.instanceMethod ({ cls := "SecurePair", name := "leave", desc := "(II)Z" } : MethodName)) ∈ xa := xa_t 370 (by decide +kernel) (by decide +kernel)
theorem xw371 : (Cond.selects "SecurePair" ({ cls := "SecurePair", name := "leave", desc := "(II)Z" } : MethodName) ({ cls := "SecurePair", name := "leave", desc := "(II)Z" } : MethodName)) ∈ xa := xa_t 371 (by decide +kernel) (by decide +kernel)
theorem xw372 : (Cond.code ({ cls := "SecurePair", name := "leave", desc := "(II)Z" } : MethodName) prog_1_method_12_code (4 : Nat) (Option.some ClassFile.FieldType.boolean)) ∈ xa := xa_t 372 (by decide +kernel) (by decide +kernel)
theorem xw412 : (Cond.methodLink "SecurePairLaw" (94 : Nat) ({ cls := "SecurePair", name := "lose", desc := "(I)Z" } : MethodName)) ∈ xa := xa_t 412 (by decide +kernel) (by decide +kernel)
theorem xw413 : (Cond.instanceMethod ({ cls := "SecurePair", name := "lose", desc := "(I)Z" } : MethodName)) ∈ xa := xa_t 413 (by decide +kernel) (by decide +kernel)
theorem xw414 : (Cond.selects "SecurePair" ({ cls := "SecurePair", name := "lose", desc := "(I)Z" } : MethodName) ({ cls := "SecurePair", name := "lose", desc := "(I)Z" } : MethodName)) ∈ xa := xa_t 414 (by decide +kernel) (by decide +kernel)
theorem xw415 : (Cond.code ({ cls := "SecurePair", name := "lose", desc := "(I)Z" } : MethodName) prog_1_method_13_code (3 : Nat) (Option.some ClassFile.FieldType.boolean)) ∈ xa := xa_t 415 (by decide +kernel) (by decide +kernel)
theorem xw427 : (Cond.methodLink "SecurePairLaw" (99 : Nat) ({ cls := "SecurePair", name := "twice", desc := "(I)Z" } : MethodName)) ∈ xa := xa_t 427 (by decide +kernel) (by decide +kernel)
theorem xw428 : (Cond.instanceMethod ({ cls := "SecurePair", name := "twice", desc := "(I)Z" } : MethodName)) ∈ xa := xa_t 428 (by decide +kernel) (by decide +kernel)
theorem xw429 : (Cond.selects "SecurePair" ({ cls := "SecurePair", name := "twice", desc := "(I)Z" } : MethodName) ({ cls := "SecurePair", name := "twice", desc := "(I)Z" } : MethodName)) ∈ xa := xa_t 429 (by decide +kernel) (by decide +kernel)
theorem xw430 : (Cond.code ({ cls := "SecurePair", name := "twice", desc := "(I)Z" } : MethodName) prog_1_method_14_code (3 : Nat) (Option.some ClassFile.FieldType.boolean)) ∈ xa := xa_t 430 (by decide +kernel) (by decide +kernel)
theorem xw435 : (Cond.methodLink "SecurePairLaw" (103 : Nat) ({ cls := "SecurePair", name := "swap", desc := "(I)Z" } : MethodName)) ∈ xa := xa_t 435 (by decide +kernel) (by decide +kernel)
theorem xw436 : (Cond.instanceMethod ({ cls := "SecurePair", name := "swap", desc := "(I)Z" } : MethodName)) ∈ xa := xa_t 436 (by decide +kernel) (by decide +kernel)
theorem xw437 : (Cond.selects "SecurePair" ({ cls := "SecurePair", name := "swap", desc := "(I)Z" } : MethodName) ({ cls := "SecurePair", name := "swap", desc := "(I)Z" } : MethodName)) ∈ xa := xa_t 437 (by decide +kernel) (by decide +kernel)
theorem xw438 : (Cond.code ({ cls := "SecurePair", name := "swap", desc := "(I)Z" } : MethodName) prog_1_method_15_code (3 : Nat) (Option.some ClassFile.FieldType.boolean)) ∈ xa := xa_t 438 (by decide +kernel) (by decide +kernel)
theorem xw443 : (Cond.methodLink "SecurePairLaw" (107 : Nat) ({ cls := "SecurePair", name := "insert", desc := "(IIJJ)Z" } : MethodName)) ∈ xa := xa_t 443 (by decide +kernel) (by decide +kernel)
theorem xw444 : (Cond.instanceMethod ({ cls := "SecurePair", name := "insert", desc := "(IIJJ)Z" } : MethodName)) ∈ xa := xa_t 444 (by decide +kernel) (by decide +kernel)
theorem xw445 : (Cond.selects "SecurePair" ({ cls := "SecurePair", name := "insert", desc := "(IIJJ)Z" } : MethodName) ({ cls := "SecurePair", name := "insert", desc := "(IIJJ)Z" } : MethodName)) ∈ xa := xa_t 445 (by decide +kernel) (by decide +kernel)
theorem xw446 : (Cond.code ({ cls := "SecurePair", name := "insert", desc := "(IIJJ)Z" } : MethodName) prog_1_method_16_code (8 : Nat) (Option.some ClassFile.FieldType.boolean)) ∈ xa := xa_t 446 (by decide +kernel) (by decide +kernel)
theorem xw452 : (Cond.methodLink "SecurePairLaw" (112 : Nat) ({ cls := "SecurePair", name := "alter", desc := "(III)Z" } : MethodName)) ∈ xa := xa_t 452 (by decide +kernel) (by decide +kernel)
theorem xw453 : (Cond.instanceMethod ({ cls := "SecurePair", name := "alter", desc := "(III)Z" } : MethodName)) ∈ xa := xa_t 453 (by decide +kernel) (by decide +kernel)
theorem xw454 : (Cond.selects "SecurePair" ({ cls := "SecurePair", name := "alter", desc := "(III)Z" } : MethodName) ({ cls := "SecurePair", name := "alter", desc := "(III)Z" } : MethodName)) ∈ xa := xa_t 454 (by decide +kernel) (by decide +kernel)
theorem xw455 : (Cond.code ({ cls := "SecurePair", name := "alter", desc := "(III)Z" } : MethodName) prog_1_method_17_code (5 : Nat) (Option.some ClassFile.FieldType.boolean)) ∈ xa := xa_t 455 (by decide +kernel) (by decide +kernel)
theorem xw1231 : (Cond.methodLink "SecurePairLaw" (93 : Nat) ({ cls := "SecurePairModel", name := "leave", desc := "(II)Z" } : MethodName)) ∈ xa := xa_t 1231 (by decide +kernel) (by decide +kernel)
theorem xw1232 : (Cond.instanceMethod ({ cls := "SecurePairModel", name := "leave", desc := "(II)Z" } : MethodName)) ∈ xa := xa_t 1232 (by decide +kernel) (by decide +kernel)
theorem xw1233 : (Cond.selects "SecurePairModel" ({ cls := "SecurePairModel", name := "leave", desc := "(II)Z" } : MethodName) ({ cls := "SecurePairModel", name := "leave", desc := "(II)Z" } : MethodName)) ∈ xa := xa_t 1233 (by decide +kernel) (by decide +kernel)
theorem xw1234 : (Cond.code ({ cls := "SecurePairModel", name := "leave", desc := "(II)Z" } : MethodName) prog_12_method_42_code (3 : Nat) (Option.some ClassFile.FieldType.boolean)) ∈ xa := xa_t 1234 (by decide +kernel) (by decide +kernel)
theorem xw1235 : (Cond.methodLink "SecurePairLaw" (98 : Nat) ({ cls := "SecurePairModel", name := "lose", desc := "(I)Z" } : MethodName)) ∈ xa := xa_t 1235 (by decide +kernel) (by decide +kernel)
theorem xw1236 : (Cond.instanceMethod ({ cls := "SecurePairModel", name := "lose", desc := "(I)Z" } : MethodName)) ∈ xa := xa_t 1236 (by decide +kernel) (by decide +kernel)
theorem xw1237 : (Cond.selects "SecurePairModel" ({ cls := "SecurePairModel", name := "lose", desc := "(I)Z" } : MethodName) ({ cls := "SecurePairModel", name := "lose", desc := "(I)Z" } : MethodName)) ∈ xa := xa_t 1237 (by decide +kernel) (by decide +kernel)
theorem xw1238 : (Cond.code ({ cls := "SecurePairModel", name := "lose", desc := "(I)Z" } : MethodName) prog_12_method_43_code (2 : Nat) (Option.some ClassFile.FieldType.boolean)) ∈ xa := xa_t 1238 (by decide +kernel) (by decide +kernel)
theorem xw1239 : (Cond.methodLink "SecurePairLaw" (102 : Nat) ({ cls := "SecurePairModel", name := "twice", desc := "(I)Z" } : MethodName)) ∈ xa := xa_t 1239 (by decide +kernel) (by decide +kernel)
theorem xw1240 : (Cond.instanceMethod ({ cls := "SecurePairModel", name := "twice", desc := "(I)Z" } : MethodName)) ∈ xa := xa_t 1240 (by decide +kernel) (by decide +kernel)
theorem xw1241 : (Cond.selects "SecurePairModel" ({ cls := "SecurePairModel", name := "twice", desc := "(I)Z" } : MethodName) ({ cls := "SecurePairModel", name := "twice", desc := "(I)Z" } : MethodName)) ∈ xa := xa_t 1241 (by decide +kernel) (by decide +kernel)
theorem xw1242 : (Cond.code ({ cls := "SecurePairModel", name := "twice", desc := "(I)Z" } : MethodName) prog_12_method_45_code (2 : Nat) (Option.some ClassFile.FieldType.boolean)) ∈ xa := xa_t 1242 (by decide +kernel) (by decide +kernel)
theorem xw1247 : (Cond.methodLink "SecurePairLaw" (106 : Nat) ({ cls := "SecurePairModel", name := "swap", desc := "(I)Z" } : MethodName)) ∈ xa := xa_t 1247 (by decide +kernel) (by decide +kernel)
theorem xw1248 : (Cond.instanceMethod ({ cls := "SecurePairModel", name := "swap", desc := "(I)Z" } : MethodName)) ∈ xa := xa_t 1248 (by decide +kernel) (by decide +kernel)
theorem xw1249 : (Cond.selects "SecurePairModel" ({ cls := "SecurePairModel", name := "swap", desc := "(I)Z" } : MethodName) ({ cls := "SecurePairModel", name := "swap", desc := "(I)Z" } : MethodName)) ∈ xa := xa_t 1249 (by decide +kernel) (by decide +kernel)
theorem xw1250 : (Cond.code ({ cls := "SecurePairModel", name := "swap", desc := "(I)Z" } : MethodName) prog_12_method_46_code (2 : Nat) (Option.some ClassFile.FieldType.boolean)) ∈ xa := xa_t 1250 (by decide +kernel) (by decide +kernel)
theorem xw1251 : (Cond.methodLink "SecurePairLaw" (111 : Nat) ({ cls := "SecurePairModel", name := "insert", desc := "(IIJJ)Z" } : MethodName)) ∈ xa := xa_t 1251 (by decide +kernel) (by decide +kernel)
theorem xw1252 : (Cond.instanceMethod ({ cls := "SecurePairModel", name := "insert", desc := "(IIJJ)Z" } : MethodName)) ∈ xa := xa_t 1252 (by decide +kernel) (by decide +kernel)
theorem xw1253 : (Cond.selects "SecurePairModel" ({ cls := "SecurePairModel", name := "insert", desc := "(IIJJ)Z" } : MethodName) ({ cls := "SecurePairModel", name := "insert", desc := "(IIJJ)Z" } : MethodName)) ∈ xa := xa_t 1253 (by decide +kernel) (by decide +kernel)
theorem xw1254 : (Cond.code ({ cls := "SecurePairModel", name := "insert", desc := "(IIJJ)Z" } : MethodName) prog_12_method_47_code (8 : Nat) (Option.some ClassFile.FieldType.boolean)) ∈ xa := xa_t 1254 (by decide +kernel) (by decide +kernel)
theorem xw1255 : (Cond.methodLink "SecurePairLaw" (115 : Nat) ({ cls := "SecurePairModel", name := "alter", desc := "(III)Z" } : MethodName)) ∈ xa := xa_t 1255 (by decide +kernel) (by decide +kernel)
theorem xw1256 : (Cond.instanceMethod ({ cls := "SecurePairModel", name := "alter", desc := "(III)Z" } : MethodName)) ∈ xa := xa_t 1256 (by decide +kernel) (by decide +kernel)
theorem xw1257 : (Cond.selects "SecurePairModel" ({ cls := "SecurePairModel", name := "alter", desc := "(III)Z" } : MethodName) ({ cls := "SecurePairModel", name := "alter", desc := "(III)Z" } : MethodName)) ∈ xa := xa_t 1257 (by decide +kernel) (by decide +kernel)
theorem xw1258 : (Cond.code ({ cls := "SecurePairModel", name := "alter", desc := "(III)Z" } : MethodName) prog_12_method_48_code (5 : Nat) (Option.some ClassFile.FieldType.boolean)) ∈ xa := xa_t 1258 (by decide +kernel) (by decide +kernel)
section LWC
variable {p : Program} {l : Launch} {e : Env} {s : State} {m : MethodId} {below : List Frame} {meth : Method} {c : Code} {H : Heap} {locs : List Loc} {cells slots : Nat} {Q : State → Prop}
variable {pc : Nat} {ls : Array Slot} {rest st0 : List Value} {b L : Nat} {xs : Nat → Int32} {D : va_G} {α : Nat → Nat} {κ : Nat → ClassId} {μ : Nat → Nat} {ν : Nat → ClassId} {oa : Nat} {ko : ClassId} {σ τ : xb_St} {g : Nat → Int64} {i : Nat}
set_option maxHeartbeats 4000000 in
set_option maxRecDepth 100000 in
theorem lw_k10 (F : lw_F p l s m c b L xs D α κ μ ν oa ko) (I : lw_I D α κ μ ν oa ko s H locs σ τ g) (hl : lv_has ls 7 (lw_ls b α μ oa i)) (hi : i + 7 ≤ L) (hcl : cells + 1 ≤ 601024) (hsl : slots + 6 ≤ 7293034)
    (kk : ∀ (H : Heap) (locs : List Loc) (σ τ : xb_St) (g : Nat → Int64) (ls : Array Slot), lw_I D α κ μ ν oa ko s H locs σ τ g → lv_has ls 7 (lw_ls b α μ oa i) → W p l e room_1 s m #[Value.ref b] below meth c H locs (cells + 1) (slots + 6) Q (F0 m 1196 ls [])) : W p l e room_1 s m #[Value.ref b] below meth c H locs cells slots Q (F0 m 706 ls []) := by
  obtain ⟨⟨hx, hb, hml, hown, ht, htr⟩, ⟨hX, hbl, hL⟩, ⟨hα, hμ, hA1, hA2, hA3, ho, ho2, hd1⟩, hK, hKm, hN, hG, hC⟩ := id F
  obtain ⟨hP, hM, hR, hS⟩ := I
  have ok := Rel_sp hR
  have om := Rel_sm hR
  have hts := lw_hts ht
  refine lv_aload_n hx hb d_lw_706 rfl (lv_at hl 1 rfl) ?_
  refine lv_aload_n hx hb d_lw_707 rfl (lv_at hl 0 rfl) ?_
  refine lv_iload hx hb d_lw_708 (lv_at hl 4 rfl) ?_
  refine lv_iconst (v := 1) hx hb d_lw_710 (by decide) ?_
  refine lw_rd2 F hS (k := 1) rfl (by omega) d_lw_711 d_lw_712 ?_
  refine lv_aload_n hx hb d_lw_713 rfl (lv_at hl 0 rfl) ?_
  refine lv_iload hx hb d_lw_714 (lv_at hl 4 rfl) ?_
  refine lv_iconst (v := 2) hx hb d_lw_716 (by decide) ?_
  refine lw_rd2 F hS (k := 2) rfl (by omega) d_lw_717 d_lw_718 ?_
  refine lp_i F hP hM hS (As := [.int (xs (i + 1)), .int (xs (i + 2))]) (rest := []) (c_P_leave l D α κ hα σ 0 (xs (i + 1)) (xs (i + 2)) rfl ok) (cwV 2 hts (xa_V xw369 xw370 xw371 xw1 xw372) rfl rfl rfl (by decide +kernel) ⟨Nat.le_of_ble_eq_true rfl, Nat.le_of_ble_eq_true rfl⟩) rfl hl.1 rfl (Nat.le_of_ble_eq_true rfl) d_lw_719 (by omega) (by omega) (fun H locs hP hM hS => ?_)
  refine lv_aload_n hx hb d_lw_722 rfl (lv_at hl 2 rfl) ?_
  refine lv_aload_n hx hb d_lw_723 rfl (lv_at hl 0 rfl) ?_
  refine lv_iload hx hb d_lw_724 (lv_at hl 4 rfl) ?_
  refine lv_iconst (v := 1) hx hb d_lw_726 (by decide) ?_
  refine lw_rd2 F hS (k := 1) rfl (by omega) d_lw_727 d_lw_728 ?_
  refine lv_aload_n hx hb d_lw_729 rfl (lv_at hl 0 rfl) ?_
  refine lv_iload hx hb d_lw_730 (lv_at hl 4 rfl) ?_
  refine lv_iconst (v := 2) hx hb d_lw_732 (by decide) ?_
  refine lw_rd2 F hS (k := 2) rfl (by omega) d_lw_733 d_lw_734 ?_
  refine lm_i F hP hM hS (As := [.int (xs (i + 1)), .int (xs (i + 2))]) (rest := [.int (p_leave 0 (xs (i + 1)) (xs (i + 2)) σ).1]) (c_M_leave l D μ ν hμ τ (xs (i + 1)) (xs (i + 2)) om) (cwV 2 hts (xa_V xw1231 xw1232 xw1233 xw11 xw1234) rfl rfl rfl (by decide +kernel) ⟨Nat.le_of_ble_eq_true rfl, Nat.le_of_ble_eq_true rfl⟩) rfl hl.1 rfl (Nat.le_of_ble_eq_true rfl) d_lw_735 (by omega) (by omega) (fun H locs hP hM hS => ?_)
  have K := K_leave (Z := 0) hR (xs (i + 1)) (xs (i + 2))
  refine lv_icmp_eq (tgt := 1196) hx hb d_lw_738 (by decide) (fun _ => ?_) (fun z => absurd K.1 z)
  refine W.widen (k := cells + 1) (n := slots + 6) (by omega) (by omega) ?_
  exact kk _ _ _ _ _ _ ⟨hP, hM, K.2, hS⟩ hl
set_option maxHeartbeats 4000000 in
set_option maxRecDepth 100000 in
theorem lw_k11 (F : lw_F p l s m c b L xs D α κ μ ν oa ko) (I : lw_I D α κ μ ν oa ko s H locs σ τ g) (hl : lv_has ls 7 (lw_ls b α μ oa i)) (hi : i + 7 ≤ L) (hcl : cells + 1 ≤ 601024) (hsl : slots + 6 ≤ 7293034)
    (kk : ∀ (H : Heap) (locs : List Loc) (σ τ : xb_St) (g : Nat → Int64) (ls : Array Slot), lw_I D α κ μ ν oa ko s H locs σ τ g → lv_has ls 7 (lw_ls b α μ oa i) → W p l e room_1 s m #[Value.ref b] below meth c H locs (cells + 1) (slots + 6) Q (F0 m 1196 ls [])) : W p l e room_1 s m #[Value.ref b] below meth c H locs cells slots Q (F0 m 743 ls []) := by
  obtain ⟨⟨hx, hb, hml, hown, ht, htr⟩, ⟨hX, hbl, hL⟩, ⟨hα, hμ, hA1, hA2, hA3, ho, ho2, hd1⟩, hK, hKm, hN, hG, hC⟩ := id F
  obtain ⟨hP, hM, hR, hS⟩ := I
  have ok := Rel_sp hR
  have om := Rel_sm hR
  have hts := lw_hts ht
  refine lv_aload_n hx hb d_lw_743 rfl (lv_at hl 1 rfl) ?_
  refine lv_aload_n hx hb d_lw_744 rfl (lv_at hl 0 rfl) ?_
  refine lv_iload hx hb d_lw_745 (lv_at hl 4 rfl) ?_
  refine lv_iconst (v := 1) hx hb d_lw_747 (by decide) ?_
  refine lw_rd2 F hS (k := 1) rfl (by omega) d_lw_748 d_lw_749 ?_
  refine lp_i F hP hM hS (As := [.int (xs (i + 1))]) (rest := []) (c_P_lose l D α κ hα σ 0 (xs (i + 1)) rfl ok) (cwV 1 hts (xa_V xw412 xw413 xw414 xw1 xw415) rfl rfl rfl (by decide +kernel) ⟨Nat.le_of_ble_eq_true rfl, Nat.le_of_ble_eq_true rfl⟩) rfl hl.1 rfl (Nat.le_of_ble_eq_true rfl) d_lw_750 (by omega) (by omega) (fun H locs hP hM hS => ?_)
  refine lv_aload_n hx hb d_lw_753 rfl (lv_at hl 2 rfl) ?_
  refine lv_aload_n hx hb d_lw_754 rfl (lv_at hl 0 rfl) ?_
  refine lv_iload hx hb d_lw_755 (lv_at hl 4 rfl) ?_
  refine lv_iconst (v := 1) hx hb d_lw_757 (by decide) ?_
  refine lw_rd2 F hS (k := 1) rfl (by omega) d_lw_758 d_lw_759 ?_
  refine lm_i F hP hM hS (As := [.int (xs (i + 1))]) (rest := [.int (p_lose 0 (xs (i + 1)) σ).1]) (c_M_lose l D μ ν hμ τ (xs (i + 1)) om) (cwV 1 hts (xa_V xw1235 xw1236 xw1237 xw11 xw1238) rfl rfl rfl (by decide +kernel) ⟨Nat.le_of_ble_eq_true rfl, Nat.le_of_ble_eq_true rfl⟩) rfl hl.1 rfl (Nat.le_of_ble_eq_true rfl) d_lw_760 (by omega) (by omega) (fun H locs hP hM hS => ?_)
  have K := K_lose (Z := 0) hR (xs (i + 1))
  refine lv_icmp_eq (tgt := 1196) hx hb d_lw_763 (by decide) (fun _ => ?_) (fun z => absurd K.1 z)
  refine W.widen (k := cells + 1) (n := slots + 6) (by omega) (by omega) ?_
  exact kk _ _ _ _ _ _ ⟨hP, hM, K.2, hS⟩ hl
set_option maxHeartbeats 4000000 in
set_option maxRecDepth 100000 in
theorem lw_k12 (F : lw_F p l s m c b L xs D α κ μ ν oa ko) (I : lw_I D α κ μ ν oa ko s H locs σ τ g) (hl : lv_has ls 7 (lw_ls b α μ oa i)) (hi : i + 7 ≤ L) (hcl : cells + 1 ≤ 601024) (hsl : slots + 6 ≤ 7293034)
    (kk : ∀ (H : Heap) (locs : List Loc) (σ τ : xb_St) (g : Nat → Int64) (ls : Array Slot), lw_I D α κ μ ν oa ko s H locs σ τ g → lv_has ls 7 (lw_ls b α μ oa i) → W p l e room_1 s m #[Value.ref b] below meth c H locs (cells + 1) (slots + 6) Q (F0 m 1196 ls [])) : W p l e room_1 s m #[Value.ref b] below meth c H locs cells slots Q (F0 m 768 ls []) := by
  obtain ⟨⟨hx, hb, hml, hown, ht, htr⟩, ⟨hX, hbl, hL⟩, ⟨hα, hμ, hA1, hA2, hA3, ho, ho2, hd1⟩, hK, hKm, hN, hG, hC⟩ := id F
  obtain ⟨hP, hM, hR, hS⟩ := I
  have ok := Rel_sp hR
  have om := Rel_sm hR
  have hts := lw_hts ht
  refine lv_aload_n hx hb d_lw_768 rfl (lv_at hl 1 rfl) ?_
  refine lv_aload_n hx hb d_lw_769 rfl (lv_at hl 0 rfl) ?_
  refine lv_iload hx hb d_lw_770 (lv_at hl 4 rfl) ?_
  refine lv_iconst (v := 1) hx hb d_lw_772 (by decide) ?_
  refine lw_rd2 F hS (k := 1) rfl (by omega) d_lw_773 d_lw_774 ?_
  refine lp_i F hP hM hS (As := [.int (xs (i + 1))]) (rest := []) (c_P_twice l D α κ hα σ 0 (xs (i + 1)) rfl ok) (cwV 1 hts (xa_V xw427 xw428 xw429 xw1 xw430) rfl rfl rfl (by decide +kernel) ⟨Nat.le_of_ble_eq_true rfl, Nat.le_of_ble_eq_true rfl⟩) rfl hl.1 rfl (Nat.le_of_ble_eq_true rfl) d_lw_775 (by omega) (by omega) (fun H locs hP hM hS => ?_)
  refine lv_aload_n hx hb d_lw_778 rfl (lv_at hl 2 rfl) ?_
  refine lv_aload_n hx hb d_lw_779 rfl (lv_at hl 0 rfl) ?_
  refine lv_iload hx hb d_lw_780 (lv_at hl 4 rfl) ?_
  refine lv_iconst (v := 1) hx hb d_lw_782 (by decide) ?_
  refine lw_rd2 F hS (k := 1) rfl (by omega) d_lw_783 d_lw_784 ?_
  refine lm_i F hP hM hS (As := [.int (xs (i + 1))]) (rest := [.int (p_twice 0 (xs (i + 1)) σ).1]) (c_M_twice l D μ ν hμ τ (xs (i + 1)) om) (cwV 1 hts (xa_V xw1239 xw1240 xw1241 xw11 xw1242) rfl rfl rfl (by decide +kernel) ⟨Nat.le_of_ble_eq_true rfl, Nat.le_of_ble_eq_true rfl⟩) rfl hl.1 rfl (Nat.le_of_ble_eq_true rfl) d_lw_785 (by omega) (by omega) (fun H locs hP hM hS => ?_)
  have K := K_twice (Z := 0) hR (xs (i + 1))
  refine lv_icmp_eq (tgt := 1196) hx hb d_lw_788 (by decide) (fun _ => ?_) (fun z => absurd K.1 z)
  refine W.widen (k := cells + 1) (n := slots + 6) (by omega) (by omega) ?_
  exact kk _ _ _ _ _ _ ⟨hP, hM, K.2, hS⟩ hl
set_option maxHeartbeats 4000000 in
set_option maxRecDepth 100000 in
theorem lw_k13 (F : lw_F p l s m c b L xs D α κ μ ν oa ko) (I : lw_I D α κ μ ν oa ko s H locs σ τ g) (hl : lv_has ls 7 (lw_ls b α μ oa i)) (hi : i + 7 ≤ L) (hcl : cells + 1 ≤ 601024) (hsl : slots + 6 ≤ 7293034)
    (kk : ∀ (H : Heap) (locs : List Loc) (σ τ : xb_St) (g : Nat → Int64) (ls : Array Slot), lw_I D α κ μ ν oa ko s H locs σ τ g → lv_has ls 7 (lw_ls b α μ oa i) → W p l e room_1 s m #[Value.ref b] below meth c H locs (cells + 1) (slots + 6) Q (F0 m 1196 ls [])) : W p l e room_1 s m #[Value.ref b] below meth c H locs cells slots Q (F0 m 793 ls []) := by
  obtain ⟨⟨hx, hb, hml, hown, ht, htr⟩, ⟨hX, hbl, hL⟩, ⟨hα, hμ, hA1, hA2, hA3, ho, ho2, hd1⟩, hK, hKm, hN, hG, hC⟩ := id F
  obtain ⟨hP, hM, hR, hS⟩ := I
  have ok := Rel_sp hR
  have om := Rel_sm hR
  have hts := lw_hts ht
  refine lv_aload_n hx hb d_lw_793 rfl (lv_at hl 1 rfl) ?_
  refine lv_aload_n hx hb d_lw_794 rfl (lv_at hl 0 rfl) ?_
  refine lv_iload hx hb d_lw_795 (lv_at hl 4 rfl) ?_
  refine lv_iconst (v := 1) hx hb d_lw_797 (by decide) ?_
  refine lw_rd2 F hS (k := 1) rfl (by omega) d_lw_798 d_lw_799 ?_
  refine lp_i F hP hM hS (As := [.int (xs (i + 1))]) (rest := []) (c_P_swap l D α κ hα σ 0 (xs (i + 1)) rfl) (cwV 1 hts (xa_V xw435 xw436 xw437 xw1 xw438) rfl rfl rfl (by decide +kernel) ⟨Nat.le_of_ble_eq_true rfl, Nat.le_of_ble_eq_true rfl⟩) rfl hl.1 rfl (Nat.le_of_ble_eq_true rfl) d_lw_800 (by omega) (by omega) (fun H locs hP hM hS => ?_)
  refine lv_aload_n hx hb d_lw_803 rfl (lv_at hl 2 rfl) ?_
  refine lv_aload_n hx hb d_lw_804 rfl (lv_at hl 0 rfl) ?_
  refine lv_iload hx hb d_lw_805 (lv_at hl 4 rfl) ?_
  refine lv_iconst (v := 1) hx hb d_lw_807 (by decide) ?_
  refine lw_rd2 F hS (k := 1) rfl (by omega) d_lw_808 d_lw_809 ?_
  refine lm_i F hP hM hS (As := [.int (xs (i + 1))]) (rest := [.int (p_swap 0 (xs (i + 1)) σ).1]) (c_M_swap l D μ ν hμ τ (xs (i + 1))) (cwV 1 hts (xa_V xw1247 xw1248 xw1249 xw11 xw1250) rfl rfl rfl (by decide +kernel) ⟨Nat.le_of_ble_eq_true rfl, Nat.le_of_ble_eq_true rfl⟩) rfl hl.1 rfl (Nat.le_of_ble_eq_true rfl) d_lw_810 (by omega) (by omega) (fun H locs hP hM hS => ?_)
  have K := K_swap (Z := 0) hR (xs (i + 1))
  refine lv_icmp_eq (tgt := 1196) hx hb d_lw_813 (by decide) (fun _ => ?_) (fun z => absurd K.1 z)
  refine W.widen (k := cells + 1) (n := slots + 6) (by omega) (by omega) ?_
  exact kk _ _ _ _ _ _ ⟨hP, hM, K.2, hS⟩ hl
set_option maxHeartbeats 4000000 in
set_option maxRecDepth 100000 in
theorem lw_k14 (F : lw_F p l s m c b L xs D α κ μ ν oa ko) (I : lw_I D α κ μ ν oa ko s H locs σ τ g) (hl : lv_has ls 7 (lw_ls b α μ oa i)) (hi : i + 7 ≤ L) (hcl : cells + 1 ≤ 601024) (hsl : slots + 6 ≤ 7293034)
    (kk : ∀ (H : Heap) (locs : List Loc) (σ τ : xb_St) (g : Nat → Int64) (ls : Array Slot), lw_I D α κ μ ν oa ko s H locs σ τ g → lv_has ls 7 (lw_ls b α μ oa i) → W p l e room_1 s m #[Value.ref b] below meth c H locs (cells + 1) (slots + 6) Q (F0 m 1196 ls [])) : W p l e room_1 s m #[Value.ref b] below meth c H locs cells slots Q (F0 m 818 ls []) := by
  obtain ⟨⟨hx, hb, hml, hown, ht, htr⟩, ⟨hX, hbl, hL⟩, ⟨hα, hμ, hA1, hA2, hA3, ho, ho2, hd1⟩, hK, hKm, hN, hG, hC⟩ := id F
  obtain ⟨hP, hM, hR, hS⟩ := I
  have ok := Rel_sp hR
  have om := Rel_sm hR
  have hts := lw_hts ht
  refine lv_aload_n hx hb d_lw_818 rfl (lv_at hl 1 rfl) ?_
  refine lv_aload_n hx hb d_lw_819 rfl (lv_at hl 0 rfl) ?_
  refine lv_iload hx hb d_lw_820 (lv_at hl 4 rfl) ?_
  refine lv_iconst (v := 1) hx hb d_lw_822 (by decide) ?_
  refine lw_rd2 F hS (k := 1) rfl (by omega) d_lw_823 d_lw_824 ?_
  refine lv_aload_n hx hb d_lw_825 rfl (lv_at hl 0 rfl) ?_
  refine lv_iload hx hb d_lw_826 (lv_at hl 4 rfl) ?_
  refine lv_iconst (v := 2) hx hb d_lw_828 (by decide) ?_
  refine lw_rd2 F hS (k := 2) rfl (by omega) d_lw_829 d_lw_830 ?_
  refine lv_aload_n hx hb d_lw_831 rfl (lv_at hl 0 rfl) ?_
  refine lv_iload hx hb d_lw_832 (lv_at hl 4 rfl) ?_
  refine lv_iconst (v := 3) hx hb d_lw_834 (by decide) ?_
  refine lw_rd2 F hS (k := 3) rfl (by omega) d_lw_835 d_lw_836 ?_
  refine lv_i2l (v := (xs (i + 3)).toInt64) hx hb d_lw_837 rfl ?_
  refine lv_bipush (v := 32) hx hb d_lw_838 (by decide) ?_
  refine lv_lshl (v := (xb_lshl (xs (i + 3)).toInt64 (32 : Int32))) hx hb d_lw_840 rfl ?_
  refine lv_aload_n hx hb d_lw_841 rfl (lv_at hl 0 rfl) ?_
  refine lv_iload hx hb d_lw_842 (lv_at hl 4 rfl) ?_
  refine lv_iconst (v := 4) hx hb d_lw_844 (by decide) ?_
  refine lw_rd2 F hS (k := 4) rfl (by omega) d_lw_845 d_lw_846 ?_
  refine lv_i2l (v := (xs (i + 4)).toInt64) hx hb d_lw_847 rfl ?_
  refine lv_ldc2 hx hb hown (ht _ xw1287) d_lw_848 ?_
  refine lv_land hx hb d_lw_851 ?_
  refine lv_lor hx hb d_lw_852 ?_
  refine lv_aload_n hx hb d_lw_853 rfl (lv_at hl 0 rfl) ?_
  refine lv_iload hx hb d_lw_854 (lv_at hl 4 rfl) ?_
  refine lv_iconst (v := 5) hx hb d_lw_856 (by decide) ?_
  refine lw_rd2 F hS (k := 5) rfl (by omega) d_lw_857 d_lw_858 ?_
  refine lv_i2l (v := (xs (i + 5)).toInt64) hx hb d_lw_859 rfl ?_
  refine lv_bipush (v := 32) hx hb d_lw_860 (by decide) ?_
  refine lv_lshl (v := (xb_lshl (xs (i + 5)).toInt64 (32 : Int32))) hx hb d_lw_862 rfl ?_
  refine lv_aload_n hx hb d_lw_863 rfl (lv_at hl 0 rfl) ?_
  refine lv_iload hx hb d_lw_864 (lv_at hl 4 rfl) ?_
  refine lv_bipush (v := 6) hx hb d_lw_866 (by decide) ?_
  refine lw_rd2 F hS (k := 6) rfl (by omega) d_lw_868 d_lw_869 ?_
  refine lv_i2l (v := (xs (i + 6)).toInt64) hx hb d_lw_870 rfl ?_
  refine lv_ldc2 hx hb hown (ht _ xw1287) d_lw_871 ?_
  refine lv_land hx hb d_lw_874 ?_
  refine lv_lor hx hb d_lw_875 ?_
  refine lp_i F hP hM hS (As := [.int (xs (i + 1)), .int (xs (i + 2)), .long ((xb_lshl (xs (i + 3)).toInt64 (32 : Int32)) ||| ((xs (i + 4)).toInt64 &&& (4294967295 : Int64))), .long ((xb_lshl (xs (i + 5)).toInt64 (32 : Int32)) ||| ((xs (i + 6)).toInt64 &&& (4294967295 : Int64)))]) (rest := []) (c_P_insert l D α κ hα σ 0 (xs (i + 1)) (xs (i + 2)) ((xb_lshl (xs (i + 3)).toInt64 (32 : Int32)) ||| ((xs (i + 4)).toInt64 &&& (4294967295 : Int64))) ((xb_lshl (xs (i + 5)).toInt64 (32 : Int32)) ||| ((xs (i + 6)).toInt64 &&& (4294967295 : Int64))) rfl ok) (cwV 4 hts (xa_V xw443 xw444 xw445 xw1 xw446) rfl rfl rfl (by decide +kernel) ⟨Nat.le_of_ble_eq_true rfl, Nat.le_of_ble_eq_true rfl⟩) rfl hl.1 rfl (Nat.le_of_ble_eq_true rfl) d_lw_876 (by omega) (by omega) (fun H locs hP hM hS => ?_)
  refine lv_aload_n hx hb d_lw_879 rfl (lv_at hl 2 rfl) ?_
  refine lv_aload_n hx hb d_lw_880 rfl (lv_at hl 0 rfl) ?_
  refine lv_iload hx hb d_lw_881 (lv_at hl 4 rfl) ?_
  refine lv_iconst (v := 1) hx hb d_lw_883 (by decide) ?_
  refine lw_rd2 F hS (k := 1) rfl (by omega) d_lw_884 d_lw_885 ?_
  refine lv_aload_n hx hb d_lw_886 rfl (lv_at hl 0 rfl) ?_
  refine lv_iload hx hb d_lw_887 (lv_at hl 4 rfl) ?_
  refine lv_iconst (v := 2) hx hb d_lw_889 (by decide) ?_
  refine lw_rd2 F hS (k := 2) rfl (by omega) d_lw_890 d_lw_891 ?_
  refine lv_aload_n hx hb d_lw_892 rfl (lv_at hl 0 rfl) ?_
  refine lv_iload hx hb d_lw_893 (lv_at hl 4 rfl) ?_
  refine lv_iconst (v := 3) hx hb d_lw_895 (by decide) ?_
  refine lw_rd2 F hS (k := 3) rfl (by omega) d_lw_896 d_lw_897 ?_
  refine lv_i2l (v := (xs (i + 3)).toInt64) hx hb d_lw_898 rfl ?_
  refine lv_bipush (v := 32) hx hb d_lw_899 (by decide) ?_
  refine lv_lshl (v := (xb_lshl (xs (i + 3)).toInt64 (32 : Int32))) hx hb d_lw_901 rfl ?_
  refine lv_aload_n hx hb d_lw_902 rfl (lv_at hl 0 rfl) ?_
  refine lv_iload hx hb d_lw_903 (lv_at hl 4 rfl) ?_
  refine lv_iconst (v := 4) hx hb d_lw_905 (by decide) ?_
  refine lw_rd2 F hS (k := 4) rfl (by omega) d_lw_906 d_lw_907 ?_
  refine lv_i2l (v := (xs (i + 4)).toInt64) hx hb d_lw_908 rfl ?_
  refine lv_ldc2 hx hb hown (ht _ xw1287) d_lw_909 ?_
  refine lv_land hx hb d_lw_912 ?_
  refine lv_lor hx hb d_lw_913 ?_
  refine lv_aload_n hx hb d_lw_914 rfl (lv_at hl 0 rfl) ?_
  refine lv_iload hx hb d_lw_915 (lv_at hl 4 rfl) ?_
  refine lv_iconst (v := 5) hx hb d_lw_917 (by decide) ?_
  refine lw_rd2 F hS (k := 5) rfl (by omega) d_lw_918 d_lw_919 ?_
  refine lv_i2l (v := (xs (i + 5)).toInt64) hx hb d_lw_920 rfl ?_
  refine lv_bipush (v := 32) hx hb d_lw_921 (by decide) ?_
  refine lv_lshl (v := (xb_lshl (xs (i + 5)).toInt64 (32 : Int32))) hx hb d_lw_923 rfl ?_
  refine lv_aload_n hx hb d_lw_924 rfl (lv_at hl 0 rfl) ?_
  refine lv_iload hx hb d_lw_925 (lv_at hl 4 rfl) ?_
  refine lv_bipush (v := 6) hx hb d_lw_927 (by decide) ?_
  refine lw_rd2 F hS (k := 6) rfl (by omega) d_lw_929 d_lw_930 ?_
  refine lv_i2l (v := (xs (i + 6)).toInt64) hx hb d_lw_931 rfl ?_
  refine lv_ldc2 hx hb hown (ht _ xw1287) d_lw_932 ?_
  refine lv_land hx hb d_lw_935 ?_
  refine lv_lor hx hb d_lw_936 ?_
  refine lm_i F hP hM hS (As := [.int (xs (i + 1)), .int (xs (i + 2)), .long ((xb_lshl (xs (i + 3)).toInt64 (32 : Int32)) ||| ((xs (i + 4)).toInt64 &&& (4294967295 : Int64))), .long ((xb_lshl (xs (i + 5)).toInt64 (32 : Int32)) ||| ((xs (i + 6)).toInt64 &&& (4294967295 : Int64)))]) (rest := [.int (p_insert 0 (xs (i + 1)) (xs (i + 2)) ((xb_lshl (xs (i + 3)).toInt64 (32 : Int32)) ||| ((xs (i + 4)).toInt64 &&& (4294967295 : Int64))) ((xb_lshl (xs (i + 5)).toInt64 (32 : Int32)) ||| ((xs (i + 6)).toInt64 &&& (4294967295 : Int64))) σ).1]) (c_M_insert l D μ ν hμ τ (xs (i + 1)) (xs (i + 2)) ((xb_lshl (xs (i + 3)).toInt64 (32 : Int32)) ||| ((xs (i + 4)).toInt64 &&& (4294967295 : Int64))) ((xb_lshl (xs (i + 5)).toInt64 (32 : Int32)) ||| ((xs (i + 6)).toInt64 &&& (4294967295 : Int64))) om) (cwV 4 hts (xa_V xw1251 xw1252 xw1253 xw11 xw1254) rfl rfl rfl (by decide +kernel) ⟨Nat.le_of_ble_eq_true rfl, Nat.le_of_ble_eq_true rfl⟩) rfl hl.1 rfl (Nat.le_of_ble_eq_true rfl) d_lw_937 (by omega) (by omega) (fun H locs hP hM hS => ?_)
  have K := K_insert (Z := 0) hR (xs (i + 1)) (xs (i + 2)) ((xb_lshl (xs (i + 3)).toInt64 (32 : Int32)) ||| ((xs (i + 4)).toInt64 &&& (4294967295 : Int64))) ((xb_lshl (xs (i + 5)).toInt64 (32 : Int32)) ||| ((xs (i + 6)).toInt64 &&& (4294967295 : Int64)))
  refine lv_icmp_eq (tgt := 1196) hx hb d_lw_940 (by decide) (fun _ => ?_) (fun z => absurd K.1 z)
  refine W.widen (k := cells + 1) (n := slots + 6) (by omega) (by omega) ?_
  exact kk _ _ _ _ _ _ ⟨hP, hM, K.2, hS⟩ hl
set_option maxHeartbeats 4000000 in
set_option maxRecDepth 100000 in
theorem lw_k15 (F : lw_F p l s m c b L xs D α κ μ ν oa ko) (I : lw_I D α κ μ ν oa ko s H locs σ τ g) (hl : lv_has ls 7 (lw_ls b α μ oa i)) (hi : i + 7 ≤ L) (hcl : cells + 1 ≤ 601024) (hsl : slots + 6 ≤ 7293034)
    (kk : ∀ (H : Heap) (locs : List Loc) (σ τ : xb_St) (g : Nat → Int64) (ls : Array Slot), lw_I D α κ μ ν oa ko s H locs σ τ g → lv_has ls 7 (lw_ls b α μ oa i) → W p l e room_1 s m #[Value.ref b] below meth c H locs (cells + 1) (slots + 6) Q (F0 m 1196 ls [])) : W p l e room_1 s m #[Value.ref b] below meth c H locs cells slots Q (F0 m 945 ls []) := by
  obtain ⟨⟨hx, hb, hml, hown, ht, htr⟩, ⟨hX, hbl, hL⟩, ⟨hα, hμ, hA1, hA2, hA3, ho, ho2, hd1⟩, hK, hKm, hN, hG, hC⟩ := id F
  obtain ⟨hP, hM, hR, hS⟩ := I
  have ok := Rel_sp hR
  have om := Rel_sm hR
  have hts := lw_hts ht
  refine lv_aload_n hx hb d_lw_945 rfl (lv_at hl 1 rfl) ?_
  refine lv_aload_n hx hb d_lw_946 rfl (lv_at hl 0 rfl) ?_
  refine lv_iload hx hb d_lw_947 (lv_at hl 4 rfl) ?_
  refine lv_iconst (v := 1) hx hb d_lw_949 (by decide) ?_
  refine lw_rd2 F hS (k := 1) rfl (by omega) d_lw_950 d_lw_951 ?_
  refine lv_aload_n hx hb d_lw_952 rfl (lv_at hl 0 rfl) ?_
  refine lv_iload hx hb d_lw_953 (lv_at hl 4 rfl) ?_
  refine lv_iconst (v := 2) hx hb d_lw_955 (by decide) ?_
  refine lw_rd2 F hS (k := 2) rfl (by omega) d_lw_956 d_lw_957 ?_
  refine lv_aload_n hx hb d_lw_958 rfl (lv_at hl 0 rfl) ?_
  refine lv_iload hx hb d_lw_959 (lv_at hl 4 rfl) ?_
  refine lv_iconst (v := 3) hx hb d_lw_961 (by decide) ?_
  refine lw_rd2 F hS (k := 3) rfl (by omega) d_lw_962 d_lw_963 ?_
  refine lp_i F hP hM hS (As := [.int (xs (i + 1)), .int (xs (i + 2)), .int (xs (i + 3))]) (rest := []) (c_P_alter l D α κ hα σ 0 (xs (i + 1)) (xs (i + 2)) (xs (i + 3)) rfl) (cwV 3 hts (xa_V xw452 xw453 xw454 xw1 xw455) rfl rfl rfl (by decide +kernel) ⟨Nat.le_of_ble_eq_true rfl, Nat.le_of_ble_eq_true rfl⟩) rfl hl.1 rfl (Nat.le_of_ble_eq_true rfl) d_lw_964 (by omega) (by omega) (fun H locs hP hM hS => ?_)
  refine lv_aload_n hx hb d_lw_967 rfl (lv_at hl 2 rfl) ?_
  refine lv_aload_n hx hb d_lw_968 rfl (lv_at hl 0 rfl) ?_
  refine lv_iload hx hb d_lw_969 (lv_at hl 4 rfl) ?_
  refine lv_iconst (v := 1) hx hb d_lw_971 (by decide) ?_
  refine lw_rd2 F hS (k := 1) rfl (by omega) d_lw_972 d_lw_973 ?_
  refine lv_aload_n hx hb d_lw_974 rfl (lv_at hl 0 rfl) ?_
  refine lv_iload hx hb d_lw_975 (lv_at hl 4 rfl) ?_
  refine lv_iconst (v := 2) hx hb d_lw_977 (by decide) ?_
  refine lw_rd2 F hS (k := 2) rfl (by omega) d_lw_978 d_lw_979 ?_
  refine lv_aload_n hx hb d_lw_980 rfl (lv_at hl 0 rfl) ?_
  refine lv_iload hx hb d_lw_981 (lv_at hl 4 rfl) ?_
  refine lv_iconst (v := 3) hx hb d_lw_983 (by decide) ?_
  refine lw_rd2 F hS (k := 3) rfl (by omega) d_lw_984 d_lw_985 ?_
  refine lm_i F hP hM hS (As := [.int (xs (i + 1)), .int (xs (i + 2)), .int (xs (i + 3))]) (rest := [.int (p_alter 0 (xs (i + 1)) (xs (i + 2)) (xs (i + 3)) σ).1]) (c_M_alter l D μ ν hμ τ (xs (i + 1)) (xs (i + 2)) (xs (i + 3))) (cwV 3 hts (xa_V xw1255 xw1256 xw1257 xw11 xw1258) rfl rfl rfl (by decide +kernel) ⟨Nat.le_of_ble_eq_true rfl, Nat.le_of_ble_eq_true rfl⟩) rfl hl.1 rfl (Nat.le_of_ble_eq_true rfl) d_lw_986 (by omega) (by omega) (fun H locs hP hM hS => ?_)
  have K := K_alter (Z := 0) hR (xs (i + 1)) (xs (i + 2)) (xs (i + 3))
  refine lv_icmp_eq (tgt := 1196) hx hb d_lw_989 (by decide) (fun _ => ?_) (fun z => absurd K.1 z)
  refine W.widen (k := cells + 1) (n := slots + 6) (by omega) (by omega) ?_
  exact kk _ _ _ _ _ _ ⟨hP, hM, K.2, hS⟩ hl
end LWC
