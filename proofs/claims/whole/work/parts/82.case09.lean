theorem xw866 : (Cond.methodLink "SecurePairLaw" (79 : Nat) ({ cls := "SecurePairLaw", name := "write", desc := "(LSecurePair;IIJI[J)I" } : MethodName)) ∈ xa := xa_t 866 (by decide +kernel) (by decide +kernel)
theorem xw867 : (Cond.static ({ cls := "SecurePairLaw", name := "write", desc := "(LSecurePair;IIJI[J)I" } : MethodName)) ∈ xa := xa_t 867 (by decide +kernel) (by decide +kernel)
theorem xw868 : (Cond.codeWith ({ cls := "SecurePairLaw", name := "write", desc := "(LSecurePair;IIJI[J)I" } : MethodName) method_6_code (8 : Nat) (Option.some ClassFile.FieldType.int) [((0 : Nat), (14 : Nat), (17 : Nat), (13 : Nat)), ((0 : Nat), (14 : Nat), (21 : Nat), (15 : Nat)), ((0 : Nat), (14 : Nat), (25 : Nat), (29 : Nat))]) ∈ xa := xa_t 868 (by decide +kernel) (by decide +kernel)
theorem xw913 : (Cond.methodLink "SecurePairLaw" (83 : Nat) ({ cls := "SecurePairLaw", name := "read", desc := "(LSecurePair;II[J)I" } : MethodName)) ∈ xa := xa_t 913 (by decide +kernel) (by decide +kernel)
theorem xw914 : (Cond.static ({ cls := "SecurePairLaw", name := "read", desc := "(LSecurePair;II[J)I" } : MethodName)) ∈ xa := xa_t 914 (by decide +kernel) (by decide +kernel)
theorem xw915 : (Cond.codeWith ({ cls := "SecurePairLaw", name := "read", desc := "(LSecurePair;II[J)I" } : MethodName) method_7_code (5 : Nat) (Option.some ClassFile.FieldType.int) [((0 : Nat), (10 : Nat), (13 : Nat), (13 : Nat))]) ∈ xa := xa_t 915 (by decide +kernel) (by decide +kernel)
theorem xw931 : (Cond.methodLink "SecurePairLaw" (87 : Nat) ({ cls := "SecurePairLaw", name := "close", desc := "(LSecurePair;II[J)I" } : MethodName)) ∈ xa := xa_t 931 (by decide +kernel) (by decide +kernel)
theorem xw932 : (Cond.static ({ cls := "SecurePairLaw", name := "close", desc := "(LSecurePair;II[J)I" } : MethodName)) ∈ xa := xa_t 932 (by decide +kernel) (by decide +kernel)
theorem xw933 : (Cond.codeWith ({ cls := "SecurePairLaw", name := "close", desc := "(LSecurePair;II[J)I" } : MethodName) method_8_code (5 : Nat) (Option.some ClassFile.FieldType.int) [((0 : Nat), (10 : Nat), (13 : Nat), (13 : Nat)), ((0 : Nat), (10 : Nat), (17 : Nat), (15 : Nat))]) ∈ xa := xa_t 933 (by decide +kernel) (by decide +kernel)
theorem xw1199 : (Cond.methodLink "SecurePairLaw" (82 : Nat) ({ cls := "SecurePairModel", name := "write", desc := "(IIJI)I" } : MethodName)) ∈ xa := xa_t 1199 (by decide +kernel) (by decide +kernel)
theorem xw1200 : (Cond.instanceMethod ({ cls := "SecurePairModel", name := "write", desc := "(IIJI)I" } : MethodName)) ∈ xa := xa_t 1200 (by decide +kernel) (by decide +kernel)
theorem xw1201 : (Cond.selects "SecurePairModel" ({ cls := "SecurePairModel", name := "write", desc := "(IIJI)I" } : MethodName) ({ cls := "SecurePairModel", name := "write", desc := "(IIJI)I" } : MethodName)) ∈ xa := xa_t 1201 (by decide +kernel) (by decide +kernel)
theorem xw1202 : (Cond.code ({ cls := "SecurePairModel", name := "write", desc := "(IIJI)I" } : MethodName) prog_12_method_35_code (10 : Nat) (Option.some ClassFile.FieldType.int)) ∈ xa := xa_t 1202 (by decide +kernel) (by decide +kernel)
theorem xw1206 : (Cond.methodLink "SecurePairLaw" (86 : Nat) ({ cls := "SecurePairModel", name := "read", desc := "(II)I" } : MethodName)) ∈ xa := xa_t 1206 (by decide +kernel) (by decide +kernel)
theorem xw1207 : (Cond.instanceMethod ({ cls := "SecurePairModel", name := "read", desc := "(II)I" } : MethodName)) ∈ xa := xa_t 1207 (by decide +kernel) (by decide +kernel)
theorem xw1208 : (Cond.selects "SecurePairModel" ({ cls := "SecurePairModel", name := "read", desc := "(II)I" } : MethodName) ({ cls := "SecurePairModel", name := "read", desc := "(II)I" } : MethodName)) ∈ xa := xa_t 1208 (by decide +kernel) (by decide +kernel)
theorem xw1209 : (Cond.code ({ cls := "SecurePairModel", name := "read", desc := "(II)I" } : MethodName) prog_12_method_36_code (6 : Nat) (Option.some ClassFile.FieldType.int)) ∈ xa := xa_t 1209 (by decide +kernel) (by decide +kernel)
theorem xw1210 : (Cond.methodLink "SecurePairLaw" (89 : Nat) ({ cls := "SecurePairModel", name := "close", desc := "(II)I" } : MethodName)) ∈ xa := xa_t 1210 (by decide +kernel) (by decide +kernel)
theorem xw1211 : (Cond.instanceMethod ({ cls := "SecurePairModel", name := "close", desc := "(II)I" } : MethodName)) ∈ xa := xa_t 1211 (by decide +kernel) (by decide +kernel)
theorem xw1212 : (Cond.selects "SecurePairModel" ({ cls := "SecurePairModel", name := "close", desc := "(II)I" } : MethodName) ({ cls := "SecurePairModel", name := "close", desc := "(II)I" } : MethodName)) ∈ xa := xa_t 1212 (by decide +kernel) (by decide +kernel)
theorem xw1213 : (Cond.code ({ cls := "SecurePairModel", name := "close", desc := "(II)I" } : MethodName) prog_12_method_37_code (5 : Nat) (Option.some ClassFile.FieldType.int)) ∈ xa := xa_t 1213 (by decide +kernel) (by decide +kernel)
theorem xw1287 : (Cond.constantLong "SecurePairLaw" (77 : Nat) (4294967295 : Int64)) ∈ xa := xa_t 1287 (by decide +kernel) (by decide +kernel)
section LWC
variable {p : Program} {l : Launch} {e : Env} {s : State} {m : MethodId} {below : List Frame} {meth : Method} {c : Code} {H : Heap} {locs : List Loc} {cells slots : Nat} {Q : State → Prop}
variable {pc : Nat} {ls : Array Slot} {rest st0 : List Value} {b L : Nat} {xs : Nat → Int32} {D : va_G} {α : Nat → Nat} {κ : Nat → ClassId} {μ : Nat → Nat} {ν : Nat → ClassId} {oa : Nat} {ko : ClassId} {σ τ : xb_St} {g : Nat → Int64} {i : Nat}
set_option maxHeartbeats 4000000 in
set_option maxRecDepth 100000 in
theorem lw_k7 (F : lw_F p l s m c b L xs D α κ μ ν oa ko) (I : lw_I D α κ μ ν oa ko s H locs σ τ g) (hl : lv_has ls 7 (lw_ls b α μ oa i)) (hi : i + 7 ≤ L) (hcl : cells + 1 ≤ 601024) (hsl : slots + 6 ≤ 7293034)
    (kk : ∀ (H : Heap) (locs : List Loc) (σ τ : xb_St) (g : Nat → Int64) (ls : Array Slot), lw_I D α κ μ ν oa ko s H locs σ τ g → lv_has ls 7 (lw_ls b α μ oa i) → W p l e room_1 s m #[Value.ref b] below meth c H locs (cells + 1) (slots + 6) Q (F0 m 1196 ls [])) : W p l e room_1 s m #[Value.ref b] below meth c H locs cells slots Q (F0 m 446 ls []) := by
  obtain ⟨⟨hx, hb, hml, hown, ht, htr⟩, ⟨hX, hbl, hL⟩, ⟨hα, hμ, hA1, hA2, hA3, ho, ho2, hd1⟩, hK, hKm, hN, hG, hC⟩ := id F
  obtain ⟨hP, hM, hR, hS⟩ := I
  have ok := Rel_sp hR
  have om := Rel_sm hR
  have hts := lw_hts ht
  refine lv_aload_n hx hb d_lw_446 rfl (lv_at hl 1 rfl) ?_
  refine lv_aload_n hx hb d_lw_447 rfl (lv_at hl 0 rfl) ?_
  refine lv_iload hx hb d_lw_448 (lv_at hl 4 rfl) ?_
  refine lv_iconst (v := 1) hx hb d_lw_450 (by decide) ?_
  refine lw_rd2 F hS (k := 1) rfl (by omega) d_lw_451 d_lw_452 ?_
  refine lv_aload_n hx hb d_lw_453 rfl (lv_at hl 0 rfl) ?_
  refine lv_iload hx hb d_lw_454 (lv_at hl 4 rfl) ?_
  refine lv_iconst (v := 2) hx hb d_lw_456 (by decide) ?_
  refine lw_rd2 F hS (k := 2) rfl (by omega) d_lw_457 d_lw_458 ?_
  refine lv_aload_n hx hb d_lw_459 rfl (lv_at hl 0 rfl) ?_
  refine lv_iload hx hb d_lw_460 (lv_at hl 4 rfl) ?_
  refine lv_iconst (v := 3) hx hb d_lw_462 (by decide) ?_
  refine lw_rd2 F hS (k := 3) rfl (by omega) d_lw_463 d_lw_464 ?_
  refine lv_i2l (v := (xs (i + 3)).toInt64) hx hb d_lw_465 rfl ?_
  refine lv_bipush (v := 32) hx hb d_lw_466 (by decide) ?_
  refine lv_lshl (v := (xb_lshl (xs (i + 3)).toInt64 (32 : Int32))) hx hb d_lw_468 rfl ?_
  refine lv_aload_n hx hb d_lw_469 rfl (lv_at hl 0 rfl) ?_
  refine lv_iload hx hb d_lw_470 (lv_at hl 4 rfl) ?_
  refine lv_iconst (v := 4) hx hb d_lw_472 (by decide) ?_
  refine lw_rd2 F hS (k := 4) rfl (by omega) d_lw_473 d_lw_474 ?_
  refine lv_i2l (v := (xs (i + 4)).toInt64) hx hb d_lw_475 rfl ?_
  refine lv_ldc2 hx hb hown (ht _ xw1287) d_lw_476 ?_
  refine lv_land hx hb d_lw_479 ?_
  refine lv_lor hx hb d_lw_480 ?_
  refine lv_aload_n hx hb d_lw_481 rfl (lv_at hl 0 rfl) ?_
  refine lv_iload hx hb d_lw_482 (lv_at hl 4 rfl) ?_
  refine lv_iconst (v := 5) hx hb d_lw_484 (by decide) ?_
  refine lw_rd2 F hS (k := 5) rfl (by omega) d_lw_485 d_lw_486 ?_
  refine lv_aload_n hx hb d_lw_487 rfl (lv_at hl 3 rfl) ?_
  refine lh_c F hP hM hS (n := 6) (As := [.ref (α 0), .int (xs (i + 1)), .int (xs (i + 2)), .long ((xb_lshl (xs (i + 3)).toInt64 (32 : Int32)) ||| ((xs (i + 4)).toInt64 &&& (4294967295 : Int64))), .int (xs (i + 5)), .ref oa]) (rest := []) (c_L_write l D α κ hα htr oa ko ho σ g (xs (i + 1)) (xs (i + 2)) ((xb_lshl (xs (i + 3)).toInt64 (32 : Int32)) ||| ((xs (i + 4)).toInt64 &&& (4294967295 : Int64))) (xs (i + 5)) ok) (by decide) (by decide) xw868 xw866 xw867 xw0 ⟨by decide, by decide⟩ (by decide +kernel) rfl hl.1 rfl (Nat.le_of_ble_eq_true rfl) d_lw_488 hcl hsl (fun H locs u g1 e0 e1 hP hM hS => ?_)
  refine lv_istore (lv' := [(5, .int (nI (th_P_write 0 (xs (i + 1)) (xs (i + 2)) ((xb_lshl (xs (i + 3)).toInt64 (32 : Int32)) ||| ((xs (i + 4)).toInt64 &&& (4294967295 : Int64))) (xs (i + 5)) σ))), (0, .ref b), (1, .ref (α 0)), (2, .ref (μ 0)), (3, .ref oa), (4, .int (nI i))]) hx hb d_lw_491 hl (by decide) rfl (fun ls hl => ?_)
  refine lv_aload_n hx hb d_lw_493 rfl (lv_at hl 3 rfl) ?_
  refine lv_aload_n hx hb d_lw_494 rfl (lv_at hl 1 rfl) ?_
  refine lv_iload hx hb d_lw_495 (lv_at hl 5 rfl) ?_
  refine lv_iconst (v := 1) hx hb d_lw_497 (by decide) ?_
  refine lw_rd2 F hS (k := 1) rfl (by omega) d_lw_498 d_lw_499 ?_
  refine lv_aload_n hx hb d_lw_500 rfl (lv_at hl 1 rfl) ?_
  refine lv_iload hx hb d_lw_501 (lv_at hl 5 rfl) ?_
  refine lv_iconst (v := 2) hx hb d_lw_503 (by decide) ?_
  refine lw_rd2 F hS (k := 2) rfl (by omega) d_lw_504 d_lw_505 ?_
  refine lv_aload_n hx hb d_lw_506 rfl (lv_at hl 1 rfl) ?_
  refine lv_iload hx hb d_lw_507 (lv_at hl 5 rfl) ?_
  refine lv_iconst (v := 3) hx hb d_lw_509 (by decide) ?_
  refine lw_rd2 F hS (k := 3) rfl (by omega) d_lw_510 d_lw_511 ?_
  refine lv_i2l (v := (xs (i + 3)).toInt64) hx hb d_lw_512 rfl ?_
  refine lv_bipush (v := 32) hx hb d_lw_513 (by decide) ?_
  refine lv_lshl (v := (xb_lshl (xs (i + 3)).toInt64 (32 : Int32))) hx hb d_lw_515 rfl ?_
  refine lv_aload_n hx hb d_lw_516 rfl (lv_at hl 1 rfl) ?_
  refine lv_iload hx hb d_lw_517 (lv_at hl 5 rfl) ?_
  refine lv_iconst (v := 4) hx hb d_lw_519 (by decide) ?_
  refine lw_rd2 F hS (k := 4) rfl (by omega) d_lw_520 d_lw_521 ?_
  refine lv_i2l (v := (xs (i + 4)).toInt64) hx hb d_lw_522 rfl ?_
  refine lv_ldc2 hx hb hown (ht _ xw1287) d_lw_523 ?_
  refine lv_land hx hb d_lw_526 ?_
  refine lv_lor hx hb d_lw_527 ?_
  refine lv_aload_n hx hb d_lw_528 rfl (lv_at hl 1 rfl) ?_
  refine lv_iload hx hb d_lw_529 (lv_at hl 5 rfl) ?_
  refine lv_iconst (v := 5) hx hb d_lw_531 (by decide) ?_
  refine lw_rd2 F hS (k := 5) rfl (by omega) d_lw_532 d_lw_533 ?_
  refine lm_i F hP hM hS (As := [.int (xs (i + 1)), .int (xs (i + 2)), .long ((xb_lshl (xs (i + 3)).toInt64 (32 : Int32)) ||| ((xs (i + 4)).toInt64 &&& (4294967295 : Int64))), .int (xs (i + 5))]) (rest := []) (c_M_write l D μ ν hμ τ (xs (i + 1)) (xs (i + 2)) ((xb_lshl (xs (i + 3)).toInt64 (32 : Int32)) ||| ((xs (i + 4)).toInt64 &&& (4294967295 : Int64))) (xs (i + 5)) om) (cwV 4 hts (xa_V xw1199 xw1200 xw1201 xw11 xw1202) rfl rfl rfl (by decide +kernel) ⟨Nat.le_of_ble_eq_true rfl, Nat.le_of_ble_eq_true rfl⟩) rfl hl.1 rfl (Nat.le_of_ble_eq_true rfl) d_lw_534 (by omega) (by omega) (fun H locs hP hM hS => ?_)
  refine lv_istore (lv' := [(6, .int (q_write (xs (i + 1)) (xs (i + 2)) ((xb_lshl (xs (i + 3)).toInt64 (32 : Int32)) ||| ((xs (i + 4)).toInt64 &&& (4294967295 : Int64))) (xs (i + 5)) τ).1), (5, .int (nI (th_P_write 0 (xs (i + 1)) (xs (i + 2)) ((xb_lshl (xs (i + 3)).toInt64 (32 : Int32)) ||| ((xs (i + 4)).toInt64 &&& (4294967295 : Int64))) (xs (i + 5)) σ))), (0, .ref b), (1, .ref (α 0)), (2, .ref (μ 0)), (3, .ref oa), (4, .int (nI i))]) hx hb d_lw_537 hl (by decide) rfl (fun ls hl => ?_)
  refine lv_aload_n hx hb d_lw_539 rfl (lv_at hl 4 rfl) ?_
  refine lm_i F hP hM hS (As := []) (rest := []) (c_M_thrown l D μ ν hμ (q_write (xs (i + 1)) (xs (i + 2)) ((xb_lshl (xs (i + 3)).toInt64 (32 : Int32)) ||| ((xs (i + 4)).toInt64 &&& (4294967295 : Int64))) (xs (i + 5)) τ).2) (cwV 0 hts (xa_V xw1065 xw1066 xw1067 xw11 xw1068) rfl rfl rfl (by decide +kernel) ⟨Nat.le_of_ble_eq_true rfl, Nat.le_of_ble_eq_true rfl⟩) rfl hl.1 rfl (Nat.le_of_ble_eq_true rfl) d_lw_540 (by omega) (by omega) (fun H locs hP hM hS => ?_)
  have K := K_write (Z := 0) hR (xs (i + 1)) (xs (i + 2)) ((xb_lshl (xs (i + 3)).toInt64 (32 : Int32)) ||| ((xs (i + 4)).toInt64 &&& (4294967295 : Int64))) (xs (i + 5))
  have hle := th_P_write_le 0 (xs (i + 1)) (xs (i + 2)) ((xb_lshl (xs (i + 3)).toInt64 (32 : Int32)) ||| ((xs (i + 4)).toInt64 &&& (4294967295 : Int64))) (xs (i + 5)) σ
  refine lv_iload hx hb d_lw_543 (lv_at hl 1 rfl) ?_
  refine lv_icmp_eq (tgt := 550) hx hb d_lw_545 (by decide) (fun _ => ?_) (fun z => absurd K.1 z)
  refine lv_iload hx hb d_lw_550 (lv_at hl 1 rfl) ?_
  by_cases h0 : (th_P_write 0 (xs (i + 1)) (xs (i + 2)) ((xb_lshl (xs (i + 3)).toInt64 (32 : Int32)) ||| ((xs (i + 4)).toInt64 &&& (4294967295 : Int64))) (xs (i + 5)) σ) = 0
  · skip
    obtain ⟨rfl, hg0⟩ := e0 h0
    obtain ⟨hr, hR1⟩ := K.2.1 h0
    refine lv_if_ne (tgt := 567) hx hb d_lw_552 (by decide) (fun z => absurd (show nI (th_P_write 0 (xs (i + 1)) (xs (i + 2)) ((xb_lshl (xs (i + 3)).toInt64 (32 : Int32)) ||| ((xs (i + 4)).toInt64 &&& (4294967295 : Int64))) (xs (i + 5)) σ) = 0 by rw [h0]; rfl) z) (fun _ => ?_)
    refine lv_aload_n hx hb d_lw_555 rfl (lv_at hl 5 rfl) ?_
    refine lv_iconst (v := 0) hx hb d_lw_556 (by decide) ?_
    refine va_lald hx hb hK hP 35 10 rfl rfl (i := 0) (xb_in (x := (0 : Int32)) (xb_lit 0 rfl) (by decide) (by decide)) d_lw_557 ?_
    refine lv_iload hx hb d_lw_558 (lv_at hl 0 rfl) ?_
    refine lv_i2l (v := (q_write (xs (i + 1)) (xs (i + 2)) ((xb_lshl (xs (i + 3)).toInt64 (32 : Int32)) ||| ((xs (i + 4)).toInt64 &&& (4294967295 : Int64))) (xs (i + 5)) τ).1.toInt64) hx hb d_lw_560 rfl ?_
    refine xb_leq (tgt := 567) hx hb d_lw_561 d_lw_562 (by decide) (fun _ => ?_) (fun z => absurd (show g1 (0 : Int32).toNatClampNeg = (q_write (xs (i + 1)) (xs (i + 2)) ((xb_lshl (xs (i + 3)).toInt64 (32 : Int32)) ||| ((xs (i + 4)).toInt64 &&& (4294967295 : Int64))) (xs (i + 5)) τ).1.toInt64 from (show g1 0 = _ from hg0).trans (congrArg _ hr)) z)
    refine lv_goto (tgt := 1196) hx hb d_lw_567 (by decide) ?_
    exact kk _ _ _ _ _ _ ⟨hP, hM, hR1, hS⟩ (lv_sub hl [2, 3, 4, 5, 6] rfl)
  · skip
    rw [e1 h0] at hP
    refine lv_if_ne (tgt := 567) hx hb d_lw_552 (by decide) (fun _ => ?_) (fun z => absurd ((nI_eq (b := 0) (by omega) (by decide)).mp z) h0)
    refine lv_goto (tgt := 1196) hx hb d_lw_567 (by decide) ?_
    exact kk _ _ _ _ _ _ ⟨hP, hM, K.2.2 h0, hS⟩ (lv_sub hl [2, 3, 4, 5, 6] rfl)
set_option maxHeartbeats 4000000 in
set_option maxRecDepth 100000 in
theorem lw_k8 (F : lw_F p l s m c b L xs D α κ μ ν oa ko) (I : lw_I D α κ μ ν oa ko s H locs σ τ g) (hl : lv_has ls 7 (lw_ls b α μ oa i)) (hi : i + 7 ≤ L) (hcl : cells + 1 ≤ 601024) (hsl : slots + 6 ≤ 7293034)
    (kk : ∀ (H : Heap) (locs : List Loc) (σ τ : xb_St) (g : Nat → Int64) (ls : Array Slot), lw_I D α κ μ ν oa ko s H locs σ τ g → lv_has ls 7 (lw_ls b α μ oa i) → W p l e room_1 s m #[Value.ref b] below meth c H locs (cells + 1) (slots + 6) Q (F0 m 1196 ls [])) : W p l e room_1 s m #[Value.ref b] below meth c H locs cells slots Q (F0 m 570 ls []) := by
  obtain ⟨⟨hx, hb, hml, hown, ht, htr⟩, ⟨hX, hbl, hL⟩, ⟨hα, hμ, hA1, hA2, hA3, ho, ho2, hd1⟩, hK, hKm, hN, hG, hC⟩ := id F
  obtain ⟨hP, hM, hR, hS⟩ := I
  have ok := Rel_sp hR
  have om := Rel_sm hR
  have hts := lw_hts ht
  refine lv_aload_n hx hb d_lw_570 rfl (lv_at hl 1 rfl) ?_
  refine lv_aload_n hx hb d_lw_571 rfl (lv_at hl 0 rfl) ?_
  refine lv_iload hx hb d_lw_572 (lv_at hl 4 rfl) ?_
  refine lv_iconst (v := 1) hx hb d_lw_574 (by decide) ?_
  refine lw_rd2 F hS (k := 1) rfl (by omega) d_lw_575 d_lw_576 ?_
  refine lv_aload_n hx hb d_lw_577 rfl (lv_at hl 0 rfl) ?_
  refine lv_iload hx hb d_lw_578 (lv_at hl 4 rfl) ?_
  refine lv_iconst (v := 2) hx hb d_lw_580 (by decide) ?_
  refine lw_rd2 F hS (k := 2) rfl (by omega) d_lw_581 d_lw_582 ?_
  refine lv_aload_n hx hb d_lw_583 rfl (lv_at hl 3 rfl) ?_
  refine lh_c F hP hM hS (n := 4) (As := [.ref (α 0), .int (xs (i + 1)), .int (xs (i + 2)), .ref oa]) (rest := []) (c_L_read l D α κ hα htr oa ko ho σ g (xs (i + 1)) (xs (i + 2)) ok) (by decide) (by decide) xw915 xw913 xw914 xw0 ⟨by decide, by decide⟩ (by decide +kernel) rfl hl.1 rfl (Nat.le_of_ble_eq_true rfl) d_lw_584 hcl hsl (fun H locs u g1 e0 e1 hP hM hS => ?_)
  refine lv_istore (lv' := [(5, .int (nI (th_P_read 0 (xs (i + 1)) (xs (i + 2)) σ))), (0, .ref b), (1, .ref (α 0)), (2, .ref (μ 0)), (3, .ref oa), (4, .int (nI i))]) hx hb d_lw_587 hl (by decide) rfl (fun ls hl => ?_)
  refine lv_aload_n hx hb d_lw_589 rfl (lv_at hl 3 rfl) ?_
  refine lv_aload_n hx hb d_lw_590 rfl (lv_at hl 1 rfl) ?_
  refine lv_iload hx hb d_lw_591 (lv_at hl 5 rfl) ?_
  refine lv_iconst (v := 1) hx hb d_lw_593 (by decide) ?_
  refine lw_rd2 F hS (k := 1) rfl (by omega) d_lw_594 d_lw_595 ?_
  refine lv_aload_n hx hb d_lw_596 rfl (lv_at hl 1 rfl) ?_
  refine lv_iload hx hb d_lw_597 (lv_at hl 5 rfl) ?_
  refine lv_iconst (v := 2) hx hb d_lw_599 (by decide) ?_
  refine lw_rd2 F hS (k := 2) rfl (by omega) d_lw_600 d_lw_601 ?_
  refine lm_i F hP hM hS (As := [.int (xs (i + 1)), .int (xs (i + 2))]) (rest := []) (c_M_read l D μ ν hμ τ (xs (i + 1)) (xs (i + 2)) om) (cwV 2 hts (xa_V xw1206 xw1207 xw1208 xw11 xw1209) rfl rfl rfl (by decide +kernel) ⟨Nat.le_of_ble_eq_true rfl, Nat.le_of_ble_eq_true rfl⟩) rfl hl.1 rfl (Nat.le_of_ble_eq_true rfl) d_lw_602 (by omega) (by omega) (fun H locs hP hM hS => ?_)
  refine lv_istore (lv' := [(6, .int (q_read (xs (i + 1)) (xs (i + 2)) τ).1), (5, .int (nI (th_P_read 0 (xs (i + 1)) (xs (i + 2)) σ))), (0, .ref b), (1, .ref (α 0)), (2, .ref (μ 0)), (3, .ref oa), (4, .int (nI i))]) hx hb d_lw_605 hl (by decide) rfl (fun ls hl => ?_)
  refine lv_aload_n hx hb d_lw_607 rfl (lv_at hl 4 rfl) ?_
  refine lm_i F hP hM hS (As := []) (rest := []) (c_M_thrown l D μ ν hμ (q_read (xs (i + 1)) (xs (i + 2)) τ).2) (cwV 0 hts (xa_V xw1065 xw1066 xw1067 xw11 xw1068) rfl rfl rfl (by decide +kernel) ⟨Nat.le_of_ble_eq_true rfl, Nat.le_of_ble_eq_true rfl⟩) rfl hl.1 rfl (Nat.le_of_ble_eq_true rfl) d_lw_608 (by omega) (by omega) (fun H locs hP hM hS => ?_)
  have K := K_read (Z := 0) hR (xs (i + 1)) (xs (i + 2))
  have hle := th_P_read_le 0 (xs (i + 1)) (xs (i + 2)) σ
  refine lv_iload hx hb d_lw_611 (lv_at hl 1 rfl) ?_
  refine lv_icmp_eq (tgt := 618) hx hb d_lw_613 (by decide) (fun _ => ?_) (fun z => absurd K.1 z)
  refine lv_iload hx hb d_lw_618 (lv_at hl 1 rfl) ?_
  by_cases h0 : (th_P_read 0 (xs (i + 1)) (xs (i + 2)) σ) = 0
  · skip
    obtain ⟨rfl, hg0⟩ := e0 h0
    obtain ⟨hr, hR1⟩ := K.2.1 h0
    refine lv_if_ne (tgt := 635) hx hb d_lw_620 (by decide) (fun z => absurd (show nI (th_P_read 0 (xs (i + 1)) (xs (i + 2)) σ) = 0 by rw [h0]; rfl) z) (fun _ => ?_)
    refine lv_aload_n hx hb d_lw_623 rfl (lv_at hl 5 rfl) ?_
    refine lv_iconst (v := 0) hx hb d_lw_624 (by decide) ?_
    refine va_lald hx hb hK hP 35 10 rfl rfl (i := 0) (xb_in (x := (0 : Int32)) (xb_lit 0 rfl) (by decide) (by decide)) d_lw_625 ?_
    refine lv_iload hx hb d_lw_626 (lv_at hl 0 rfl) ?_
    refine lv_i2l (v := (q_read (xs (i + 1)) (xs (i + 2)) τ).1.toInt64) hx hb d_lw_628 rfl ?_
    refine xb_leq (tgt := 635) hx hb d_lw_629 d_lw_630 (by decide) (fun _ => ?_) (fun z => absurd (show g1 (0 : Int32).toNatClampNeg = (q_read (xs (i + 1)) (xs (i + 2)) τ).1.toInt64 from (show g1 0 = _ from hg0).trans (congrArg _ hr)) z)
    refine lv_goto (tgt := 1196) hx hb d_lw_635 (by decide) ?_
    exact kk _ _ _ _ _ _ ⟨hP, hM, hR1, hS⟩ (lv_sub hl [2, 3, 4, 5, 6] rfl)
  · skip
    rw [e1 h0] at hP
    refine lv_if_ne (tgt := 635) hx hb d_lw_620 (by decide) (fun _ => ?_) (fun z => absurd ((nI_eq (b := 0) (by omega) (by decide)).mp z) h0)
    refine lv_goto (tgt := 1196) hx hb d_lw_635 (by decide) ?_
    exact kk _ _ _ _ _ _ ⟨hP, hM, K.2.2 h0, hS⟩ (lv_sub hl [2, 3, 4, 5, 6] rfl)
set_option maxHeartbeats 4000000 in
set_option maxRecDepth 100000 in
theorem lw_k9 (F : lw_F p l s m c b L xs D α κ μ ν oa ko) (I : lw_I D α κ μ ν oa ko s H locs σ τ g) (hl : lv_has ls 7 (lw_ls b α μ oa i)) (hi : i + 7 ≤ L) (hcl : cells + 1 ≤ 601024) (hsl : slots + 6 ≤ 7293034)
    (kk : ∀ (H : Heap) (locs : List Loc) (σ τ : xb_St) (g : Nat → Int64) (ls : Array Slot), lw_I D α κ μ ν oa ko s H locs σ τ g → lv_has ls 7 (lw_ls b α μ oa i) → W p l e room_1 s m #[Value.ref b] below meth c H locs (cells + 1) (slots + 6) Q (F0 m 1196 ls [])) : W p l e room_1 s m #[Value.ref b] below meth c H locs cells slots Q (F0 m 638 ls []) := by
  obtain ⟨⟨hx, hb, hml, hown, ht, htr⟩, ⟨hX, hbl, hL⟩, ⟨hα, hμ, hA1, hA2, hA3, ho, ho2, hd1⟩, hK, hKm, hN, hG, hC⟩ := id F
  obtain ⟨hP, hM, hR, hS⟩ := I
  have ok := Rel_sp hR
  have om := Rel_sm hR
  have hts := lw_hts ht
  refine lv_aload_n hx hb d_lw_638 rfl (lv_at hl 1 rfl) ?_
  refine lv_aload_n hx hb d_lw_639 rfl (lv_at hl 0 rfl) ?_
  refine lv_iload hx hb d_lw_640 (lv_at hl 4 rfl) ?_
  refine lv_iconst (v := 1) hx hb d_lw_642 (by decide) ?_
  refine lw_rd2 F hS (k := 1) rfl (by omega) d_lw_643 d_lw_644 ?_
  refine lv_aload_n hx hb d_lw_645 rfl (lv_at hl 0 rfl) ?_
  refine lv_iload hx hb d_lw_646 (lv_at hl 4 rfl) ?_
  refine lv_iconst (v := 2) hx hb d_lw_648 (by decide) ?_
  refine lw_rd2 F hS (k := 2) rfl (by omega) d_lw_649 d_lw_650 ?_
  refine lv_aload_n hx hb d_lw_651 rfl (lv_at hl 3 rfl) ?_
  refine lh_c F hP hM hS (n := 4) (As := [.ref (α 0), .int (xs (i + 1)), .int (xs (i + 2)), .ref oa]) (rest := []) (c_L_close l D α κ hα htr oa ko ho σ g (xs (i + 1)) (xs (i + 2)) ok) (by decide) (by decide) xw933 xw931 xw932 xw0 ⟨by decide, by decide⟩ (by decide +kernel) rfl hl.1 rfl (Nat.le_of_ble_eq_true rfl) d_lw_652 hcl hsl (fun H locs u g1 e0 e1 hP hM hS => ?_)
  refine lv_istore (lv' := [(5, .int (nI (th_P_close 0 (xs (i + 1)) (xs (i + 2)) σ))), (0, .ref b), (1, .ref (α 0)), (2, .ref (μ 0)), (3, .ref oa), (4, .int (nI i))]) hx hb d_lw_655 hl (by decide) rfl (fun ls hl => ?_)
  refine lv_aload_n hx hb d_lw_657 rfl (lv_at hl 3 rfl) ?_
  refine lv_aload_n hx hb d_lw_658 rfl (lv_at hl 1 rfl) ?_
  refine lv_iload hx hb d_lw_659 (lv_at hl 5 rfl) ?_
  refine lv_iconst (v := 1) hx hb d_lw_661 (by decide) ?_
  refine lw_rd2 F hS (k := 1) rfl (by omega) d_lw_662 d_lw_663 ?_
  refine lv_aload_n hx hb d_lw_664 rfl (lv_at hl 1 rfl) ?_
  refine lv_iload hx hb d_lw_665 (lv_at hl 5 rfl) ?_
  refine lv_iconst (v := 2) hx hb d_lw_667 (by decide) ?_
  refine lw_rd2 F hS (k := 2) rfl (by omega) d_lw_668 d_lw_669 ?_
  refine lm_i F hP hM hS (As := [.int (xs (i + 1)), .int (xs (i + 2))]) (rest := []) (c_M_close l D μ ν hμ τ (xs (i + 1)) (xs (i + 2)) om) (cwV 2 hts (xa_V xw1210 xw1211 xw1212 xw11 xw1213) rfl rfl rfl (by decide +kernel) ⟨Nat.le_of_ble_eq_true rfl, Nat.le_of_ble_eq_true rfl⟩) rfl hl.1 rfl (Nat.le_of_ble_eq_true rfl) d_lw_670 (by omega) (by omega) (fun H locs hP hM hS => ?_)
  refine lv_istore (lv' := [(6, .int (q_close (xs (i + 1)) (xs (i + 2)) τ).1), (5, .int (nI (th_P_close 0 (xs (i + 1)) (xs (i + 2)) σ))), (0, .ref b), (1, .ref (α 0)), (2, .ref (μ 0)), (3, .ref oa), (4, .int (nI i))]) hx hb d_lw_673 hl (by decide) rfl (fun ls hl => ?_)
  refine lv_aload_n hx hb d_lw_675 rfl (lv_at hl 4 rfl) ?_
  refine lm_i F hP hM hS (As := []) (rest := []) (c_M_thrown l D μ ν hμ (q_close (xs (i + 1)) (xs (i + 2)) τ).2) (cwV 0 hts (xa_V xw1065 xw1066 xw1067 xw11 xw1068) rfl rfl rfl (by decide +kernel) ⟨Nat.le_of_ble_eq_true rfl, Nat.le_of_ble_eq_true rfl⟩) rfl hl.1 rfl (Nat.le_of_ble_eq_true rfl) d_lw_676 (by omega) (by omega) (fun H locs hP hM hS => ?_)
  have K := K_close (Z := 0) hR (xs (i + 1)) (xs (i + 2))
  have hle := th_P_close_le 0 (xs (i + 1)) (xs (i + 2)) σ
  refine lv_iload hx hb d_lw_679 (lv_at hl 1 rfl) ?_
  refine lv_icmp_eq (tgt := 686) hx hb d_lw_681 (by decide) (fun _ => ?_) (fun z => absurd K.1 z)
  refine lv_iload hx hb d_lw_686 (lv_at hl 1 rfl) ?_
  by_cases h0 : (th_P_close 0 (xs (i + 1)) (xs (i + 2)) σ) = 0
  · skip
    obtain ⟨rfl, hg0⟩ := e0 h0
    obtain ⟨hr, hR1⟩ := K.2.1 h0
    refine lv_if_ne (tgt := 703) hx hb d_lw_688 (by decide) (fun z => absurd (show nI (th_P_close 0 (xs (i + 1)) (xs (i + 2)) σ) = 0 by rw [h0]; rfl) z) (fun _ => ?_)
    refine lv_aload_n hx hb d_lw_691 rfl (lv_at hl 5 rfl) ?_
    refine lv_iconst (v := 0) hx hb d_lw_692 (by decide) ?_
    refine va_lald hx hb hK hP 35 10 rfl rfl (i := 0) (xb_in (x := (0 : Int32)) (xb_lit 0 rfl) (by decide) (by decide)) d_lw_693 ?_
    refine lv_iload hx hb d_lw_694 (lv_at hl 0 rfl) ?_
    refine lv_i2l (v := (q_close (xs (i + 1)) (xs (i + 2)) τ).1.toInt64) hx hb d_lw_696 rfl ?_
    refine xb_leq (tgt := 703) hx hb d_lw_697 d_lw_698 (by decide) (fun _ => ?_) (fun z => absurd (show g1 (0 : Int32).toNatClampNeg = (q_close (xs (i + 1)) (xs (i + 2)) τ).1.toInt64 from (show g1 0 = _ from hg0).trans (congrArg _ hr)) z)
    refine lv_goto (tgt := 1196) hx hb d_lw_703 (by decide) ?_
    exact kk _ _ _ _ _ _ ⟨hP, hM, hR1, hS⟩ (lv_sub hl [2, 3, 4, 5, 6] rfl)
  · skip
    rw [e1 h0] at hP
    refine lv_if_ne (tgt := 703) hx hb d_lw_688 (by decide) (fun _ => ?_) (fun z => absurd ((nI_eq (b := 0) (by omega) (by decide)).mp z) h0)
    refine lv_goto (tgt := 1196) hx hb d_lw_703 (by decide) ?_
    exact kk _ _ _ _ _ _ ⟨hP, hM, K.2.2 h0, hS⟩ (lv_sub hl [2, 3, 4, 5, 6] rfl)
end LWC
