abbrev b_P_mix : ByteArray := prog_1_method_36_code
def y_P_mix : MethodName := ⟨"SecurePair", "mix", "(JJ)J"⟩
abbrev w_P_mix : List Cond := .code y_P_mix b_P_mix 6 (some .long) :: xa
theorem d_P_mix_0 : decode b_P_mix 0 = .ok (.lload_n 0, 1) := by decide +kernel
theorem d_P_mix_1 : decode b_P_mix 1 = .ok (.ldc2_w 235, 3) := by decide +kernel
theorem d_P_mix_4 : decode b_P_mix 4 = .ok (.ladd, 1) := by decide +kernel
theorem d_P_mix_5 : decode b_P_mix 5 = .ok (.ldc2_w 237, 3) := by decide +kernel
theorem d_P_mix_8 : decode b_P_mix 8 = .ok (.lmul, 1) := by decide +kernel
theorem d_P_mix_9 : decode b_P_mix 9 = .ok (.lload_n 2, 1) := by decide +kernel
theorem d_P_mix_10 : decode b_P_mix 10 = .ok (.lxor, 1) := by decide +kernel
theorem d_P_mix_11 : decode b_P_mix 11 = .ok (.lstore 4, 2) := by decide +kernel
theorem d_P_mix_13 : decode b_P_mix 13 = .ok (.lload 4, 2) := by decide +kernel
theorem d_P_mix_15 : decode b_P_mix 15 = .ok (.lload 4, 2) := by decide +kernel
theorem d_P_mix_17 : decode b_P_mix 17 = .ok (.bipush 30, 2) := by decide +kernel
theorem d_P_mix_19 : decode b_P_mix 19 = .ok (.lushr, 1) := by decide +kernel
theorem d_P_mix_20 : decode b_P_mix 20 = .ok (.lxor, 1) := by decide +kernel
theorem d_P_mix_21 : decode b_P_mix 21 = .ok (.lstore 4, 2) := by decide +kernel
theorem d_P_mix_23 : decode b_P_mix 23 = .ok (.lload 4, 2) := by decide +kernel
theorem d_P_mix_25 : decode b_P_mix 25 = .ok (.ldc2_w 239, 3) := by decide +kernel
theorem d_P_mix_28 : decode b_P_mix 28 = .ok (.lmul, 1) := by decide +kernel
theorem d_P_mix_29 : decode b_P_mix 29 = .ok (.lstore 4, 2) := by decide +kernel
theorem d_P_mix_31 : decode b_P_mix 31 = .ok (.lload 4, 2) := by decide +kernel
theorem d_P_mix_33 : decode b_P_mix 33 = .ok (.lload 4, 2) := by decide +kernel
theorem d_P_mix_35 : decode b_P_mix 35 = .ok (.bipush 28, 2) := by decide +kernel
theorem d_P_mix_37 : decode b_P_mix 37 = .ok (.lushr, 1) := by decide +kernel
theorem d_P_mix_38 : decode b_P_mix 38 = .ok (.lxor, 1) := by decide +kernel
theorem d_P_mix_39 : decode b_P_mix 39 = .ok (.lstore 4, 2) := by decide +kernel
theorem d_P_mix_41 : decode b_P_mix 41 = .ok (.lload 4, 2) := by decide +kernel
theorem d_P_mix_43 : decode b_P_mix 43 = .ok (.lreturn, 1) := by decide +kernel
theorem xw392 : (Cond.constantLong "SecurePair" (235 : Nat) (8191 : Int64)) ∈ xa := xa_t 392 (by decide +kernel) (by decide +kernel)
theorem xw393 : (Cond.constantLong "SecurePair" (237 : Nat) (6700417 : Int64)) ∈ xa := xa_t 393 (by decide +kernel) (by decide +kernel)
theorem xw394 : (Cond.constantLong "SecurePair" (239 : Nat) (-4417276706812531889 : Int64)) ∈ xa := xa_t 394 (by decide +kernel) (by decide +kernel)
def f_mix (x0 : Int64) (x1 : Int64) : Int64 := ((((((x0 + (8191 : Int64)) * (6700417 : Int64)) ^^^ x1) ^^^ (xb_lushr (((x0 + (8191 : Int64)) * (6700417 : Int64)) ^^^ x1) (30 : Int32))) * (-4417276706812531889 : Int64)) ^^^ (xb_lushr (((((x0 + (8191 : Int64)) * (6700417 : Int64)) ^^^ x1) ^^^ (xb_lushr (((x0 + (8191 : Int64)) * (6700417 : Int64)) ^^^ x1) (30 : Int32))) * (-4417276706812531889 : Int64)) (28 : Int32)))
set_option maxHeartbeats 4000000 in
set_option maxRecDepth 100000 in
theorem c_P_mix (l : Launch) (x0 : Int64) (x1 : Int64) : Met l y_P_mix w_P_mix ({ frames := 0, cells := 0, slots := 0, locals := 0 }) (fun av_ _ => av_ = ([.long x0, .long x1] : List Value).toArray) (vp_Sl (fun r => r = f_mix x0 x1)) 0 0 (fun _ => False) := by
  refine Met.ofW (cc := b_P_mix) (maxL := 6) (ret := (some .long)) (by decide) rfl ?_
  intro p e s m args below meth c s₁ B hml hv
  subst hv
  have hx := B.exec
  have hb := B.bytes
  have hr := B.returns
  have hts := atoms_spec (ws := w_P_mix) B.pre
  have ht : ∀ w ∈ xa, w.before _ s = true := fun w h => hts w (List.mem_cons_of_mem _ h)
  have hown : s.vm.findClass "SecurePair" = some m.cls := findClass_of_methodNamed B.named
  have hlocks := B.notSynchronized
  have hl := lv_entry ([.long x0, .long x1]) (n := 6) (Nat.le_of_ble_eq_true rfl)
  rw [lg_entry_eq]
  generalize (lg_sl ([.long x0, .long x1]) ++ List.replicate (6 - (lg_sl ([.long x0, .long x1])).length) Slot.unset).toArray = ls at hl ⊢
  have hl : lv_has ls 6 [(0, .long x0), (2, .long x1)] := hl
  refine lv_lload_n hx hb d_P_mix_0 rfl (lv_at hl 0 rfl) ?_
  refine lv_ldc2 hx hb hown (ht _ xw392) d_P_mix_1 ?_
  refine lv_ladd hx hb d_P_mix_4 ?_
  refine lv_ldc2 hx hb hown (ht _ xw393) d_P_mix_5 ?_
  refine lv_lmul hx hb d_P_mix_8 ?_
  refine lv_lload_n hx hb d_P_mix_9 rfl (lv_at hl 1 rfl) ?_
  refine lv_lxor hx hb d_P_mix_10 ?_
  refine lv_lstore (lv' := [(4, .long (((x0 + (8191 : Int64)) * (6700417 : Int64)) ^^^ x1)), (0, .long x0), (2, .long x1)]) hx hb d_P_mix_11 hl (by decide) rfl (fun ls hl => ?_)
  refine lv_lload hx hb d_P_mix_13 (lv_at hl 0 rfl) ?_
  refine lv_lload hx hb d_P_mix_15 (lv_at hl 0 rfl) ?_
  refine lv_bipush (v := 30) hx hb d_P_mix_17 (by decide) ?_
  refine lv_lushr (v := (xb_lushr (((x0 + (8191 : Int64)) * (6700417 : Int64)) ^^^ x1) (30 : Int32))) hx hb d_P_mix_19 rfl ?_
  refine lv_lxor hx hb d_P_mix_20 ?_
  refine lv_lstore (lv' := [(4, .long ((((x0 + (8191 : Int64)) * (6700417 : Int64)) ^^^ x1) ^^^ (xb_lushr (((x0 + (8191 : Int64)) * (6700417 : Int64)) ^^^ x1) (30 : Int32)))), (0, .long x0), (2, .long x1)]) hx hb d_P_mix_21 hl (by decide) rfl (fun ls hl => ?_)
  refine lv_lload hx hb d_P_mix_23 (lv_at hl 0 rfl) ?_
  refine lv_ldc2 hx hb hown (ht _ xw394) d_P_mix_25 ?_
  refine lv_lmul hx hb d_P_mix_28 ?_
  refine lv_lstore (lv' := [(4, .long (((((x0 + (8191 : Int64)) * (6700417 : Int64)) ^^^ x1) ^^^ (xb_lushr (((x0 + (8191 : Int64)) * (6700417 : Int64)) ^^^ x1) (30 : Int32))) * (-4417276706812531889 : Int64))), (0, .long x0), (2, .long x1)]) hx hb d_P_mix_29 hl (by decide) rfl (fun ls hl => ?_)
  refine lv_lload hx hb d_P_mix_31 (lv_at hl 0 rfl) ?_
  refine lv_lload hx hb d_P_mix_33 (lv_at hl 0 rfl) ?_
  refine lv_bipush (v := 28) hx hb d_P_mix_35 (by decide) ?_
  refine lv_lushr (v := (xb_lushr (((((x0 + (8191 : Int64)) * (6700417 : Int64)) ^^^ x1) ^^^ (xb_lushr (((x0 + (8191 : Int64)) * (6700417 : Int64)) ^^^ x1) (30 : Int32))) * (-4417276706812531889 : Int64)) (28 : Int32))) hx hb d_P_mix_37 rfl ?_
  refine lv_lxor hx hb d_P_mix_38 ?_
  refine lv_lstore (lv' := [(4, .long ((((((x0 + (8191 : Int64)) * (6700417 : Int64)) ^^^ x1) ^^^ (xb_lushr (((x0 + (8191 : Int64)) * (6700417 : Int64)) ^^^ x1) (30 : Int32))) * (-4417276706812531889 : Int64)) ^^^ (xb_lushr (((((x0 + (8191 : Int64)) * (6700417 : Int64)) ^^^ x1) ^^^ (xb_lushr (((x0 + (8191 : Int64)) * (6700417 : Int64)) ^^^ x1) (30 : Int32))) * (-4417276706812531889 : Int64)) (28 : Int32)))), (0, .long x0), (2, .long x1)]) hx hb d_P_mix_39 hl (by decide) rfl (fun ls hl => ?_)
  refine lv_lload hx hb d_P_mix_41 (lv_at hl 0 rfl) ?_
  exact W.lret (v := ((((((x0 + (8191 : Int64)) * (6700417 : Int64)) ^^^ x1) ^^^ (xb_lushr (((x0 + (8191 : Int64)) * (6700417 : Int64)) ^^^ x1) (30 : Int32))) * (-4417276706812531889 : Int64)) ^^^ (xb_lushr (((((x0 + (8191 : Int64)) * (6700417 : Int64)) ^^^ x1) ^^^ (xb_lushr (((x0 + (8191 : Int64)) * (6700417 : Int64)) ^^^ x1) (30 : Int32))) * (-4417276706812531889 : Int64)) (28 : Int32)))) hx hb hr (fun t ht_ hW => ⟨_, rfl, rfl, ht_⟩) (fun _ h_ => nomatch h_) d_P_mix_43
abbrev b_P_isPart : ByteArray := prog_1_method_29_code
def y_P_isPart : MethodName := ⟨"SecurePair", "isPart", "(I)Z"⟩
abbrev w_P_isPart : List Cond := .code y_P_isPart b_P_isPart 1 (some .boolean) :: xa
theorem d_P_isPart_0 : decode b_P_isPart 0 = .ok (.iload_n 0, 1) := by decide +kernel
theorem d_P_isPart_1 : decode b_P_isPart 1 = .ok (.ifCond .lt 13, 3) := by decide +kernel
theorem d_P_isPart_4 : decode b_P_isPart 4 = .ok (.iload_n 0, 1) := by decide +kernel
theorem d_P_isPart_5 : decode b_P_isPart 5 = .ok (.bipush 6, 2) := by decide +kernel
theorem d_P_isPart_7 : decode b_P_isPart 7 = .ok (.if_icmp .ge 7, 3) := by decide +kernel
theorem d_P_isPart_10 : decode b_P_isPart 10 = .ok (.iconst 1, 1) := by decide +kernel
theorem d_P_isPart_11 : decode b_P_isPart 11 = .ok (.goto 4, 3) := by decide +kernel
theorem d_P_isPart_14 : decode b_P_isPart 14 = .ok (.iconst 0, 1) := by decide +kernel
theorem d_P_isPart_15 : decode b_P_isPart 15 = .ok (.ireturn, 1) := by decide +kernel
def f_isPart (x0 : Int32) : Int32 := (if x0 < 0 then (0 : Int32) else (if (6 : Int32) ≤ x0 then (0 : Int32) else (1 : Int32)))
set_option maxHeartbeats 4000000 in
set_option maxRecDepth 100000 in
theorem c_P_isPart (l : Launch) (x0 : Int32) : Met l y_P_isPart w_P_isPart ({ frames := 0, cells := 0, slots := 0, locals := 0 }) (fun av_ _ => av_ = ([.int x0] : List Value).toArray) (vp_Si (fun r => r = f_isPart x0)) 0 0 (fun _ => False) := by
  refine Met.ofW (cc := b_P_isPart) (maxL := 1) (ret := (some .boolean)) (by decide) rfl ?_
  intro p e s m args below meth c s₁ B hml hv
  subst hv
  have hx := B.exec
  have hb := B.bytes
  have hr := B.returns
  have hts := atoms_spec (ws := w_P_isPart) B.pre
  have ht : ∀ w ∈ xa, w.before _ s = true := fun w h => hts w (List.mem_cons_of_mem _ h)
  have hown : s.vm.findClass "SecurePair" = some m.cls := findClass_of_methodNamed B.named
  have hlocks := B.notSynchronized
  have hl := lv_entry ([.int x0]) (n := 1) (Nat.le_of_ble_eq_true rfl)
  rw [lg_entry_eq]
  generalize (lg_sl ([.int x0]) ++ List.replicate (1 - (lg_sl ([.int x0])).length) Slot.unset).toArray = ls at hl ⊢
  have hl : lv_has ls 1 [(0, .int x0)] := hl
  refine lv_iload_n hx hb d_P_isPart_0 rfl (lv_at hl 0 rfl) ?_
  refine lv_if_lt (tgt := 14) hx hb d_P_isPart_1 (by decide) (fun c1 => ?_) (fun c1 => ?_)
  · skip
    refine lv_iconst (v := 0) hx hb d_P_isPart_14 (by decide) ?_
    exact W.zret (v := (0 : Int32)) hx hb hr rfl (fun t ht_ hW => ⟨_, rfl, ((if_pos c1)).symm, ht_⟩) (fun _ h_ => nomatch h_) d_P_isPart_15
  · skip
    refine lv_iload_n hx hb d_P_isPart_4 rfl (lv_at hl 0 rfl) ?_
    refine lv_bipush (v := 6) hx hb d_P_isPart_5 (by decide) ?_
    refine lv_icmp_ge (tgt := 14) hx hb d_P_isPart_7 (by decide) (fun c2 => ?_) (fun c2 => ?_)
    · skip
      refine lv_iconst (v := 0) hx hb d_P_isPart_14 (by decide) ?_
      exact W.zret (v := (0 : Int32)) hx hb hr rfl (fun t ht_ hW => ⟨_, rfl, ((if_neg c1).trans ((if_pos c2))).symm, ht_⟩) (fun _ h_ => nomatch h_) d_P_isPart_15
    · skip
      refine lv_iconst (v := 1) hx hb d_P_isPart_10 (by decide) ?_
      refine lv_goto (tgt := 15) hx hb d_P_isPart_11 (by decide) ?_
      exact W.zret (v := (1 : Int32)) hx hb hr rfl (fun t ht_ hW => ⟨_, rfl, ((if_neg c1).trans ((if_neg c2))).symm, ht_⟩) (fun _ h_ => nomatch h_) d_P_isPart_15
abbrev b_P_isSecret : ByteArray := prog_1_method_30_code
def y_P_isSecret : MethodName := ⟨"SecurePair", "isSecret", "(I)Z"⟩
abbrev w_P_isSecret : List Cond := .code y_P_isSecret b_P_isSecret 1 (some .boolean) :: xa
theorem d_P_isSecret_0 : decode b_P_isSecret 0 = .ok (.iload_n 0, 1) := by decide +kernel
theorem d_P_isSecret_1 : decode b_P_isSecret 1 = .ok (.iconst 1, 1) := by decide +kernel
theorem d_P_isSecret_2 : decode b_P_isSecret 2 = .ok (.if_icmp .lt 13, 3) := by decide +kernel
theorem d_P_isSecret_5 : decode b_P_isSecret 5 = .ok (.iload_n 0, 1) := by decide +kernel
theorem d_P_isSecret_6 : decode b_P_isSecret 6 = .ok (.ldc 222, 2) := by decide +kernel
theorem d_P_isSecret_8 : decode b_P_isSecret 8 = .ok (.if_icmp .gt 7, 3) := by decide +kernel
theorem d_P_isSecret_11 : decode b_P_isSecret 11 = .ok (.iconst 1, 1) := by decide +kernel
theorem d_P_isSecret_12 : decode b_P_isSecret 12 = .ok (.goto 4, 3) := by decide +kernel
theorem d_P_isSecret_15 : decode b_P_isSecret 15 = .ok (.iconst 0, 1) := by decide +kernel
theorem d_P_isSecret_16 : decode b_P_isSecret 16 = .ok (.ireturn, 1) := by decide +kernel
theorem xw356 : (Cond.constant "SecurePair" (222 : Nat) (2147483645 : Int32)) ∈ xa := xa_t 356 (by decide +kernel) (by decide +kernel)
def f_isSecret (x0 : Int32) : Int32 := (if x0 < (1 : Int32) then (0 : Int32) else (if (2147483645 : Int32) < x0 then (0 : Int32) else (1 : Int32)))
set_option maxHeartbeats 4000000 in
set_option maxRecDepth 100000 in
theorem c_P_isSecret (l : Launch) (x0 : Int32) : Met l y_P_isSecret w_P_isSecret ({ frames := 0, cells := 0, slots := 0, locals := 0 }) (fun av_ _ => av_ = ([.int x0] : List Value).toArray) (vp_Si (fun r => r = f_isSecret x0)) 0 0 (fun _ => False) := by
  refine Met.ofW (cc := b_P_isSecret) (maxL := 1) (ret := (some .boolean)) (by decide) rfl ?_
  intro p e s m args below meth c s₁ B hml hv
  subst hv
  have hx := B.exec
  have hb := B.bytes
  have hr := B.returns
  have hts := atoms_spec (ws := w_P_isSecret) B.pre
  have ht : ∀ w ∈ xa, w.before _ s = true := fun w h => hts w (List.mem_cons_of_mem _ h)
  have hown : s.vm.findClass "SecurePair" = some m.cls := findClass_of_methodNamed B.named
  have hlocks := B.notSynchronized
  have hl := lv_entry ([.int x0]) (n := 1) (Nat.le_of_ble_eq_true rfl)
  rw [lg_entry_eq]
  generalize (lg_sl ([.int x0]) ++ List.replicate (1 - (lg_sl ([.int x0])).length) Slot.unset).toArray = ls at hl ⊢
  have hl : lv_has ls 1 [(0, .int x0)] := hl
  refine lv_iload_n hx hb d_P_isSecret_0 rfl (lv_at hl 0 rfl) ?_
  refine lv_iconst (v := 1) hx hb d_P_isSecret_1 (by decide) ?_
  refine lv_icmp_lt (tgt := 15) hx hb d_P_isSecret_2 (by decide) (fun c1 => ?_) (fun c1 => ?_)
  · skip
    refine lv_iconst (v := 0) hx hb d_P_isSecret_15 (by decide) ?_
    exact W.zret (v := (0 : Int32)) hx hb hr rfl (fun t ht_ hW => ⟨_, rfl, ((if_pos c1)).symm, ht_⟩) (fun _ h_ => nomatch h_) d_P_isSecret_16
  · skip
    refine lv_iload_n hx hb d_P_isSecret_5 rfl (lv_at hl 0 rfl) ?_
    refine lv_ldc hx hb hown (ht _ xw356) d_P_isSecret_6 ?_
    refine lv_icmp_gt (tgt := 15) hx hb d_P_isSecret_8 (by decide) (fun c2 => ?_) (fun c2 => ?_)
    · skip
      refine lv_iconst (v := 0) hx hb d_P_isSecret_15 (by decide) ?_
      exact W.zret (v := (0 : Int32)) hx hb hr rfl (fun t ht_ hW => ⟨_, rfl, ((if_neg c1).trans ((if_pos c2))).symm, ht_⟩) (fun _ h_ => nomatch h_) d_P_isSecret_16
    · skip
      refine lv_iconst (v := 1) hx hb d_P_isSecret_11 (by decide) ?_
      refine lv_goto (tgt := 16) hx hb d_P_isSecret_12 (by decide) ?_
      exact W.zret (v := (1 : Int32)) hx hb hr rfl (fun t ht_ hW => ⟨_, rfl, ((if_neg c1).trans ((if_neg c2))).symm, ht_⟩) (fun _ h_ => nomatch h_) d_P_isSecret_16
abbrev b_P_isShare : ByteArray := prog_1_method_31_code
def y_P_isShare : MethodName := ⟨"SecurePair", "isShare", "(J)Z"⟩
abbrev w_P_isShare : List Cond := .code y_P_isShare b_P_isShare 2 (some .boolean) :: xa
theorem d_P_isShare_0 : decode b_P_isShare 0 = .ok (.lload_n 0, 1) := by decide +kernel
theorem d_P_isShare_1 : decode b_P_isShare 1 = .ok (.ldc2_w 223, 3) := by decide +kernel
theorem d_P_isShare_4 : decode b_P_isShare 4 = .ok (.lcmp, 1) := by decide +kernel
theorem d_P_isShare_5 : decode b_P_isShare 5 = .ok (.ifCond .lt 15, 3) := by decide +kernel
theorem d_P_isShare_8 : decode b_P_isShare 8 = .ok (.lload_n 0, 1) := by decide +kernel
theorem d_P_isShare_9 : decode b_P_isShare 9 = .ok (.ldc2_w 225, 3) := by decide +kernel
theorem d_P_isShare_12 : decode b_P_isShare 12 = .ok (.lcmp, 1) := by decide +kernel
theorem d_P_isShare_13 : decode b_P_isShare 13 = .ok (.ifCond .gt 7, 3) := by decide +kernel
theorem d_P_isShare_16 : decode b_P_isShare 16 = .ok (.iconst 1, 1) := by decide +kernel
theorem d_P_isShare_17 : decode b_P_isShare 17 = .ok (.goto 4, 3) := by decide +kernel
theorem d_P_isShare_20 : decode b_P_isShare 20 = .ok (.iconst 0, 1) := by decide +kernel
theorem d_P_isShare_21 : decode b_P_isShare 21 = .ok (.ireturn, 1) := by decide +kernel
theorem xw704 : (Cond.constantLong "SecurePair" (223 : Nat) (2 : Int64)) ∈ xa := xa_t 704 (by decide +kernel) (by decide +kernel)
theorem xw705 : (Cond.constantLong "SecurePair" (225 : Nat) (2147483645 : Int64)) ∈ xa := xa_t 705 (by decide +kernel) (by decide +kernel)
def f_isShare (x0 : Int64) : Int32 := (if x0 < (2 : Int64) then (0 : Int32) else (if (2147483645 : Int64) < x0 then (0 : Int32) else (1 : Int32)))
set_option maxHeartbeats 4000000 in
set_option maxRecDepth 100000 in
theorem c_P_isShare (l : Launch) (x0 : Int64) : Met l y_P_isShare w_P_isShare ({ frames := 0, cells := 0, slots := 0, locals := 0 }) (fun av_ _ => av_ = ([.long x0] : List Value).toArray) (vp_Si (fun r => r = f_isShare x0)) 0 0 (fun _ => False) := by
  refine Met.ofW (cc := b_P_isShare) (maxL := 2) (ret := (some .boolean)) (by decide) rfl ?_
  intro p e s m args below meth c s₁ B hml hv
  subst hv
  have hx := B.exec
  have hb := B.bytes
  have hr := B.returns
  have hts := atoms_spec (ws := w_P_isShare) B.pre
  have ht : ∀ w ∈ xa, w.before _ s = true := fun w h => hts w (List.mem_cons_of_mem _ h)
  have hown : s.vm.findClass "SecurePair" = some m.cls := findClass_of_methodNamed B.named
  have hlocks := B.notSynchronized
  have hl := lv_entry ([.long x0]) (n := 2) (Nat.le_of_ble_eq_true rfl)
  rw [lg_entry_eq]
  generalize (lg_sl ([.long x0]) ++ List.replicate (2 - (lg_sl ([.long x0])).length) Slot.unset).toArray = ls at hl ⊢
  have hl : lv_has ls 2 [(0, .long x0)] := hl
  refine lv_lload_n hx hb d_P_isShare_0 rfl (lv_at hl 0 rfl) ?_
  refine lv_ldc2 hx hb hown (ht _ xw704) d_P_isShare_1 ?_
  refine xb_llt (tgt := 20) hx hb d_P_isShare_4 d_P_isShare_5 (by decide) (fun c1 => ?_) (fun c1 => ?_)
  · skip
    refine lv_iconst (v := 0) hx hb d_P_isShare_20 (by decide) ?_
    exact W.zret (v := (0 : Int32)) hx hb hr rfl (fun t ht_ hW => ⟨_, rfl, ((if_pos c1)).symm, ht_⟩) (fun _ h_ => nomatch h_) d_P_isShare_21
  · skip
    refine lv_lload_n hx hb d_P_isShare_8 rfl (lv_at hl 0 rfl) ?_
    refine lv_ldc2 hx hb hown (ht _ xw705) d_P_isShare_9 ?_
    refine xb_lgt (tgt := 20) hx hb d_P_isShare_12 d_P_isShare_13 (by decide) (fun c2 => ?_) (fun c2 => ?_)
    · skip
      refine lv_iconst (v := 0) hx hb d_P_isShare_20 (by decide) ?_
      exact W.zret (v := (0 : Int32)) hx hb hr rfl (fun t ht_ hW => ⟨_, rfl, ((if_neg c1).trans ((if_pos c2))).symm, ht_⟩) (fun _ h_ => nomatch h_) d_P_isShare_21
    · skip
      refine lv_iconst (v := 1) hx hb d_P_isShare_16 (by decide) ?_
      refine lv_goto (tgt := 21) hx hb d_P_isShare_17 (by decide) ?_
      exact W.zret (v := (1 : Int32)) hx hb hr rfl (fun t ht_ hW => ⟨_, rfl, ((if_neg c1).trans ((if_neg c2))).symm, ht_⟩) (fun _ h_ => nomatch h_) d_P_isShare_21
abbrev b_P_isGroupNumber : ByteArray := prog_1_method_32_code
def y_P_isGroupNumber : MethodName := ⟨"SecurePair", "isGroupNumber", "(J)Z"⟩
abbrev w_P_isGroupNumber : List Cond := .code y_P_isGroupNumber b_P_isGroupNumber 2 (some .boolean) :: xa
theorem d_P_isGroupNumber_0 : decode b_P_isGroupNumber 0 = .ok (.lload_n 0, 1) := by decide +kernel
theorem d_P_isGroupNumber_1 : decode b_P_isGroupNumber 1 = .ok (.lconst 1, 1) := by decide +kernel
theorem d_P_isGroupNumber_2 : decode b_P_isGroupNumber 2 = .ok (.lcmp, 1) := by decide +kernel
theorem d_P_isGroupNumber_3 : decode b_P_isGroupNumber 3 = .ok (.ifCond .lt 15, 3) := by decide +kernel
theorem d_P_isGroupNumber_6 : decode b_P_isGroupNumber 6 = .ok (.lload_n 0, 1) := by decide +kernel
theorem d_P_isGroupNumber_7 : decode b_P_isGroupNumber 7 = .ok (.ldc2_w 227, 3) := by decide +kernel
theorem d_P_isGroupNumber_10 : decode b_P_isGroupNumber 10 = .ok (.lcmp, 1) := by decide +kernel
theorem d_P_isGroupNumber_11 : decode b_P_isGroupNumber 11 = .ok (.ifCond .ge 7, 3) := by decide +kernel
theorem d_P_isGroupNumber_14 : decode b_P_isGroupNumber 14 = .ok (.iconst 1, 1) := by decide +kernel
theorem d_P_isGroupNumber_15 : decode b_P_isGroupNumber 15 = .ok (.goto 4, 3) := by decide +kernel
theorem d_P_isGroupNumber_18 : decode b_P_isGroupNumber 18 = .ok (.iconst 0, 1) := by decide +kernel
theorem d_P_isGroupNumber_19 : decode b_P_isGroupNumber 19 = .ok (.ireturn, 1) := by decide +kernel
theorem xw364 : (Cond.constantLong "SecurePair" (227 : Nat) (2147483647 : Int64)) ∈ xa := xa_t 364 (by decide +kernel) (by decide +kernel)
def f_isGroup (x0 : Int64) : Int32 := (if x0 < (1 : Int64) then (0 : Int32) else (if (2147483647 : Int64) ≤ x0 then (0 : Int32) else (1 : Int32)))
set_option maxHeartbeats 4000000 in
set_option maxRecDepth 100000 in
theorem c_P_isGroupNumber (l : Launch) (x0 : Int64) : Met l y_P_isGroupNumber w_P_isGroupNumber ({ frames := 0, cells := 0, slots := 0, locals := 0 }) (fun av_ _ => av_ = ([.long x0] : List Value).toArray) (vp_Si (fun r => r = f_isGroup x0)) 0 0 (fun _ => False) := by
  refine Met.ofW (cc := b_P_isGroupNumber) (maxL := 2) (ret := (some .boolean)) (by decide) rfl ?_
  intro p e s m args below meth c s₁ B hml hv
  subst hv
  have hx := B.exec
  have hb := B.bytes
  have hr := B.returns
  have hts := atoms_spec (ws := w_P_isGroupNumber) B.pre
  have ht : ∀ w ∈ xa, w.before _ s = true := fun w h => hts w (List.mem_cons_of_mem _ h)
  have hown : s.vm.findClass "SecurePair" = some m.cls := findClass_of_methodNamed B.named
  have hlocks := B.notSynchronized
  have hl := lv_entry ([.long x0]) (n := 2) (Nat.le_of_ble_eq_true rfl)
  rw [lg_entry_eq]
  generalize (lg_sl ([.long x0]) ++ List.replicate (2 - (lg_sl ([.long x0])).length) Slot.unset).toArray = ls at hl ⊢
  have hl : lv_has ls 2 [(0, .long x0)] := hl
  refine lv_lload_n hx hb d_P_isGroupNumber_0 rfl (lv_at hl 0 rfl) ?_
  refine lv_lconst (v := 1) hx hb d_P_isGroupNumber_1 (by decide) ?_
  refine xb_llt (tgt := 18) hx hb d_P_isGroupNumber_2 d_P_isGroupNumber_3 (by decide) (fun c1 => ?_) (fun c1 => ?_)
  · skip
    refine lv_iconst (v := 0) hx hb d_P_isGroupNumber_18 (by decide) ?_
    exact W.zret (v := (0 : Int32)) hx hb hr rfl (fun t ht_ hW => ⟨_, rfl, ((if_pos c1)).symm, ht_⟩) (fun _ h_ => nomatch h_) d_P_isGroupNumber_19
  · skip
    refine lv_lload_n hx hb d_P_isGroupNumber_6 rfl (lv_at hl 0 rfl) ?_
    refine lv_ldc2 hx hb hown (ht _ xw364) d_P_isGroupNumber_7 ?_
    refine xb_lge (tgt := 18) hx hb d_P_isGroupNumber_10 d_P_isGroupNumber_11 (by decide) (fun c2 => ?_) (fun c2 => ?_)
    · skip
      refine lv_iconst (v := 0) hx hb d_P_isGroupNumber_18 (by decide) ?_
      exact W.zret (v := (0 : Int32)) hx hb hr rfl (fun t ht_ hW => ⟨_, rfl, ((if_neg c1).trans ((if_pos c2))).symm, ht_⟩) (fun _ h_ => nomatch h_) d_P_isGroupNumber_19
    · skip
      refine lv_iconst (v := 1) hx hb d_P_isGroupNumber_14 (by decide) ?_
      refine lv_goto (tgt := 19) hx hb d_P_isGroupNumber_15 (by decide) ?_
      exact W.zret (v := (1 : Int32)) hx hb hr rfl (fun t ht_ hW => ⟨_, rfl, ((if_neg c1).trans ((if_neg c2))).symm, ht_⟩) (fun _ h_ => nomatch h_) d_P_isGroupNumber_19
abbrev b_P_challenge : ByteArray := prog_1_method_38_code
def y_P_challenge : MethodName := ⟨"SecurePair", "challenge", "(JJ)J"⟩
abbrev w_P_challenge : List Cond := .code y_P_challenge b_P_challenge 4 (some .long) :: xa
theorem d_P_challenge_0 : decode b_P_challenge 0 = .ok (.lconst 0, 1) := by decide +kernel
theorem d_P_challenge_1 : decode b_P_challenge 1 = .ok (.lload_n 0, 1) := by decide +kernel
theorem d_P_challenge_2 : decode b_P_challenge 2 = .ok (.invokestatic 241, 3) := by decide +kernel
theorem d_P_challenge_5 : decode b_P_challenge 5 = .ok (.lload_n 2, 1) := by decide +kernel
theorem d_P_challenge_6 : decode b_P_challenge 6 = .ok (.invokestatic 241, 3) := by decide +kernel
theorem d_P_challenge_9 : decode b_P_challenge 9 = .ok (.bipush 34, 2) := by decide +kernel
theorem d_P_challenge_11 : decode b_P_challenge 11 = .ok (.lushr, 1) := by decide +kernel
theorem d_P_challenge_12 : decode b_P_challenge 12 = .ok (.lreturn, 1) := by decide +kernel
theorem xw1 : (Cond.initialized "SecurePair") ∈ xa := xa_t 1 (by decide +kernel) (by decide +kernel)
theorem xw390 : (Cond.static ({ cls := "SecurePair", name := "mix", desc := "(JJ)J" } : MethodName)) ∈ xa := xa_t 390 (by decide +kernel) (by decide +kernel)
theorem xw391 : (Cond.code ({ cls := "SecurePair", name := "mix", desc := "(JJ)J" } : MethodName) prog_1_method_36_code (6 : Nat) (Option.some ClassFile.FieldType.long)) ∈ xa := xa_t 391 (by decide +kernel) (by decide +kernel)
theorem xw723 : (Cond.methodLink "SecurePair" (241 : Nat) ({ cls := "SecurePair", name := "mix", desc := "(JJ)J" } : MethodName)) ∈ xa := xa_t 723 (by decide +kernel) (by decide +kernel)
def f_chal (x0 : Int64) (x1 : Int64) : Int64 := (xb_lushr (f_mix (f_mix (0 : Int64) x0) x1) (34 : Int32))
set_option maxHeartbeats 4000000 in
set_option maxRecDepth 100000 in
theorem c_P_challenge (l : Launch) (x0 : Int64) (x1 : Int64) : Met l y_P_challenge w_P_challenge ({ frames := 1, cells := 0, slots := 0, locals := 25 }) (fun av_ _ => av_ = ([.long x0, .long x1] : List Value).toArray) (vp_Sl (fun r => r = f_chal x0 x1)) 0 0 (fun _ => False) := by
  refine Met.ofW (cc := b_P_challenge) (maxL := 4) (ret := (some .long)) (by decide) rfl ?_
  intro p e s m args below meth c s₁ B hml hv
  subst hv
  have hx := B.exec
  have hb := B.bytes
  have hr := B.returns
  have hts := atoms_spec (ws := w_P_challenge) B.pre
  have ht : ∀ w ∈ xa, w.before _ s = true := fun w h => hts w (List.mem_cons_of_mem _ h)
  have hown : s.vm.findClass "SecurePair" = some m.cls := findClass_of_methodNamed B.named
  have hlocks := B.notSynchronized
  have hl := lv_entry ([.long x0, .long x1]) (n := 4) (Nat.le_of_ble_eq_true rfl)
  rw [lg_entry_eq]
  generalize (lg_sl ([.long x0, .long x1]) ++ List.replicate (4 - (lg_sl ([.long x0, .long x1])).length) Slot.unset).toArray = ls at hl ⊢
  have hl : lv_has ls 4 [(0, .long x0), (2, .long x1)] := hl
  refine lv_lconst (v := 0) hx hb d_P_challenge_0 (by decide) ?_
  refine lv_lload_n hx hb d_P_challenge_1 rfl (lv_at hl 0 rfl) ?_
  refine vp_callSl (W.runS (As := [.long (0 : Int64), .long x0]) (rest := []) ⟨hx, hb, hml, hown, hts⟩ (c_P_mix l (0 : Int64) x0) (cwS 2 hts (xa_S xw723 xw390 xw1 xw391) rfl rfl rfl (by decide +kernel) ⟨Nat.le_of_ble_eq_true rfl, Nat.le_of_ble_eq_true rfl⟩) preEq rfl rfl hl.1 rfl (lv_room (Nat.le_of_ble_eq_true rfl)) d_P_challenge_2 ⟨Nat.le_of_ble_eq_true rfl, Nat.le_of_ble_eq_true rfl⟩) (fun r_ e_ => ?_)
  subst e_
  refine lv_lload_n hx hb d_P_challenge_5 rfl (lv_at hl 1 rfl) ?_
  refine vp_callSl (W.runS (As := [.long (f_mix (0 : Int64) x0), .long x1]) (rest := []) ⟨hx, hb, hml, hown, hts⟩ (c_P_mix l (f_mix (0 : Int64) x0) x1) (cwS 2 hts (xa_S xw723 xw390 xw1 xw391) rfl rfl rfl (by decide +kernel) ⟨Nat.le_of_ble_eq_true rfl, Nat.le_of_ble_eq_true rfl⟩) preEq rfl rfl hl.1 rfl (lv_room (Nat.le_of_ble_eq_true rfl)) d_P_challenge_6 ⟨Nat.le_of_ble_eq_true rfl, Nat.le_of_ble_eq_true rfl⟩) (fun r_ e_ => ?_)
  subst e_
  refine lv_bipush (v := 34) hx hb d_P_challenge_9 (by decide) ?_
  refine lv_lushr (v := (xb_lushr (f_mix (f_mix (0 : Int64) x0) x1) (34 : Int32))) hx hb d_P_challenge_11 rfl ?_
  exact W.lret (v := (xb_lushr (f_mix (f_mix (0 : Int64) x0) x1) (34 : Int32))) hx hb hr (fun t ht_ hW => ⟨_, rfl, rfl, ht_⟩) (fun _ h_ => nomatch h_) d_P_challenge_12
abbrev b_P_contains : ByteArray := prog_1_method_34_code
def y_P_contains : MethodName := ⟨"SecurePair", "contains", "(JJ)Z"⟩
abbrev w_P_contains : List Cond := .code y_P_contains b_P_contains 5 (some .boolean) :: xa
theorem d_P_contains_0 : decode b_P_contains 0 = .ok (.iconst 0, 1) := by decide +kernel
theorem d_P_contains_1 : decode b_P_contains 1 = .ok (.istore 4, 2) := by decide +kernel
theorem d_P_contains_3 : decode b_P_contains 3 = .ok (.iload 4, 2) := by decide +kernel
theorem d_P_contains_5 : decode b_P_contains 5 = .ok (.iconst 3, 1) := by decide +kernel
theorem d_P_contains_6 : decode b_P_contains 6 = .ok (.if_icmp .ge 26, 3) := by decide +kernel
theorem d_P_contains_9 : decode b_P_contains 9 = .ok (.lload_n 0, 1) := by decide +kernel
theorem d_P_contains_10 : decode b_P_contains 10 = .ok (.iconst 3, 1) := by decide +kernel
theorem d_P_contains_11 : decode b_P_contains 11 = .ok (.iload 4, 2) := by decide +kernel
theorem d_P_contains_13 : decode b_P_contains 13 = .ok (.imul, 1) := by decide +kernel
theorem d_P_contains_14 : decode b_P_contains 14 = .ok (.lshr, 1) := by decide +kernel
theorem d_P_contains_15 : decode b_P_contains 15 = .ok (.ldc2_w 55, 3) := by decide +kernel
theorem d_P_contains_18 : decode b_P_contains 18 = .ok (.land, 1) := by decide +kernel
theorem d_P_contains_19 : decode b_P_contains 19 = .ok (.lload_n 2, 1) := by decide +kernel
theorem d_P_contains_20 : decode b_P_contains 20 = .ok (.lcmp, 1) := by decide +kernel
theorem d_P_contains_21 : decode b_P_contains 21 = .ok (.ifCond .ne 5, 3) := by decide +kernel
theorem d_P_contains_24 : decode b_P_contains 24 = .ok (.iconst 1, 1) := by decide +kernel
theorem d_P_contains_25 : decode b_P_contains 25 = .ok (.ireturn, 1) := by decide +kernel
theorem d_P_contains_26 : decode b_P_contains 26 = .ok (.iinc 4 1, 3) := by decide +kernel
theorem d_P_contains_29 : decode b_P_contains 29 = .ok (.goto (-26), 3) := by decide +kernel
theorem d_P_contains_32 : decode b_P_contains 32 = .ok (.iconst 0, 1) := by decide +kernel
theorem d_P_contains_33 : decode b_P_contains 33 = .ok (.ireturn, 1) := by decide +kernel
theorem xw348 : (Cond.constantLong "SecurePair" (55 : Nat) (7 : Int64)) ∈ xa := xa_t 348 (by decide +kernel) (by decide +kernel)
def f_contains (x0 : Int64) (x1 : Int64) : Int32 := (if ((xb_lshr x0 (0 : Int32)) &&& (7 : Int64)) = x1 then (1 : Int32) else (if ((xb_lshr x0 (3 : Int32)) &&& (7 : Int64)) = x1 then (1 : Int32) else (if ((xb_lshr x0 (6 : Int32)) &&& (7 : Int64)) = x1 then (1 : Int32) else (0 : Int32))))
set_option maxHeartbeats 4000000 in
set_option maxRecDepth 100000 in
theorem c_P_contains (l : Launch) (x0 : Int64) (x1 : Int64) : Met l y_P_contains w_P_contains ({ frames := 0, cells := 0, slots := 0, locals := 0 }) (fun av_ _ => av_ = ([.long x0, .long x1] : List Value).toArray) (vp_Si (fun r => r = f_contains x0 x1)) 0 0 (fun _ => False) := by
  refine Met.ofW (cc := b_P_contains) (maxL := 5) (ret := (some .boolean)) (by decide) rfl ?_
  intro p e s m args below meth c s₁ B hml hv
  subst hv
  have hx := B.exec
  have hb := B.bytes
  have hr := B.returns
  have hts := atoms_spec (ws := w_P_contains) B.pre
  have ht : ∀ w ∈ xa, w.before _ s = true := fun w h => hts w (List.mem_cons_of_mem _ h)
  have hown : s.vm.findClass "SecurePair" = some m.cls := findClass_of_methodNamed B.named
  have hlocks := B.notSynchronized
  have hl := lv_entry ([.long x0, .long x1]) (n := 5) (Nat.le_of_ble_eq_true rfl)
  rw [lg_entry_eq]
  generalize (lg_sl ([.long x0, .long x1]) ++ List.replicate (5 - (lg_sl ([.long x0, .long x1])).length) Slot.unset).toArray = ls at hl ⊢
  have hl : lv_has ls 5 [(0, .long x0), (2, .long x1)] := hl
  refine lv_iconst (v := 0) hx hb d_P_contains_0 (by decide) ?_
  refine lv_istore (lv' := [(4, .int (0 : Int32)), (0, .long x0), (2, .long x1)]) hx hb d_P_contains_1 hl (by decide) rfl (fun ls hl => ?_)
  refine lv_iload hx hb d_P_contains_3 (lv_at hl 0 rfl) ?_
  refine lv_iconst (v := 3) hx hb d_P_contains_5 (by decide) ?_
  refine lv_icmp_ge (tgt := 32) hx hb d_P_contains_6 (by decide) (fun h_ => absurd h_ (by decide)) (fun _ => ?_)
  refine lv_lload_n hx hb d_P_contains_9 rfl (lv_at hl 1 rfl) ?_
  refine lv_iconst (v := 3) hx hb d_P_contains_10 (by decide) ?_
  refine lv_iload hx hb d_P_contains_11 (lv_at hl 0 rfl) ?_
  refine lv_imul hx hb d_P_contains_13 ?_
  refine xb_ti (y := (0 : Int32)) (by decide) ?_
  refine lv_lshr (v := (xb_lshr x0 (0 : Int32))) hx hb d_P_contains_14 rfl ?_
  refine lv_ldc2 hx hb hown (ht _ xw348) d_P_contains_15 ?_
  refine lv_land hx hb d_P_contains_18 ?_
  refine lv_lload_n hx hb d_P_contains_19 rfl (lv_at hl 2 rfl) ?_
  refine xb_lne (tgt := 26) hx hb d_P_contains_20 d_P_contains_21 (by decide) (fun c1 => ?_) (fun c1 => ?_)
  · skip
    refine lv_iinc (v := (1 : Int32)) (k := 0) (lv' := [(4, .int (1 : Int32)), (0, .long x0), (2, .long x1)]) hx hb d_P_contains_26 hl rfl (by decide) (by decide) rfl (fun ls hl => ?_)
    refine lv_goto (tgt := 3) hx hb d_P_contains_29 (by decide) ?_
    refine lv_iload hx hb d_P_contains_3 (lv_at hl 0 rfl) ?_
    refine lv_iconst (v := 3) hx hb d_P_contains_5 (by decide) ?_
    refine lv_icmp_ge (tgt := 32) hx hb d_P_contains_6 (by decide) (fun h_ => absurd h_ (by decide)) (fun _ => ?_)
    refine lv_lload_n hx hb d_P_contains_9 rfl (lv_at hl 1 rfl) ?_
    refine lv_iconst (v := 3) hx hb d_P_contains_10 (by decide) ?_
    refine lv_iload hx hb d_P_contains_11 (lv_at hl 0 rfl) ?_
    refine lv_imul hx hb d_P_contains_13 ?_
    refine xb_ti (y := (3 : Int32)) (by decide) ?_
    refine lv_lshr (v := (xb_lshr x0 (3 : Int32))) hx hb d_P_contains_14 rfl ?_
    refine lv_ldc2 hx hb hown (ht _ xw348) d_P_contains_15 ?_
    refine lv_land hx hb d_P_contains_18 ?_
    refine lv_lload_n hx hb d_P_contains_19 rfl (lv_at hl 2 rfl) ?_
    refine xb_lne (tgt := 26) hx hb d_P_contains_20 d_P_contains_21 (by decide) (fun c2 => ?_) (fun c2 => ?_)
    · skip
      refine lv_iinc (v := (2 : Int32)) (k := 0) (lv' := [(4, .int (2 : Int32)), (0, .long x0), (2, .long x1)]) hx hb d_P_contains_26 hl rfl (by decide) (by decide) rfl (fun ls hl => ?_)
      refine lv_goto (tgt := 3) hx hb d_P_contains_29 (by decide) ?_
      refine lv_iload hx hb d_P_contains_3 (lv_at hl 0 rfl) ?_
      refine lv_iconst (v := 3) hx hb d_P_contains_5 (by decide) ?_
      refine lv_icmp_ge (tgt := 32) hx hb d_P_contains_6 (by decide) (fun h_ => absurd h_ (by decide)) (fun _ => ?_)
      refine lv_lload_n hx hb d_P_contains_9 rfl (lv_at hl 1 rfl) ?_
      refine lv_iconst (v := 3) hx hb d_P_contains_10 (by decide) ?_
      refine lv_iload hx hb d_P_contains_11 (lv_at hl 0 rfl) ?_
      refine lv_imul hx hb d_P_contains_13 ?_
      refine xb_ti (y := (6 : Int32)) (by decide) ?_
      refine lv_lshr (v := (xb_lshr x0 (6 : Int32))) hx hb d_P_contains_14 rfl ?_
      refine lv_ldc2 hx hb hown (ht _ xw348) d_P_contains_15 ?_
      refine lv_land hx hb d_P_contains_18 ?_
      refine lv_lload_n hx hb d_P_contains_19 rfl (lv_at hl 2 rfl) ?_
      refine xb_lne (tgt := 26) hx hb d_P_contains_20 d_P_contains_21 (by decide) (fun c3 => ?_) (fun c3 => ?_)
      · skip
        refine lv_iinc (v := (3 : Int32)) (k := 0) (lv' := [(4, .int (3 : Int32)), (0, .long x0), (2, .long x1)]) hx hb d_P_contains_26 hl rfl (by decide) (by decide) rfl (fun ls hl => ?_)
        refine lv_goto (tgt := 3) hx hb d_P_contains_29 (by decide) ?_
        refine lv_iload hx hb d_P_contains_3 (lv_at hl 0 rfl) ?_
        refine lv_iconst (v := 3) hx hb d_P_contains_5 (by decide) ?_
        refine lv_icmp_ge (tgt := 32) hx hb d_P_contains_6 (by decide) (fun _ => ?_) (fun h_ => absurd h_ (by decide))
        refine lv_iconst (v := 0) hx hb d_P_contains_32 (by decide) ?_
        exact W.zret (v := (0 : Int32)) hx hb hr rfl (fun t ht_ hW => ⟨_, rfl, ((if_neg c1).trans ((if_neg c2).trans ((if_neg c3)))).symm, ht_⟩) (fun _ h_ => nomatch h_) d_P_contains_33
      · skip
        refine lv_iconst (v := 1) hx hb d_P_contains_24 (by decide) ?_
        exact W.zret (v := (1 : Int32)) hx hb hr rfl (fun t ht_ hW => ⟨_, rfl, ((if_neg c1).trans ((if_neg c2).trans ((if_pos c3)))).symm, ht_⟩) (fun _ h_ => nomatch h_) d_P_contains_25
    · skip
      refine lv_iconst (v := 1) hx hb d_P_contains_24 (by decide) ?_
      exact W.zret (v := (1 : Int32)) hx hb hr rfl (fun t ht_ hW => ⟨_, rfl, ((if_neg c1).trans ((if_pos c2))).symm, ht_⟩) (fun _ h_ => nomatch h_) d_P_contains_25
  · skip
    refine lv_iconst (v := 1) hx hb d_P_contains_24 (by decide) ?_
    exact W.zret (v := (1 : Int32)) hx hb hr rfl (fun t ht_ hW => ⟨_, rfl, ((if_pos c1)).symm, ht_⟩) (fun _ h_ => nomatch h_) d_P_contains_25
abbrev b_P_isList : ByteArray := prog_1_method_33_code
def y_P_isList : MethodName := ⟨"SecurePair", "isList", "(J)Z"⟩
abbrev w_P_isList : List Cond := .code y_P_isList b_P_isList 7 (some .boolean) :: xa
theorem d_P_isList_0 : decode b_P_isList 0 = .ok (.lload_n 0, 1) := by decide +kernel
theorem d_P_isList_1 : decode b_P_isList 1 = .ok (.lconst 1, 1) := by decide +kernel
theorem d_P_isList_2 : decode b_P_isList 2 = .ok (.lcmp, 1) := by decide +kernel
theorem d_P_isList_3 : decode b_P_isList 3 = .ok (.ifCond .lt 11, 3) := by decide +kernel
theorem d_P_isList_6 : decode b_P_isList 6 = .ok (.lload_n 0, 1) := by decide +kernel
theorem d_P_isList_7 : decode b_P_isList 7 = .ok (.ldc2_w 229, 3) := by decide +kernel
theorem d_P_isList_10 : decode b_P_isList 10 = .ok (.lcmp, 1) := by decide +kernel
theorem d_P_isList_11 : decode b_P_isList 11 = .ok (.ifCond .lt 5, 3) := by decide +kernel
theorem d_P_isList_14 : decode b_P_isList 14 = .ok (.iconst 0, 1) := by decide +kernel
theorem d_P_isList_15 : decode b_P_isList 15 = .ok (.ireturn, 1) := by decide +kernel
theorem d_P_isList_16 : decode b_P_isList 16 = .ok (.lload_n 0, 1) := by decide +kernel
theorem d_P_isList_17 : decode b_P_isList 17 = .ok (.lstore_n 2, 1) := by decide +kernel
theorem d_P_isList_18 : decode b_P_isList 18 = .ok (.iconst 0, 1) := by decide +kernel
theorem d_P_isList_19 : decode b_P_isList 19 = .ok (.istore 4, 2) := by decide +kernel
theorem d_P_isList_21 : decode b_P_isList 21 = .ok (.iconst 0, 1) := by decide +kernel
theorem d_P_isList_22 : decode b_P_isList 22 = .ok (.istore 5, 2) := by decide +kernel
theorem d_P_isList_24 : decode b_P_isList 24 = .ok (.iload 5, 2) := by decide +kernel
theorem d_P_isList_26 : decode b_P_isList 26 = .ok (.iconst 3, 1) := by decide +kernel
theorem d_P_isList_27 : decode b_P_isList 27 = .ok (.if_icmp .ge 61, 3) := by decide +kernel
theorem d_P_isList_30 : decode b_P_isList 30 = .ok (.lload_n 2, 1) := by decide +kernel
theorem d_P_isList_31 : decode b_P_isList 31 = .ok (.lconst 0, 1) := by decide +kernel
theorem d_P_isList_32 : decode b_P_isList 32 = .ok (.lcmp, 1) := by decide +kernel
theorem d_P_isList_33 : decode b_P_isList 33 = .ok (.ifCond .eq 55, 3) := by decide +kernel
theorem d_P_isList_36 : decode b_P_isList 36 = .ok (.lload_n 2, 1) := by decide +kernel
theorem d_P_isList_37 : decode b_P_isList 37 = .ok (.ldc2_w 55, 3) := by decide +kernel
theorem d_P_isList_40 : decode b_P_isList 40 = .ok (.land, 1) := by decide +kernel
theorem d_P_isList_41 : decode b_P_isList 41 = .ok (.l2i, 1) := by decide +kernel
theorem d_P_isList_42 : decode b_P_isList 42 = .ok (.istore 6, 2) := by decide +kernel
theorem d_P_isList_44 : decode b_P_isList 44 = .ok (.iload 6, 2) := by decide +kernel
theorem d_P_isList_46 : decode b_P_isList 46 = .ok (.iconst 1, 1) := by decide +kernel
theorem d_P_isList_47 : decode b_P_isList 47 = .ok (.if_icmp .lt 20, 3) := by decide +kernel
theorem d_P_isList_50 : decode b_P_isList 50 = .ok (.iload 6, 2) := by decide +kernel
theorem d_P_isList_52 : decode b_P_isList 52 = .ok (.iconst 4, 1) := by decide +kernel
theorem d_P_isList_53 : decode b_P_isList 53 = .ok (.if_icmp .gt 14, 3) := by decide +kernel
theorem d_P_isList_56 : decode b_P_isList 56 = .ok (.iload 4, 2) := by decide +kernel
theorem d_P_isList_58 : decode b_P_isList 58 = .ok (.iload 6, 2) := by decide +kernel
theorem d_P_isList_60 : decode b_P_isList 60 = .ok (.ishr, 1) := by decide +kernel
theorem d_P_isList_61 : decode b_P_isList 61 = .ok (.iconst 1, 1) := by decide +kernel
theorem d_P_isList_62 : decode b_P_isList 62 = .ok (.iand, 1) := by decide +kernel
theorem d_P_isList_63 : decode b_P_isList 63 = .ok (.iconst 1, 1) := by decide +kernel
theorem d_P_isList_64 : decode b_P_isList 64 = .ok (.if_icmp .ne 5, 3) := by decide +kernel
theorem d_P_isList_67 : decode b_P_isList 67 = .ok (.iconst 0, 1) := by decide +kernel
theorem d_P_isList_68 : decode b_P_isList 68 = .ok (.ireturn, 1) := by decide +kernel
theorem d_P_isList_69 : decode b_P_isList 69 = .ok (.iload 4, 2) := by decide +kernel
theorem d_P_isList_71 : decode b_P_isList 71 = .ok (.iconst 1, 1) := by decide +kernel
theorem d_P_isList_72 : decode b_P_isList 72 = .ok (.iload 6, 2) := by decide +kernel
theorem d_P_isList_74 : decode b_P_isList 74 = .ok (.ishl, 1) := by decide +kernel
theorem d_P_isList_75 : decode b_P_isList 75 = .ok (.ior, 1) := by decide +kernel
theorem d_P_isList_76 : decode b_P_isList 76 = .ok (.istore 4, 2) := by decide +kernel
theorem d_P_isList_78 : decode b_P_isList 78 = .ok (.lload_n 2, 1) := by decide +kernel
theorem d_P_isList_79 : decode b_P_isList 79 = .ok (.iconst 3, 1) := by decide +kernel
theorem d_P_isList_80 : decode b_P_isList 80 = .ok (.lshr, 1) := by decide +kernel
theorem d_P_isList_81 : decode b_P_isList 81 = .ok (.lstore_n 2, 1) := by decide +kernel
theorem d_P_isList_82 : decode b_P_isList 82 = .ok (.iinc 5 1, 3) := by decide +kernel
theorem d_P_isList_85 : decode b_P_isList 85 = .ok (.goto (-61), 3) := by decide +kernel
theorem d_P_isList_88 : decode b_P_isList 88 = .ok (.iconst 1, 1) := by decide +kernel
theorem d_P_isList_89 : decode b_P_isList 89 = .ok (.ireturn, 1) := by decide +kernel
theorem xw347 : (Cond.constantLong "SecurePair" (229 : Nat) (512 : Int64)) ∈ xa := xa_t 347 (by decide +kernel) (by decide +kernel)
def f_isList (x0 : Int64) : Int32 := (if x0 < (1 : Int64) then (0 : Int32) else (if x0 < (512 : Int64) then (if x0 = (0 : Int64) then (1 : Int32) else (if (x0 &&& (7 : Int64)).toInt32 < (1 : Int32) then (0 : Int32) else (if (4 : Int32) < (x0 &&& (7 : Int64)).toInt32 then (0 : Int32) else (if (((0 : Int32) >>> ((x0 &&& (7 : Int64)).toInt32 &&& 31)) &&& (1 : Int32)) = (1 : Int32) then (0 : Int32) else (if (xb_lshr x0 (3 : Int32)) = (0 : Int64) then (1 : Int32) else (if ((xb_lshr x0 (3 : Int32)) &&& (7 : Int64)).toInt32 < (1 : Int32) then (0 : Int32) else (if (4 : Int32) < ((xb_lshr x0 (3 : Int32)) &&& (7 : Int64)).toInt32 then (0 : Int32) else (if ((((0 : Int32) ||| ((1 : Int32) <<< ((x0 &&& (7 : Int64)).toInt32 &&& 31))) >>> (((xb_lshr x0 (3 : Int32)) &&& (7 : Int64)).toInt32 &&& 31)) &&& (1 : Int32)) = (1 : Int32) then (0 : Int32) else (if (xb_lshr (xb_lshr x0 (3 : Int32)) (3 : Int32)) = (0 : Int64) then (1 : Int32) else (if ((xb_lshr (xb_lshr x0 (3 : Int32)) (3 : Int32)) &&& (7 : Int64)).toInt32 < (1 : Int32) then (0 : Int32) else (if (4 : Int32) < ((xb_lshr (xb_lshr x0 (3 : Int32)) (3 : Int32)) &&& (7 : Int64)).toInt32 then (0 : Int32) else (if (((((0 : Int32) ||| ((1 : Int32) <<< ((x0 &&& (7 : Int64)).toInt32 &&& 31))) ||| ((1 : Int32) <<< (((xb_lshr x0 (3 : Int32)) &&& (7 : Int64)).toInt32 &&& 31))) >>> (((xb_lshr (xb_lshr x0 (3 : Int32)) (3 : Int32)) &&& (7 : Int64)).toInt32 &&& 31)) &&& (1 : Int32)) = (1 : Int32) then (0 : Int32) else (1 : Int32))))))))))))) else (0 : Int32)))
set_option maxHeartbeats 4000000 in
set_option maxRecDepth 100000 in
theorem c_P_isList (l : Launch) (x0 : Int64) : Met l y_P_isList w_P_isList ({ frames := 0, cells := 0, slots := 0, locals := 0 }) (fun av_ _ => av_ = ([.long x0] : List Value).toArray) (vp_Si (fun r => r = f_isList x0)) 0 0 (fun _ => False) := by
  refine Met.ofW (cc := b_P_isList) (maxL := 7) (ret := (some .boolean)) (by decide) rfl ?_
  intro p e s m args below meth c s₁ B hml hv
  subst hv
  have hx := B.exec
  have hb := B.bytes
  have hr := B.returns
  have hts := atoms_spec (ws := w_P_isList) B.pre
  have ht : ∀ w ∈ xa, w.before _ s = true := fun w h => hts w (List.mem_cons_of_mem _ h)
  have hown : s.vm.findClass "SecurePair" = some m.cls := findClass_of_methodNamed B.named
  have hlocks := B.notSynchronized
  have hl := lv_entry ([.long x0]) (n := 7) (Nat.le_of_ble_eq_true rfl)
  rw [lg_entry_eq]
  generalize (lg_sl ([.long x0]) ++ List.replicate (7 - (lg_sl ([.long x0])).length) Slot.unset).toArray = ls at hl ⊢
  have hl : lv_has ls 7 [(0, .long x0)] := hl
  refine lv_lload_n hx hb d_P_isList_0 rfl (lv_at hl 0 rfl) ?_
  refine lv_lconst (v := 1) hx hb d_P_isList_1 (by decide) ?_
  refine xb_llt (tgt := 14) hx hb d_P_isList_2 d_P_isList_3 (by decide) (fun c1 => ?_) (fun c1 => ?_)
  · skip
    refine lv_iconst (v := 0) hx hb d_P_isList_14 (by decide) ?_
    exact W.zret (v := (0 : Int32)) hx hb hr rfl (fun t ht_ hW => ⟨_, rfl, ((if_pos c1)).symm, ht_⟩) (fun _ h_ => nomatch h_) d_P_isList_15
  · skip
    refine lv_lload_n hx hb d_P_isList_6 rfl (lv_at hl 0 rfl) ?_
    refine lv_ldc2 hx hb hown (ht _ xw347) d_P_isList_7 ?_
    refine xb_llt (tgt := 16) hx hb d_P_isList_10 d_P_isList_11 (by decide) (fun c2 => ?_) (fun c2 => ?_)
    · skip
      refine lv_lload_n hx hb d_P_isList_16 rfl (lv_at hl 0 rfl) ?_
      refine lv_lstore_n (lv' := [(2, .long x0), (0, .long x0)]) hx hb d_P_isList_17 rfl hl (by decide) rfl (fun ls hl => ?_)
      refine lv_iconst (v := 0) hx hb d_P_isList_18 (by decide) ?_
      refine lv_istore (lv' := [(4, .int (0 : Int32)), (2, .long x0), (0, .long x0)]) hx hb d_P_isList_19 hl (by decide) rfl (fun ls hl => ?_)
      refine lv_iconst (v := 0) hx hb d_P_isList_21 (by decide) ?_
      refine lv_istore (lv' := [(5, .int (0 : Int32)), (4, .int (0 : Int32)), (2, .long x0), (0, .long x0)]) hx hb d_P_isList_22 hl (by decide) rfl (fun ls hl => ?_)
      refine lv_iload hx hb d_P_isList_24 (lv_at hl 0 rfl) ?_
      refine lv_iconst (v := 3) hx hb d_P_isList_26 (by decide) ?_
      refine lv_icmp_ge (tgt := 88) hx hb d_P_isList_27 (by decide) (fun h_ => absurd h_ (by decide)) (fun _ => ?_)
      refine lv_lload_n hx hb d_P_isList_30 rfl (lv_at hl 2 rfl) ?_
      refine lv_lconst (v := 0) hx hb d_P_isList_31 (by decide) ?_
      refine xb_leq (tgt := 88) hx hb d_P_isList_32 d_P_isList_33 (by decide) (fun c3 => ?_) (fun c3 => ?_)
      · skip
        refine lv_iconst (v := 1) hx hb d_P_isList_88 (by decide) ?_
        exact W.zret (v := (1 : Int32)) hx hb hr rfl (fun t ht_ hW => ⟨_, rfl, ((if_neg c1).trans ((if_pos c2).trans ((if_pos c3)))).symm, ht_⟩) (fun _ h_ => nomatch h_) d_P_isList_89
      · skip
        refine lv_lload_n hx hb d_P_isList_36 rfl (lv_at hl 2 rfl) ?_
        refine lv_ldc2 hx hb hown (ht _ xw348) d_P_isList_37 ?_
        refine lv_land hx hb d_P_isList_40 ?_
        refine lv_l2i (v := (x0 &&& (7 : Int64)).toInt32) hx hb d_P_isList_41 (by rfl) ?_
        refine lv_istore (lv' := [(6, .int ((x0 &&& (7 : Int64)).toInt32)), (5, .int (0 : Int32)), (4, .int (0 : Int32)), (2, .long x0), (0, .long x0)]) hx hb d_P_isList_42 hl (by decide) rfl (fun ls hl => ?_)
        refine lv_iload hx hb d_P_isList_44 (lv_at hl 0 rfl) ?_
        refine lv_iconst (v := 1) hx hb d_P_isList_46 (by decide) ?_
        refine lv_icmp_lt (tgt := 67) hx hb d_P_isList_47 (by decide) (fun c4 => ?_) (fun c4 => ?_)
        · skip
          refine lv_iconst (v := 0) hx hb d_P_isList_67 (by decide) ?_
          exact W.zret (v := (0 : Int32)) hx hb hr rfl (fun t ht_ hW => ⟨_, rfl, ((if_neg c1).trans ((if_pos c2).trans ((if_neg c3).trans ((if_pos c4))))).symm, ht_⟩) (fun _ h_ => nomatch h_) d_P_isList_68
        · skip
          refine lv_iload hx hb d_P_isList_50 (lv_at hl 0 rfl) ?_
          refine lv_iconst (v := 4) hx hb d_P_isList_52 (by decide) ?_
          refine lv_icmp_gt (tgt := 67) hx hb d_P_isList_53 (by decide) (fun c5 => ?_) (fun c5 => ?_)
          · skip
            refine lv_iconst (v := 0) hx hb d_P_isList_67 (by decide) ?_
            exact W.zret (v := (0 : Int32)) hx hb hr rfl (fun t ht_ hW => ⟨_, rfl, ((if_neg c1).trans ((if_pos c2).trans ((if_neg c3).trans ((if_neg c4).trans ((if_pos c5)))))).symm, ht_⟩) (fun _ h_ => nomatch h_) d_P_isList_68
          · skip
            refine lv_iload hx hb d_P_isList_56 (lv_at hl 2 rfl) ?_
            refine lv_iload hx hb d_P_isList_58 (lv_at hl 0 rfl) ?_
            refine lv_ishr hx hb d_P_isList_60 ?_
            refine lv_iconst (v := 1) hx hb d_P_isList_61 (by decide) ?_
            refine lv_iand hx hb d_P_isList_62 ?_
            refine lv_iconst (v := 1) hx hb d_P_isList_63 (by decide) ?_
            refine lv_icmp_ne (tgt := 69) hx hb d_P_isList_64 (by decide) (fun c6 => ?_) (fun c6 => ?_)
            · skip
              refine lv_iload hx hb d_P_isList_69 (lv_at hl 2 rfl) ?_
              refine lv_iconst (v := 1) hx hb d_P_isList_71 (by decide) ?_
              refine lv_iload hx hb d_P_isList_72 (lv_at hl 0 rfl) ?_
              refine lv_ishl hx hb d_P_isList_74 ?_
              refine lv_ior hx hb d_P_isList_75 ?_
              refine lv_istore (lv' := [(4, .int ((0 : Int32) ||| ((1 : Int32) <<< ((x0 &&& (7 : Int64)).toInt32 &&& 31)))), (6, .int ((x0 &&& (7 : Int64)).toInt32)), (5, .int (0 : Int32)), (2, .long x0), (0, .long x0)]) hx hb d_P_isList_76 hl (by decide) rfl (fun ls hl => ?_)
              refine lv_lload_n hx hb d_P_isList_78 rfl (lv_at hl 3 rfl) ?_
              refine lv_iconst (v := 3) hx hb d_P_isList_79 (by decide) ?_
              refine lv_lshr (v := (xb_lshr x0 (3 : Int32))) hx hb d_P_isList_80 rfl ?_
              refine lv_lstore_n (lv' := [(2, .long (xb_lshr x0 (3 : Int32))), (4, .int ((0 : Int32) ||| ((1 : Int32) <<< ((x0 &&& (7 : Int64)).toInt32 &&& 31)))), (6, .int ((x0 &&& (7 : Int64)).toInt32)), (5, .int (0 : Int32)), (0, .long x0)]) hx hb d_P_isList_81 rfl hl (by decide) rfl (fun ls hl => ?_)
              refine lv_iinc (v := (1 : Int32)) (k := 3) (lv' := [(5, .int (1 : Int32)), (2, .long (xb_lshr x0 (3 : Int32))), (4, .int ((0 : Int32) ||| ((1 : Int32) <<< ((x0 &&& (7 : Int64)).toInt32 &&& 31)))), (6, .int ((x0 &&& (7 : Int64)).toInt32)), (0, .long x0)]) hx hb d_P_isList_82 hl rfl (by decide) (by decide) rfl (fun ls hl => ?_)
              refine lv_goto (tgt := 24) hx hb d_P_isList_85 (by decide) ?_
              refine lv_iload hx hb d_P_isList_24 (lv_at hl 0 rfl) ?_
              refine lv_iconst (v := 3) hx hb d_P_isList_26 (by decide) ?_
              refine lv_icmp_ge (tgt := 88) hx hb d_P_isList_27 (by decide) (fun h_ => absurd h_ (by decide)) (fun _ => ?_)
              refine lv_lload_n hx hb d_P_isList_30 rfl (lv_at hl 1 rfl) ?_
              refine lv_lconst (v := 0) hx hb d_P_isList_31 (by decide) ?_
              refine xb_leq (tgt := 88) hx hb d_P_isList_32 d_P_isList_33 (by decide) (fun c7 => ?_) (fun c7 => ?_)
              · skip
                refine lv_iconst (v := 1) hx hb d_P_isList_88 (by decide) ?_
                exact W.zret (v := (1 : Int32)) hx hb hr rfl (fun t ht_ hW => ⟨_, rfl, ((if_neg c1).trans ((if_pos c2).trans ((if_neg c3).trans ((if_neg c4).trans ((if_neg c5).trans ((if_neg c6).trans ((if_pos c7)))))))).symm, ht_⟩) (fun _ h_ => nomatch h_) d_P_isList_89
              · skip
                refine lv_lload_n hx hb d_P_isList_36 rfl (lv_at hl 1 rfl) ?_
                refine lv_ldc2 hx hb hown (ht _ xw348) d_P_isList_37 ?_
                refine lv_land hx hb d_P_isList_40 ?_
                refine lv_l2i (v := ((xb_lshr x0 (3 : Int32)) &&& (7 : Int64)).toInt32) hx hb d_P_isList_41 (by rfl) ?_
                refine lv_istore (lv' := [(6, .int (((xb_lshr x0 (3 : Int32)) &&& (7 : Int64)).toInt32)), (5, .int (1 : Int32)), (2, .long (xb_lshr x0 (3 : Int32))), (4, .int ((0 : Int32) ||| ((1 : Int32) <<< ((x0 &&& (7 : Int64)).toInt32 &&& 31)))), (0, .long x0)]) hx hb d_P_isList_42 hl (by decide) rfl (fun ls hl => ?_)
                refine lv_iload hx hb d_P_isList_44 (lv_at hl 0 rfl) ?_
                refine lv_iconst (v := 1) hx hb d_P_isList_46 (by decide) ?_
                refine lv_icmp_lt (tgt := 67) hx hb d_P_isList_47 (by decide) (fun c8 => ?_) (fun c8 => ?_)
                · skip
                  refine lv_iconst (v := 0) hx hb d_P_isList_67 (by decide) ?_
                  exact W.zret (v := (0 : Int32)) hx hb hr rfl (fun t ht_ hW => ⟨_, rfl, ((if_neg c1).trans ((if_pos c2).trans ((if_neg c3).trans ((if_neg c4).trans ((if_neg c5).trans ((if_neg c6).trans ((if_neg c7).trans ((if_pos c8))))))))).symm, ht_⟩) (fun _ h_ => nomatch h_) d_P_isList_68
                · skip
                  refine lv_iload hx hb d_P_isList_50 (lv_at hl 0 rfl) ?_
                  refine lv_iconst (v := 4) hx hb d_P_isList_52 (by decide) ?_
                  refine lv_icmp_gt (tgt := 67) hx hb d_P_isList_53 (by decide) (fun c9 => ?_) (fun c9 => ?_)
                  · skip
                    refine lv_iconst (v := 0) hx hb d_P_isList_67 (by decide) ?_
                    exact W.zret (v := (0 : Int32)) hx hb hr rfl (fun t ht_ hW => ⟨_, rfl, ((if_neg c1).trans ((if_pos c2).trans ((if_neg c3).trans ((if_neg c4).trans ((if_neg c5).trans ((if_neg c6).trans ((if_neg c7).trans ((if_neg c8).trans ((if_pos c9)))))))))).symm, ht_⟩) (fun _ h_ => nomatch h_) d_P_isList_68
                  · skip
                    refine lv_iload hx hb d_P_isList_56 (lv_at hl 3 rfl) ?_
                    refine lv_iload hx hb d_P_isList_58 (lv_at hl 0 rfl) ?_
                    refine lv_ishr hx hb d_P_isList_60 ?_
                    refine lv_iconst (v := 1) hx hb d_P_isList_61 (by decide) ?_
                    refine lv_iand hx hb d_P_isList_62 ?_
                    refine lv_iconst (v := 1) hx hb d_P_isList_63 (by decide) ?_
                    refine lv_icmp_ne (tgt := 69) hx hb d_P_isList_64 (by decide) (fun c10 => ?_) (fun c10 => ?_)
                    · skip
                      refine lv_iload hx hb d_P_isList_69 (lv_at hl 3 rfl) ?_
                      refine lv_iconst (v := 1) hx hb d_P_isList_71 (by decide) ?_
                      refine lv_iload hx hb d_P_isList_72 (lv_at hl 0 rfl) ?_
                      refine lv_ishl hx hb d_P_isList_74 ?_
                      refine lv_ior hx hb d_P_isList_75 ?_
                      refine lv_istore (lv' := [(4, .int (((0 : Int32) ||| ((1 : Int32) <<< ((x0 &&& (7 : Int64)).toInt32 &&& 31))) ||| ((1 : Int32) <<< (((xb_lshr x0 (3 : Int32)) &&& (7 : Int64)).toInt32 &&& 31)))), (6, .int (((xb_lshr x0 (3 : Int32)) &&& (7 : Int64)).toInt32)), (5, .int (1 : Int32)), (2, .long (xb_lshr x0 (3 : Int32))), (0, .long x0)]) hx hb d_P_isList_76 hl (by decide) rfl (fun ls hl => ?_)
                      refine lv_lload_n hx hb d_P_isList_78 rfl (lv_at hl 3 rfl) ?_
                      refine lv_iconst (v := 3) hx hb d_P_isList_79 (by decide) ?_
                      refine lv_lshr (v := (xb_lshr (xb_lshr x0 (3 : Int32)) (3 : Int32))) hx hb d_P_isList_80 rfl ?_
                      refine lv_lstore_n (lv' := [(2, .long (xb_lshr (xb_lshr x0 (3 : Int32)) (3 : Int32))), (4, .int (((0 : Int32) ||| ((1 : Int32) <<< ((x0 &&& (7 : Int64)).toInt32 &&& 31))) ||| ((1 : Int32) <<< (((xb_lshr x0 (3 : Int32)) &&& (7 : Int64)).toInt32 &&& 31)))), (6, .int (((xb_lshr x0 (3 : Int32)) &&& (7 : Int64)).toInt32)), (5, .int (1 : Int32)), (0, .long x0)]) hx hb d_P_isList_81 rfl hl (by decide) rfl (fun ls hl => ?_)
                      refine lv_iinc (v := (2 : Int32)) (k := 3) (lv' := [(5, .int (2 : Int32)), (2, .long (xb_lshr (xb_lshr x0 (3 : Int32)) (3 : Int32))), (4, .int (((0 : Int32) ||| ((1 : Int32) <<< ((x0 &&& (7 : Int64)).toInt32 &&& 31))) ||| ((1 : Int32) <<< (((xb_lshr x0 (3 : Int32)) &&& (7 : Int64)).toInt32 &&& 31)))), (6, .int (((xb_lshr x0 (3 : Int32)) &&& (7 : Int64)).toInt32)), (0, .long x0)]) hx hb d_P_isList_82 hl rfl (by decide) (by decide) rfl (fun ls hl => ?_)
                      refine lv_goto (tgt := 24) hx hb d_P_isList_85 (by decide) ?_
                      refine lv_iload hx hb d_P_isList_24 (lv_at hl 0 rfl) ?_
                      refine lv_iconst (v := 3) hx hb d_P_isList_26 (by decide) ?_
                      refine lv_icmp_ge (tgt := 88) hx hb d_P_isList_27 (by decide) (fun h_ => absurd h_ (by decide)) (fun _ => ?_)
                      refine lv_lload_n hx hb d_P_isList_30 rfl (lv_at hl 1 rfl) ?_
                      refine lv_lconst (v := 0) hx hb d_P_isList_31 (by decide) ?_
                      refine xb_leq (tgt := 88) hx hb d_P_isList_32 d_P_isList_33 (by decide) (fun c11 => ?_) (fun c11 => ?_)
                      · skip
                        refine lv_iconst (v := 1) hx hb d_P_isList_88 (by decide) ?_
                        exact W.zret (v := (1 : Int32)) hx hb hr rfl (fun t ht_ hW => ⟨_, rfl, ((if_neg c1).trans ((if_pos c2).trans ((if_neg c3).trans ((if_neg c4).trans ((if_neg c5).trans ((if_neg c6).trans ((if_neg c7).trans ((if_neg c8).trans ((if_neg c9).trans ((if_neg c10).trans ((if_pos c11)))))))))))).symm, ht_⟩) (fun _ h_ => nomatch h_) d_P_isList_89
                      · skip
                        refine lv_lload_n hx hb d_P_isList_36 rfl (lv_at hl 1 rfl) ?_
                        refine lv_ldc2 hx hb hown (ht _ xw348) d_P_isList_37 ?_
                        refine lv_land hx hb d_P_isList_40 ?_
                        refine lv_l2i (v := ((xb_lshr (xb_lshr x0 (3 : Int32)) (3 : Int32)) &&& (7 : Int64)).toInt32) hx hb d_P_isList_41 (by rfl) ?_
                        refine lv_istore (lv' := [(6, .int (((xb_lshr (xb_lshr x0 (3 : Int32)) (3 : Int32)) &&& (7 : Int64)).toInt32)), (5, .int (2 : Int32)), (2, .long (xb_lshr (xb_lshr x0 (3 : Int32)) (3 : Int32))), (4, .int (((0 : Int32) ||| ((1 : Int32) <<< ((x0 &&& (7 : Int64)).toInt32 &&& 31))) ||| ((1 : Int32) <<< (((xb_lshr x0 (3 : Int32)) &&& (7 : Int64)).toInt32 &&& 31)))), (0, .long x0)]) hx hb d_P_isList_42 hl (by decide) rfl (fun ls hl => ?_)
                        refine lv_iload hx hb d_P_isList_44 (lv_at hl 0 rfl) ?_
                        refine lv_iconst (v := 1) hx hb d_P_isList_46 (by decide) ?_
                        refine lv_icmp_lt (tgt := 67) hx hb d_P_isList_47 (by decide) (fun c12 => ?_) (fun c12 => ?_)
                        · skip
                          refine lv_iconst (v := 0) hx hb d_P_isList_67 (by decide) ?_
                          exact W.zret (v := (0 : Int32)) hx hb hr rfl (fun t ht_ hW => ⟨_, rfl, ((if_neg c1).trans ((if_pos c2).trans ((if_neg c3).trans ((if_neg c4).trans ((if_neg c5).trans ((if_neg c6).trans ((if_neg c7).trans ((if_neg c8).trans ((if_neg c9).trans ((if_neg c10).trans ((if_neg c11).trans ((if_pos c12))))))))))))).symm, ht_⟩) (fun _ h_ => nomatch h_) d_P_isList_68
                        · skip
                          refine lv_iload hx hb d_P_isList_50 (lv_at hl 0 rfl) ?_
                          refine lv_iconst (v := 4) hx hb d_P_isList_52 (by decide) ?_
                          refine lv_icmp_gt (tgt := 67) hx hb d_P_isList_53 (by decide) (fun c13 => ?_) (fun c13 => ?_)
                          · skip
                            refine lv_iconst (v := 0) hx hb d_P_isList_67 (by decide) ?_
                            exact W.zret (v := (0 : Int32)) hx hb hr rfl (fun t ht_ hW => ⟨_, rfl, ((if_neg c1).trans ((if_pos c2).trans ((if_neg c3).trans ((if_neg c4).trans ((if_neg c5).trans ((if_neg c6).trans ((if_neg c7).trans ((if_neg c8).trans ((if_neg c9).trans ((if_neg c10).trans ((if_neg c11).trans ((if_neg c12).trans ((if_pos c13)))))))))))))).symm, ht_⟩) (fun _ h_ => nomatch h_) d_P_isList_68
                          · skip
                            refine lv_iload hx hb d_P_isList_56 (lv_at hl 3 rfl) ?_
                            refine lv_iload hx hb d_P_isList_58 (lv_at hl 0 rfl) ?_
                            refine lv_ishr hx hb d_P_isList_60 ?_
                            refine lv_iconst (v := 1) hx hb d_P_isList_61 (by decide) ?_
                            refine lv_iand hx hb d_P_isList_62 ?_
                            refine lv_iconst (v := 1) hx hb d_P_isList_63 (by decide) ?_
                            refine lv_icmp_ne (tgt := 69) hx hb d_P_isList_64 (by decide) (fun c14 => ?_) (fun c14 => ?_)
                            · skip
                              refine lv_iload hx hb d_P_isList_69 (lv_at hl 3 rfl) ?_
                              refine lv_iconst (v := 1) hx hb d_P_isList_71 (by decide) ?_
                              refine lv_iload hx hb d_P_isList_72 (lv_at hl 0 rfl) ?_
                              refine lv_ishl hx hb d_P_isList_74 ?_
                              refine lv_ior hx hb d_P_isList_75 ?_
                              refine lv_istore (lv' := [(4, .int ((((0 : Int32) ||| ((1 : Int32) <<< ((x0 &&& (7 : Int64)).toInt32 &&& 31))) ||| ((1 : Int32) <<< (((xb_lshr x0 (3 : Int32)) &&& (7 : Int64)).toInt32 &&& 31))) ||| ((1 : Int32) <<< (((xb_lshr (xb_lshr x0 (3 : Int32)) (3 : Int32)) &&& (7 : Int64)).toInt32 &&& 31)))), (6, .int (((xb_lshr (xb_lshr x0 (3 : Int32)) (3 : Int32)) &&& (7 : Int64)).toInt32)), (5, .int (2 : Int32)), (2, .long (xb_lshr (xb_lshr x0 (3 : Int32)) (3 : Int32))), (0, .long x0)]) hx hb d_P_isList_76 hl (by decide) rfl (fun ls hl => ?_)
                              refine lv_lload_n hx hb d_P_isList_78 rfl (lv_at hl 3 rfl) ?_
                              refine lv_iconst (v := 3) hx hb d_P_isList_79 (by decide) ?_
                              refine lv_lshr (v := (xb_lshr (xb_lshr (xb_lshr x0 (3 : Int32)) (3 : Int32)) (3 : Int32))) hx hb d_P_isList_80 rfl ?_
                              refine lv_lstore_n (lv' := [(2, .long (xb_lshr (xb_lshr (xb_lshr x0 (3 : Int32)) (3 : Int32)) (3 : Int32))), (4, .int ((((0 : Int32) ||| ((1 : Int32) <<< ((x0 &&& (7 : Int64)).toInt32 &&& 31))) ||| ((1 : Int32) <<< (((xb_lshr x0 (3 : Int32)) &&& (7 : Int64)).toInt32 &&& 31))) ||| ((1 : Int32) <<< (((xb_lshr (xb_lshr x0 (3 : Int32)) (3 : Int32)) &&& (7 : Int64)).toInt32 &&& 31)))), (6, .int (((xb_lshr (xb_lshr x0 (3 : Int32)) (3 : Int32)) &&& (7 : Int64)).toInt32)), (5, .int (2 : Int32)), (0, .long x0)]) hx hb d_P_isList_81 rfl hl (by decide) rfl (fun ls hl => ?_)
                              refine lv_iinc (v := (3 : Int32)) (k := 3) (lv' := [(5, .int (3 : Int32)), (2, .long (xb_lshr (xb_lshr (xb_lshr x0 (3 : Int32)) (3 : Int32)) (3 : Int32))), (4, .int ((((0 : Int32) ||| ((1 : Int32) <<< ((x0 &&& (7 : Int64)).toInt32 &&& 31))) ||| ((1 : Int32) <<< (((xb_lshr x0 (3 : Int32)) &&& (7 : Int64)).toInt32 &&& 31))) ||| ((1 : Int32) <<< (((xb_lshr (xb_lshr x0 (3 : Int32)) (3 : Int32)) &&& (7 : Int64)).toInt32 &&& 31)))), (6, .int (((xb_lshr (xb_lshr x0 (3 : Int32)) (3 : Int32)) &&& (7 : Int64)).toInt32)), (0, .long x0)]) hx hb d_P_isList_82 hl rfl (by decide) (by decide) rfl (fun ls hl => ?_)
                              refine lv_goto (tgt := 24) hx hb d_P_isList_85 (by decide) ?_
                              refine lv_iload hx hb d_P_isList_24 (lv_at hl 0 rfl) ?_
                              refine lv_iconst (v := 3) hx hb d_P_isList_26 (by decide) ?_
                              refine lv_icmp_ge (tgt := 88) hx hb d_P_isList_27 (by decide) (fun _ => ?_) (fun h_ => absurd h_ (by decide))
                              refine lv_iconst (v := 1) hx hb d_P_isList_88 (by decide) ?_
                              exact W.zret (v := (1 : Int32)) hx hb hr rfl (fun t ht_ hW => ⟨_, rfl, ((if_neg c1).trans ((if_pos c2).trans ((if_neg c3).trans ((if_neg c4).trans ((if_neg c5).trans ((if_neg c6).trans ((if_neg c7).trans ((if_neg c8).trans ((if_neg c9).trans ((if_neg c10).trans ((if_neg c11).trans ((if_neg c12).trans ((if_neg c13).trans ((if_neg c14))))))))))))))).symm, ht_⟩) (fun _ h_ => nomatch h_) d_P_isList_89
                            · skip
                              refine lv_iconst (v := 0) hx hb d_P_isList_67 (by decide) ?_
                              exact W.zret (v := (0 : Int32)) hx hb hr rfl (fun t ht_ hW => ⟨_, rfl, ((if_neg c1).trans ((if_pos c2).trans ((if_neg c3).trans ((if_neg c4).trans ((if_neg c5).trans ((if_neg c6).trans ((if_neg c7).trans ((if_neg c8).trans ((if_neg c9).trans ((if_neg c10).trans ((if_neg c11).trans ((if_neg c12).trans ((if_neg c13).trans ((if_pos c14))))))))))))))).symm, ht_⟩) (fun _ h_ => nomatch h_) d_P_isList_68
                    · skip
                      refine lv_iconst (v := 0) hx hb d_P_isList_67 (by decide) ?_
                      exact W.zret (v := (0 : Int32)) hx hb hr rfl (fun t ht_ hW => ⟨_, rfl, ((if_neg c1).trans ((if_pos c2).trans ((if_neg c3).trans ((if_neg c4).trans ((if_neg c5).trans ((if_neg c6).trans ((if_neg c7).trans ((if_neg c8).trans ((if_neg c9).trans ((if_pos c10))))))))))).symm, ht_⟩) (fun _ h_ => nomatch h_) d_P_isList_68
            · skip
              refine lv_iconst (v := 0) hx hb d_P_isList_67 (by decide) ?_
              exact W.zret (v := (0 : Int32)) hx hb hr rfl (fun t ht_ hW => ⟨_, rfl, ((if_neg c1).trans ((if_pos c2).trans ((if_neg c3).trans ((if_neg c4).trans ((if_neg c5).trans ((if_pos c6))))))).symm, ht_⟩) (fun _ h_ => nomatch h_) d_P_isList_68
    · skip
      refine lv_iconst (v := 0) hx hb d_P_isList_14 (by decide) ?_
      exact W.zret (v := (0 : Int32)) hx hb hr rfl (fun t ht_ hW => ⟨_, rfl, ((if_neg c1).trans ((if_neg c2))).symm, ht_⟩) (fun _ h_ => nomatch h_) d_P_isList_15
abbrev b_P_firstShared : ByteArray := prog_1_method_35_code
def y_P_firstShared : MethodName := ⟨"SecurePair", "firstShared", "(JJ)I"⟩
abbrev w_P_firstShared : List Cond := .code y_P_firstShared b_P_firstShared 6 (some .int) :: xa
theorem d_P_firstShared_0 : decode b_P_firstShared 0 = .ok (.lload_n 0, 1) := by decide +kernel
theorem d_P_firstShared_1 : decode b_P_firstShared 1 = .ok (.invokestatic 32, 3) := by decide +kernel
theorem d_P_firstShared_4 : decode b_P_firstShared 4 = .ok (.ifCond .eq 10, 3) := by decide +kernel
theorem d_P_firstShared_7 : decode b_P_firstShared 7 = .ok (.lload_n 2, 1) := by decide +kernel
theorem d_P_firstShared_8 : decode b_P_firstShared 8 = .ok (.invokestatic 32, 3) := by decide +kernel
theorem d_P_firstShared_11 : decode b_P_firstShared 11 = .ok (.ifCond .ne 5, 3) := by decide +kernel
theorem d_P_firstShared_14 : decode b_P_firstShared 14 = .ok (.iconst 0, 1) := by decide +kernel
theorem d_P_firstShared_15 : decode b_P_firstShared 15 = .ok (.ireturn, 1) := by decide +kernel
theorem d_P_firstShared_16 : decode b_P_firstShared 16 = .ok (.iconst 0, 1) := by decide +kernel
theorem d_P_firstShared_17 : decode b_P_firstShared 17 = .ok (.istore 4, 2) := by decide +kernel
theorem d_P_firstShared_19 : decode b_P_firstShared 19 = .ok (.iload 4, 2) := by decide +kernel
theorem d_P_firstShared_21 : decode b_P_firstShared 21 = .ok (.iconst 3, 1) := by decide +kernel
theorem d_P_firstShared_22 : decode b_P_firstShared 22 = .ok (.if_icmp .ge 40, 3) := by decide +kernel
theorem d_P_firstShared_25 : decode b_P_firstShared 25 = .ok (.lload_n 0, 1) := by decide +kernel
theorem d_P_firstShared_26 : decode b_P_firstShared 26 = .ok (.iconst 3, 1) := by decide +kernel
theorem d_P_firstShared_27 : decode b_P_firstShared 27 = .ok (.iload 4, 2) := by decide +kernel
theorem d_P_firstShared_29 : decode b_P_firstShared 29 = .ok (.imul, 1) := by decide +kernel
theorem d_P_firstShared_30 : decode b_P_firstShared 30 = .ok (.lshr, 1) := by decide +kernel
theorem d_P_firstShared_31 : decode b_P_firstShared 31 = .ok (.ldc2_w 55, 3) := by decide +kernel
theorem d_P_firstShared_34 : decode b_P_firstShared 34 = .ok (.land, 1) := by decide +kernel
theorem d_P_firstShared_35 : decode b_P_firstShared 35 = .ok (.l2i, 1) := by decide +kernel
theorem d_P_firstShared_36 : decode b_P_firstShared 36 = .ok (.istore 5, 2) := by decide +kernel
theorem d_P_firstShared_38 : decode b_P_firstShared 38 = .ok (.iload 5, 2) := by decide +kernel
theorem d_P_firstShared_40 : decode b_P_firstShared 40 = .ok (.ifCond .eq 16, 3) := by decide +kernel
theorem d_P_firstShared_43 : decode b_P_firstShared 43 = .ok (.lload_n 2, 1) := by decide +kernel
theorem d_P_firstShared_44 : decode b_P_firstShared 44 = .ok (.iload 5, 2) := by decide +kernel
theorem d_P_firstShared_46 : decode b_P_firstShared 46 = .ok (.i2l, 1) := by decide +kernel
theorem d_P_firstShared_47 : decode b_P_firstShared 47 = .ok (.invokestatic 231, 3) := by decide +kernel
theorem d_P_firstShared_50 : decode b_P_firstShared 50 = .ok (.ifCond .eq 6, 3) := by decide +kernel
theorem d_P_firstShared_53 : decode b_P_firstShared 53 = .ok (.iload 5, 2) := by decide +kernel
theorem d_P_firstShared_55 : decode b_P_firstShared 55 = .ok (.ireturn, 1) := by decide +kernel
theorem d_P_firstShared_56 : decode b_P_firstShared 56 = .ok (.iinc 4 1, 3) := by decide +kernel
theorem d_P_firstShared_59 : decode b_P_firstShared 59 = .ok (.goto (-40), 3) := by decide +kernel
theorem d_P_firstShared_62 : decode b_P_firstShared 62 = .ok (.iconst 0, 1) := by decide +kernel
theorem d_P_firstShared_63 : decode b_P_firstShared 63 = .ok (.ireturn, 1) := by decide +kernel
theorem xw344 : (Cond.methodLink "SecurePair" (32 : Nat) ({ cls := "SecurePair", name := "isList", desc := "(J)Z" } : MethodName)) ∈ xa := xa_t 344 (by decide +kernel) (by decide +kernel)
theorem xw345 : (Cond.static ({ cls := "SecurePair", name := "isList", desc := "(J)Z" } : MethodName)) ∈ xa := xa_t 345 (by decide +kernel) (by decide +kernel)
theorem xw346 : (Cond.code ({ cls := "SecurePair", name := "isList", desc := "(J)Z" } : MethodName) prog_1_method_33_code (7 : Nat) (Option.some ClassFile.FieldType.boolean)) ∈ xa := xa_t 346 (by decide +kernel) (by decide +kernel)
theorem xw670 : (Cond.methodLink "SecurePair" (231 : Nat) ({ cls := "SecurePair", name := "contains", desc := "(JJ)Z" } : MethodName)) ∈ xa := xa_t 670 (by decide +kernel) (by decide +kernel)
theorem xw671 : (Cond.static ({ cls := "SecurePair", name := "contains", desc := "(JJ)Z" } : MethodName)) ∈ xa := xa_t 671 (by decide +kernel) (by decide +kernel)
theorem xw672 : (Cond.code ({ cls := "SecurePair", name := "contains", desc := "(JJ)Z" } : MethodName) prog_1_method_34_code (5 : Nat) (Option.some ClassFile.FieldType.boolean)) ∈ xa := xa_t 672 (by decide +kernel) (by decide +kernel)
def f_first (x0 : Int64) (x1 : Int64) : Int32 := (if (f_isList x0) = 0 then (0 : Int32) else (if (f_isList x1) = 0 then (0 : Int32) else (if ((xb_lshr x0 (0 : Int32)) &&& (7 : Int64)).toInt32 = 0 then (if ((xb_lshr x0 (3 : Int32)) &&& (7 : Int64)).toInt32 = 0 then (if ((xb_lshr x0 (6 : Int32)) &&& (7 : Int64)).toInt32 = 0 then (0 : Int32) else (if (f_contains x1 ((((xb_lshr x0 (6 : Int32)) &&& (7 : Int64)).toInt32).toInt64)) = 0 then (0 : Int32) else ((xb_lshr x0 (6 : Int32)) &&& (7 : Int64)).toInt32)) else (if (f_contains x1 ((((xb_lshr x0 (3 : Int32)) &&& (7 : Int64)).toInt32).toInt64)) = 0 then (if ((xb_lshr x0 (6 : Int32)) &&& (7 : Int64)).toInt32 = 0 then (0 : Int32) else (if (f_contains x1 ((((xb_lshr x0 (6 : Int32)) &&& (7 : Int64)).toInt32).toInt64)) = 0 then (0 : Int32) else ((xb_lshr x0 (6 : Int32)) &&& (7 : Int64)).toInt32)) else ((xb_lshr x0 (3 : Int32)) &&& (7 : Int64)).toInt32)) else (if (f_contains x1 ((((xb_lshr x0 (0 : Int32)) &&& (7 : Int64)).toInt32).toInt64)) = 0 then (if ((xb_lshr x0 (3 : Int32)) &&& (7 : Int64)).toInt32 = 0 then (if ((xb_lshr x0 (6 : Int32)) &&& (7 : Int64)).toInt32 = 0 then (0 : Int32) else (if (f_contains x1 ((((xb_lshr x0 (6 : Int32)) &&& (7 : Int64)).toInt32).toInt64)) = 0 then (0 : Int32) else ((xb_lshr x0 (6 : Int32)) &&& (7 : Int64)).toInt32)) else (if (f_contains x1 ((((xb_lshr x0 (3 : Int32)) &&& (7 : Int64)).toInt32).toInt64)) = 0 then (if ((xb_lshr x0 (6 : Int32)) &&& (7 : Int64)).toInt32 = 0 then (0 : Int32) else (if (f_contains x1 ((((xb_lshr x0 (6 : Int32)) &&& (7 : Int64)).toInt32).toInt64)) = 0 then (0 : Int32) else ((xb_lshr x0 (6 : Int32)) &&& (7 : Int64)).toInt32)) else ((xb_lshr x0 (3 : Int32)) &&& (7 : Int64)).toInt32)) else ((xb_lshr x0 (0 : Int32)) &&& (7 : Int64)).toInt32))))
set_option maxHeartbeats 4000000 in
set_option maxRecDepth 100000 in
theorem c_P_firstShared (l : Launch) (x0 : Int64) (x1 : Int64) : Met l y_P_firstShared w_P_firstShared ({ frames := 1, cells := 0, slots := 0, locals := 26 }) (fun av_ _ => av_ = ([.long x0, .long x1] : List Value).toArray) (vp_Si (fun r => r = f_first x0 x1)) 0 0 (fun _ => False) := by
  refine Met.ofW (cc := b_P_firstShared) (maxL := 6) (ret := (some .int)) (by decide) rfl ?_
  intro p e s m args below meth c s₁ B hml hv
  subst hv
  have hx := B.exec
  have hb := B.bytes
  have hr := B.returns
  have hts := atoms_spec (ws := w_P_firstShared) B.pre
  have ht : ∀ w ∈ xa, w.before _ s = true := fun w h => hts w (List.mem_cons_of_mem _ h)
  have hown : s.vm.findClass "SecurePair" = some m.cls := findClass_of_methodNamed B.named
  have hlocks := B.notSynchronized
  have hl := lv_entry ([.long x0, .long x1]) (n := 6) (Nat.le_of_ble_eq_true rfl)
  rw [lg_entry_eq]
  generalize (lg_sl ([.long x0, .long x1]) ++ List.replicate (6 - (lg_sl ([.long x0, .long x1])).length) Slot.unset).toArray = ls at hl ⊢
  have hl : lv_has ls 6 [(0, .long x0), (2, .long x1)] := hl
  refine lv_lload_n hx hb d_P_firstShared_0 rfl (lv_at hl 0 rfl) ?_
  refine vp_callSi (W.runS (As := [.long x0]) (rest := []) ⟨hx, hb, hml, hown, hts⟩ (c_P_isList l x0) (cwS 1 hts (xa_S xw344 xw345 xw1 xw346) rfl rfl rfl (by decide +kernel) ⟨Nat.le_of_ble_eq_true rfl, Nat.le_of_ble_eq_true rfl⟩) preEq rfl rfl hl.1 rfl (lv_room (Nat.le_of_ble_eq_true rfl)) d_P_firstShared_1 ⟨Nat.le_of_ble_eq_true rfl, Nat.le_of_ble_eq_true rfl⟩) (fun r_ e_ => ?_)
  subst e_
  refine lv_if_eq (tgt := 14) hx hb d_P_firstShared_4 (by decide) (fun c1 => ?_) (fun c1 => ?_)
  · skip
    refine lv_iconst (v := 0) hx hb d_P_firstShared_14 (by decide) ?_
    exact W.iret (v := (0 : Int32)) hx hb hr (fun t ht_ hW => ⟨_, rfl, ((if_pos c1)).symm, ht_⟩) (fun _ h_ => nomatch h_) d_P_firstShared_15
  · skip
    refine lv_lload_n hx hb d_P_firstShared_7 rfl (lv_at hl 1 rfl) ?_
    refine vp_callSi (W.runS (As := [.long x1]) (rest := []) ⟨hx, hb, hml, hown, hts⟩ (c_P_isList l x1) (cwS 1 hts (xa_S xw344 xw345 xw1 xw346) rfl rfl rfl (by decide +kernel) ⟨Nat.le_of_ble_eq_true rfl, Nat.le_of_ble_eq_true rfl⟩) preEq rfl rfl hl.1 rfl (lv_room (Nat.le_of_ble_eq_true rfl)) d_P_firstShared_8 ⟨Nat.le_of_ble_eq_true rfl, Nat.le_of_ble_eq_true rfl⟩) (fun r_ e_ => ?_)
    subst e_
    refine lv_if_ne (tgt := 16) hx hb d_P_firstShared_11 (by decide) (fun c2 => ?_) (fun c2 => ?_)
    · skip
      refine lv_iconst (v := 0) hx hb d_P_firstShared_16 (by decide) ?_
      refine lv_istore (lv' := [(4, .int (0 : Int32)), (0, .long x0), (2, .long x1)]) hx hb d_P_firstShared_17 hl (by decide) rfl (fun ls hl => ?_)
      refine lv_iload hx hb d_P_firstShared_19 (lv_at hl 0 rfl) ?_
      refine lv_iconst (v := 3) hx hb d_P_firstShared_21 (by decide) ?_
      refine lv_icmp_ge (tgt := 62) hx hb d_P_firstShared_22 (by decide) (fun h_ => absurd h_ (by decide)) (fun _ => ?_)
      refine lv_lload_n hx hb d_P_firstShared_25 rfl (lv_at hl 1 rfl) ?_
      refine lv_iconst (v := 3) hx hb d_P_firstShared_26 (by decide) ?_
      refine lv_iload hx hb d_P_firstShared_27 (lv_at hl 0 rfl) ?_
      refine lv_imul hx hb d_P_firstShared_29 ?_
      refine xb_ti (y := (0 : Int32)) (by decide) ?_
      refine lv_lshr (v := (xb_lshr x0 (0 : Int32))) hx hb d_P_firstShared_30 rfl ?_
      refine lv_ldc2 hx hb hown (ht _ xw348) d_P_firstShared_31 ?_
      refine lv_land hx hb d_P_firstShared_34 ?_
      refine lv_l2i (v := ((xb_lshr x0 (0 : Int32)) &&& (7 : Int64)).toInt32) hx hb d_P_firstShared_35 (by rfl) ?_
      refine lv_istore (lv' := [(5, .int (((xb_lshr x0 (0 : Int32)) &&& (7 : Int64)).toInt32)), (4, .int (0 : Int32)), (0, .long x0), (2, .long x1)]) hx hb d_P_firstShared_36 hl (by decide) rfl (fun ls hl => ?_)
      refine lv_iload hx hb d_P_firstShared_38 (lv_at hl 0 rfl) ?_
      refine lv_if_eq (tgt := 56) hx hb d_P_firstShared_40 (by decide) (fun c3 => ?_) (fun c3 => ?_)
      · skip
        refine lv_iinc (v := (1 : Int32)) (k := 1) (lv' := [(4, .int (1 : Int32)), (5, .int (((xb_lshr x0 (0 : Int32)) &&& (7 : Int64)).toInt32)), (0, .long x0), (2, .long x1)]) hx hb d_P_firstShared_56 hl rfl (by decide) (by decide) rfl (fun ls hl => ?_)
        refine lv_goto (tgt := 19) hx hb d_P_firstShared_59 (by decide) ?_
        refine lv_iload hx hb d_P_firstShared_19 (lv_at hl 0 rfl) ?_
        refine lv_iconst (v := 3) hx hb d_P_firstShared_21 (by decide) ?_
        refine lv_icmp_ge (tgt := 62) hx hb d_P_firstShared_22 (by decide) (fun h_ => absurd h_ (by decide)) (fun _ => ?_)
        refine lv_lload_n hx hb d_P_firstShared_25 rfl (lv_at hl 2 rfl) ?_
        refine lv_iconst (v := 3) hx hb d_P_firstShared_26 (by decide) ?_
        refine lv_iload hx hb d_P_firstShared_27 (lv_at hl 0 rfl) ?_
        refine lv_imul hx hb d_P_firstShared_29 ?_
        refine xb_ti (y := (3 : Int32)) (by decide) ?_
        refine lv_lshr (v := (xb_lshr x0 (3 : Int32))) hx hb d_P_firstShared_30 rfl ?_
        refine lv_ldc2 hx hb hown (ht _ xw348) d_P_firstShared_31 ?_
        refine lv_land hx hb d_P_firstShared_34 ?_
        refine lv_l2i (v := ((xb_lshr x0 (3 : Int32)) &&& (7 : Int64)).toInt32) hx hb d_P_firstShared_35 (by rfl) ?_
        refine lv_istore (lv' := [(5, .int (((xb_lshr x0 (3 : Int32)) &&& (7 : Int64)).toInt32)), (4, .int (1 : Int32)), (0, .long x0), (2, .long x1)]) hx hb d_P_firstShared_36 hl (by decide) rfl (fun ls hl => ?_)
        refine lv_iload hx hb d_P_firstShared_38 (lv_at hl 0 rfl) ?_
        refine lv_if_eq (tgt := 56) hx hb d_P_firstShared_40 (by decide) (fun c4 => ?_) (fun c4 => ?_)
        · skip
          refine lv_iinc (v := (2 : Int32)) (k := 1) (lv' := [(4, .int (2 : Int32)), (5, .int (((xb_lshr x0 (3 : Int32)) &&& (7 : Int64)).toInt32)), (0, .long x0), (2, .long x1)]) hx hb d_P_firstShared_56 hl rfl (by decide) (by decide) rfl (fun ls hl => ?_)
          refine lv_goto (tgt := 19) hx hb d_P_firstShared_59 (by decide) ?_
          refine lv_iload hx hb d_P_firstShared_19 (lv_at hl 0 rfl) ?_
          refine lv_iconst (v := 3) hx hb d_P_firstShared_21 (by decide) ?_
          refine lv_icmp_ge (tgt := 62) hx hb d_P_firstShared_22 (by decide) (fun h_ => absurd h_ (by decide)) (fun _ => ?_)
          refine lv_lload_n hx hb d_P_firstShared_25 rfl (lv_at hl 2 rfl) ?_
          refine lv_iconst (v := 3) hx hb d_P_firstShared_26 (by decide) ?_
          refine lv_iload hx hb d_P_firstShared_27 (lv_at hl 0 rfl) ?_
          refine lv_imul hx hb d_P_firstShared_29 ?_
          refine xb_ti (y := (6 : Int32)) (by decide) ?_
          refine lv_lshr (v := (xb_lshr x0 (6 : Int32))) hx hb d_P_firstShared_30 rfl ?_
          refine lv_ldc2 hx hb hown (ht _ xw348) d_P_firstShared_31 ?_
          refine lv_land hx hb d_P_firstShared_34 ?_
          refine lv_l2i (v := ((xb_lshr x0 (6 : Int32)) &&& (7 : Int64)).toInt32) hx hb d_P_firstShared_35 (by rfl) ?_
          refine lv_istore (lv' := [(5, .int (((xb_lshr x0 (6 : Int32)) &&& (7 : Int64)).toInt32)), (4, .int (2 : Int32)), (0, .long x0), (2, .long x1)]) hx hb d_P_firstShared_36 hl (by decide) rfl (fun ls hl => ?_)
          refine lv_iload hx hb d_P_firstShared_38 (lv_at hl 0 rfl) ?_
          refine lv_if_eq (tgt := 56) hx hb d_P_firstShared_40 (by decide) (fun c5 => ?_) (fun c5 => ?_)
          · skip
            refine lv_iinc (v := (3 : Int32)) (k := 1) (lv' := [(4, .int (3 : Int32)), (5, .int (((xb_lshr x0 (6 : Int32)) &&& (7 : Int64)).toInt32)), (0, .long x0), (2, .long x1)]) hx hb d_P_firstShared_56 hl rfl (by decide) (by decide) rfl (fun ls hl => ?_)
            refine lv_goto (tgt := 19) hx hb d_P_firstShared_59 (by decide) ?_
            refine lv_iload hx hb d_P_firstShared_19 (lv_at hl 0 rfl) ?_
            refine lv_iconst (v := 3) hx hb d_P_firstShared_21 (by decide) ?_
            refine lv_icmp_ge (tgt := 62) hx hb d_P_firstShared_22 (by decide) (fun _ => ?_) (fun h_ => absurd h_ (by decide))
            refine lv_iconst (v := 0) hx hb d_P_firstShared_62 (by decide) ?_
            exact W.iret (v := (0 : Int32)) hx hb hr (fun t ht_ hW => ⟨_, rfl, ((if_neg c1).trans ((if_neg c2).trans ((if_pos c3).trans ((if_pos c4).trans ((if_pos c5)))))).symm, ht_⟩) (fun _ h_ => nomatch h_) d_P_firstShared_63
          · skip
            refine lv_lload_n hx hb d_P_firstShared_43 rfl (lv_at hl 3 rfl) ?_
            refine lv_iload hx hb d_P_firstShared_44 (lv_at hl 0 rfl) ?_
            refine lv_i2l (v := (((xb_lshr x0 (6 : Int32)) &&& (7 : Int64)).toInt32).toInt64) hx hb d_P_firstShared_46 (by rfl) ?_
            refine vp_callSi (W.runS (As := [.long x1, .long ((((xb_lshr x0 (6 : Int32)) &&& (7 : Int64)).toInt32).toInt64)]) (rest := []) ⟨hx, hb, hml, hown, hts⟩ (c_P_contains l x1 ((((xb_lshr x0 (6 : Int32)) &&& (7 : Int64)).toInt32).toInt64)) (cwS 2 hts (xa_S xw670 xw671 xw1 xw672) rfl rfl rfl (by decide +kernel) ⟨Nat.le_of_ble_eq_true rfl, Nat.le_of_ble_eq_true rfl⟩) preEq rfl rfl hl.1 rfl (lv_room (Nat.le_of_ble_eq_true rfl)) d_P_firstShared_47 ⟨Nat.le_of_ble_eq_true rfl, Nat.le_of_ble_eq_true rfl⟩) (fun r_ e_ => ?_)
            subst e_
            refine lv_if_eq (tgt := 56) hx hb d_P_firstShared_50 (by decide) (fun c6 => ?_) (fun c6 => ?_)
            · skip
              refine lv_iinc (v := (3 : Int32)) (k := 1) (lv' := [(4, .int (3 : Int32)), (5, .int (((xb_lshr x0 (6 : Int32)) &&& (7 : Int64)).toInt32)), (0, .long x0), (2, .long x1)]) hx hb d_P_firstShared_56 hl rfl (by decide) (by decide) rfl (fun ls hl => ?_)
              refine lv_goto (tgt := 19) hx hb d_P_firstShared_59 (by decide) ?_
              refine lv_iload hx hb d_P_firstShared_19 (lv_at hl 0 rfl) ?_
              refine lv_iconst (v := 3) hx hb d_P_firstShared_21 (by decide) ?_
              refine lv_icmp_ge (tgt := 62) hx hb d_P_firstShared_22 (by decide) (fun _ => ?_) (fun h_ => absurd h_ (by decide))
              refine lv_iconst (v := 0) hx hb d_P_firstShared_62 (by decide) ?_
              exact W.iret (v := (0 : Int32)) hx hb hr (fun t ht_ hW => ⟨_, rfl, ((if_neg c1).trans ((if_neg c2).trans ((if_pos c3).trans ((if_pos c4).trans ((if_neg c5).trans ((if_pos c6))))))).symm, ht_⟩) (fun _ h_ => nomatch h_) d_P_firstShared_63
            · skip
              refine lv_iload hx hb d_P_firstShared_53 (lv_at hl 0 rfl) ?_
              exact W.iret (v := ((xb_lshr x0 (6 : Int32)) &&& (7 : Int64)).toInt32) hx hb hr (fun t ht_ hW => ⟨_, rfl, ((if_neg c1).trans ((if_neg c2).trans ((if_pos c3).trans ((if_pos c4).trans ((if_neg c5).trans ((if_neg c6))))))).symm, ht_⟩) (fun _ h_ => nomatch h_) d_P_firstShared_55
        · skip
          refine lv_lload_n hx hb d_P_firstShared_43 rfl (lv_at hl 3 rfl) ?_
          refine lv_iload hx hb d_P_firstShared_44 (lv_at hl 0 rfl) ?_
          refine lv_i2l (v := (((xb_lshr x0 (3 : Int32)) &&& (7 : Int64)).toInt32).toInt64) hx hb d_P_firstShared_46 (by rfl) ?_
          refine vp_callSi (W.runS (As := [.long x1, .long ((((xb_lshr x0 (3 : Int32)) &&& (7 : Int64)).toInt32).toInt64)]) (rest := []) ⟨hx, hb, hml, hown, hts⟩ (c_P_contains l x1 ((((xb_lshr x0 (3 : Int32)) &&& (7 : Int64)).toInt32).toInt64)) (cwS 2 hts (xa_S xw670 xw671 xw1 xw672) rfl rfl rfl (by decide +kernel) ⟨Nat.le_of_ble_eq_true rfl, Nat.le_of_ble_eq_true rfl⟩) preEq rfl rfl hl.1 rfl (lv_room (Nat.le_of_ble_eq_true rfl)) d_P_firstShared_47 ⟨Nat.le_of_ble_eq_true rfl, Nat.le_of_ble_eq_true rfl⟩) (fun r_ e_ => ?_)
          subst e_
          refine lv_if_eq (tgt := 56) hx hb d_P_firstShared_50 (by decide) (fun c7 => ?_) (fun c7 => ?_)
          · skip
            refine lv_iinc (v := (2 : Int32)) (k := 1) (lv' := [(4, .int (2 : Int32)), (5, .int (((xb_lshr x0 (3 : Int32)) &&& (7 : Int64)).toInt32)), (0, .long x0), (2, .long x1)]) hx hb d_P_firstShared_56 hl rfl (by decide) (by decide) rfl (fun ls hl => ?_)
            refine lv_goto (tgt := 19) hx hb d_P_firstShared_59 (by decide) ?_
            refine lv_iload hx hb d_P_firstShared_19 (lv_at hl 0 rfl) ?_
            refine lv_iconst (v := 3) hx hb d_P_firstShared_21 (by decide) ?_
            refine lv_icmp_ge (tgt := 62) hx hb d_P_firstShared_22 (by decide) (fun h_ => absurd h_ (by decide)) (fun _ => ?_)
            refine lv_lload_n hx hb d_P_firstShared_25 rfl (lv_at hl 2 rfl) ?_
            refine lv_iconst (v := 3) hx hb d_P_firstShared_26 (by decide) ?_
            refine lv_iload hx hb d_P_firstShared_27 (lv_at hl 0 rfl) ?_
            refine lv_imul hx hb d_P_firstShared_29 ?_
            refine xb_ti (y := (6 : Int32)) (by decide) ?_
            refine lv_lshr (v := (xb_lshr x0 (6 : Int32))) hx hb d_P_firstShared_30 rfl ?_
            refine lv_ldc2 hx hb hown (ht _ xw348) d_P_firstShared_31 ?_
            refine lv_land hx hb d_P_firstShared_34 ?_
            refine lv_l2i (v := ((xb_lshr x0 (6 : Int32)) &&& (7 : Int64)).toInt32) hx hb d_P_firstShared_35 (by rfl) ?_
            refine lv_istore (lv' := [(5, .int (((xb_lshr x0 (6 : Int32)) &&& (7 : Int64)).toInt32)), (4, .int (2 : Int32)), (0, .long x0), (2, .long x1)]) hx hb d_P_firstShared_36 hl (by decide) rfl (fun ls hl => ?_)
            refine lv_iload hx hb d_P_firstShared_38 (lv_at hl 0 rfl) ?_
            refine lv_if_eq (tgt := 56) hx hb d_P_firstShared_40 (by decide) (fun c8 => ?_) (fun c8 => ?_)
            · skip
              refine lv_iinc (v := (3 : Int32)) (k := 1) (lv' := [(4, .int (3 : Int32)), (5, .int (((xb_lshr x0 (6 : Int32)) &&& (7 : Int64)).toInt32)), (0, .long x0), (2, .long x1)]) hx hb d_P_firstShared_56 hl rfl (by decide) (by decide) rfl (fun ls hl => ?_)
              refine lv_goto (tgt := 19) hx hb d_P_firstShared_59 (by decide) ?_
              refine lv_iload hx hb d_P_firstShared_19 (lv_at hl 0 rfl) ?_
              refine lv_iconst (v := 3) hx hb d_P_firstShared_21 (by decide) ?_
              refine lv_icmp_ge (tgt := 62) hx hb d_P_firstShared_22 (by decide) (fun _ => ?_) (fun h_ => absurd h_ (by decide))
              refine lv_iconst (v := 0) hx hb d_P_firstShared_62 (by decide) ?_
              exact W.iret (v := (0 : Int32)) hx hb hr (fun t ht_ hW => ⟨_, rfl, ((if_neg c1).trans ((if_neg c2).trans ((if_pos c3).trans ((if_neg c4).trans ((if_pos c7).trans ((if_pos c8))))))).symm, ht_⟩) (fun _ h_ => nomatch h_) d_P_firstShared_63
            · skip
              refine lv_lload_n hx hb d_P_firstShared_43 rfl (lv_at hl 3 rfl) ?_
              refine lv_iload hx hb d_P_firstShared_44 (lv_at hl 0 rfl) ?_
              refine lv_i2l (v := (((xb_lshr x0 (6 : Int32)) &&& (7 : Int64)).toInt32).toInt64) hx hb d_P_firstShared_46 (by rfl) ?_
              refine vp_callSi (W.runS (As := [.long x1, .long ((((xb_lshr x0 (6 : Int32)) &&& (7 : Int64)).toInt32).toInt64)]) (rest := []) ⟨hx, hb, hml, hown, hts⟩ (c_P_contains l x1 ((((xb_lshr x0 (6 : Int32)) &&& (7 : Int64)).toInt32).toInt64)) (cwS 2 hts (xa_S xw670 xw671 xw1 xw672) rfl rfl rfl (by decide +kernel) ⟨Nat.le_of_ble_eq_true rfl, Nat.le_of_ble_eq_true rfl⟩) preEq rfl rfl hl.1 rfl (lv_room (Nat.le_of_ble_eq_true rfl)) d_P_firstShared_47 ⟨Nat.le_of_ble_eq_true rfl, Nat.le_of_ble_eq_true rfl⟩) (fun r_ e_ => ?_)
              subst e_
              refine lv_if_eq (tgt := 56) hx hb d_P_firstShared_50 (by decide) (fun c9 => ?_) (fun c9 => ?_)
              · skip
                refine lv_iinc (v := (3 : Int32)) (k := 1) (lv' := [(4, .int (3 : Int32)), (5, .int (((xb_lshr x0 (6 : Int32)) &&& (7 : Int64)).toInt32)), (0, .long x0), (2, .long x1)]) hx hb d_P_firstShared_56 hl rfl (by decide) (by decide) rfl (fun ls hl => ?_)
                refine lv_goto (tgt := 19) hx hb d_P_firstShared_59 (by decide) ?_
                refine lv_iload hx hb d_P_firstShared_19 (lv_at hl 0 rfl) ?_
                refine lv_iconst (v := 3) hx hb d_P_firstShared_21 (by decide) ?_
                refine lv_icmp_ge (tgt := 62) hx hb d_P_firstShared_22 (by decide) (fun _ => ?_) (fun h_ => absurd h_ (by decide))
                refine lv_iconst (v := 0) hx hb d_P_firstShared_62 (by decide) ?_
                exact W.iret (v := (0 : Int32)) hx hb hr (fun t ht_ hW => ⟨_, rfl, ((if_neg c1).trans ((if_neg c2).trans ((if_pos c3).trans ((if_neg c4).trans ((if_pos c7).trans ((if_neg c8).trans ((if_pos c9)))))))).symm, ht_⟩) (fun _ h_ => nomatch h_) d_P_firstShared_63
              · skip
                refine lv_iload hx hb d_P_firstShared_53 (lv_at hl 0 rfl) ?_
                exact W.iret (v := ((xb_lshr x0 (6 : Int32)) &&& (7 : Int64)).toInt32) hx hb hr (fun t ht_ hW => ⟨_, rfl, ((if_neg c1).trans ((if_neg c2).trans ((if_pos c3).trans ((if_neg c4).trans ((if_pos c7).trans ((if_neg c8).trans ((if_neg c9)))))))).symm, ht_⟩) (fun _ h_ => nomatch h_) d_P_firstShared_55
          · skip
            refine lv_iload hx hb d_P_firstShared_53 (lv_at hl 0 rfl) ?_
            exact W.iret (v := ((xb_lshr x0 (3 : Int32)) &&& (7 : Int64)).toInt32) hx hb hr (fun t ht_ hW => ⟨_, rfl, ((if_neg c1).trans ((if_neg c2).trans ((if_pos c3).trans ((if_neg c4).trans ((if_neg c7)))))).symm, ht_⟩) (fun _ h_ => nomatch h_) d_P_firstShared_55
      · skip
        refine lv_lload_n hx hb d_P_firstShared_43 rfl (lv_at hl 3 rfl) ?_
        refine lv_iload hx hb d_P_firstShared_44 (lv_at hl 0 rfl) ?_
        refine lv_i2l (v := (((xb_lshr x0 (0 : Int32)) &&& (7 : Int64)).toInt32).toInt64) hx hb d_P_firstShared_46 (by rfl) ?_
        refine vp_callSi (W.runS (As := [.long x1, .long ((((xb_lshr x0 (0 : Int32)) &&& (7 : Int64)).toInt32).toInt64)]) (rest := []) ⟨hx, hb, hml, hown, hts⟩ (c_P_contains l x1 ((((xb_lshr x0 (0 : Int32)) &&& (7 : Int64)).toInt32).toInt64)) (cwS 2 hts (xa_S xw670 xw671 xw1 xw672) rfl rfl rfl (by decide +kernel) ⟨Nat.le_of_ble_eq_true rfl, Nat.le_of_ble_eq_true rfl⟩) preEq rfl rfl hl.1 rfl (lv_room (Nat.le_of_ble_eq_true rfl)) d_P_firstShared_47 ⟨Nat.le_of_ble_eq_true rfl, Nat.le_of_ble_eq_true rfl⟩) (fun r_ e_ => ?_)
        subst e_
        refine lv_if_eq (tgt := 56) hx hb d_P_firstShared_50 (by decide) (fun c10 => ?_) (fun c10 => ?_)
        · skip
          refine lv_iinc (v := (1 : Int32)) (k := 1) (lv' := [(4, .int (1 : Int32)), (5, .int (((xb_lshr x0 (0 : Int32)) &&& (7 : Int64)).toInt32)), (0, .long x0), (2, .long x1)]) hx hb d_P_firstShared_56 hl rfl (by decide) (by decide) rfl (fun ls hl => ?_)
          refine lv_goto (tgt := 19) hx hb d_P_firstShared_59 (by decide) ?_
          refine lv_iload hx hb d_P_firstShared_19 (lv_at hl 0 rfl) ?_
          refine lv_iconst (v := 3) hx hb d_P_firstShared_21 (by decide) ?_
          refine lv_icmp_ge (tgt := 62) hx hb d_P_firstShared_22 (by decide) (fun h_ => absurd h_ (by decide)) (fun _ => ?_)
          refine lv_lload_n hx hb d_P_firstShared_25 rfl (lv_at hl 2 rfl) ?_
          refine lv_iconst (v := 3) hx hb d_P_firstShared_26 (by decide) ?_
          refine lv_iload hx hb d_P_firstShared_27 (lv_at hl 0 rfl) ?_
          refine lv_imul hx hb d_P_firstShared_29 ?_
          refine xb_ti (y := (3 : Int32)) (by decide) ?_
          refine lv_lshr (v := (xb_lshr x0 (3 : Int32))) hx hb d_P_firstShared_30 rfl ?_
          refine lv_ldc2 hx hb hown (ht _ xw348) d_P_firstShared_31 ?_
          refine lv_land hx hb d_P_firstShared_34 ?_
          refine lv_l2i (v := ((xb_lshr x0 (3 : Int32)) &&& (7 : Int64)).toInt32) hx hb d_P_firstShared_35 (by rfl) ?_
          refine lv_istore (lv' := [(5, .int (((xb_lshr x0 (3 : Int32)) &&& (7 : Int64)).toInt32)), (4, .int (1 : Int32)), (0, .long x0), (2, .long x1)]) hx hb d_P_firstShared_36 hl (by decide) rfl (fun ls hl => ?_)
          refine lv_iload hx hb d_P_firstShared_38 (lv_at hl 0 rfl) ?_
          refine lv_if_eq (tgt := 56) hx hb d_P_firstShared_40 (by decide) (fun c11 => ?_) (fun c11 => ?_)
          · skip
            refine lv_iinc (v := (2 : Int32)) (k := 1) (lv' := [(4, .int (2 : Int32)), (5, .int (((xb_lshr x0 (3 : Int32)) &&& (7 : Int64)).toInt32)), (0, .long x0), (2, .long x1)]) hx hb d_P_firstShared_56 hl rfl (by decide) (by decide) rfl (fun ls hl => ?_)
            refine lv_goto (tgt := 19) hx hb d_P_firstShared_59 (by decide) ?_
            refine lv_iload hx hb d_P_firstShared_19 (lv_at hl 0 rfl) ?_
            refine lv_iconst (v := 3) hx hb d_P_firstShared_21 (by decide) ?_
            refine lv_icmp_ge (tgt := 62) hx hb d_P_firstShared_22 (by decide) (fun h_ => absurd h_ (by decide)) (fun _ => ?_)
            refine lv_lload_n hx hb d_P_firstShared_25 rfl (lv_at hl 2 rfl) ?_
            refine lv_iconst (v := 3) hx hb d_P_firstShared_26 (by decide) ?_
            refine lv_iload hx hb d_P_firstShared_27 (lv_at hl 0 rfl) ?_
            refine lv_imul hx hb d_P_firstShared_29 ?_
            refine xb_ti (y := (6 : Int32)) (by decide) ?_
            refine lv_lshr (v := (xb_lshr x0 (6 : Int32))) hx hb d_P_firstShared_30 rfl ?_
            refine lv_ldc2 hx hb hown (ht _ xw348) d_P_firstShared_31 ?_
            refine lv_land hx hb d_P_firstShared_34 ?_
            refine lv_l2i (v := ((xb_lshr x0 (6 : Int32)) &&& (7 : Int64)).toInt32) hx hb d_P_firstShared_35 (by rfl) ?_
            refine lv_istore (lv' := [(5, .int (((xb_lshr x0 (6 : Int32)) &&& (7 : Int64)).toInt32)), (4, .int (2 : Int32)), (0, .long x0), (2, .long x1)]) hx hb d_P_firstShared_36 hl (by decide) rfl (fun ls hl => ?_)
            refine lv_iload hx hb d_P_firstShared_38 (lv_at hl 0 rfl) ?_
            refine lv_if_eq (tgt := 56) hx hb d_P_firstShared_40 (by decide) (fun c12 => ?_) (fun c12 => ?_)
            · skip
              refine lv_iinc (v := (3 : Int32)) (k := 1) (lv' := [(4, .int (3 : Int32)), (5, .int (((xb_lshr x0 (6 : Int32)) &&& (7 : Int64)).toInt32)), (0, .long x0), (2, .long x1)]) hx hb d_P_firstShared_56 hl rfl (by decide) (by decide) rfl (fun ls hl => ?_)
              refine lv_goto (tgt := 19) hx hb d_P_firstShared_59 (by decide) ?_
              refine lv_iload hx hb d_P_firstShared_19 (lv_at hl 0 rfl) ?_
              refine lv_iconst (v := 3) hx hb d_P_firstShared_21 (by decide) ?_
              refine lv_icmp_ge (tgt := 62) hx hb d_P_firstShared_22 (by decide) (fun _ => ?_) (fun h_ => absurd h_ (by decide))
              refine lv_iconst (v := 0) hx hb d_P_firstShared_62 (by decide) ?_
              exact W.iret (v := (0 : Int32)) hx hb hr (fun t ht_ hW => ⟨_, rfl, ((if_neg c1).trans ((if_neg c2).trans ((if_neg c3).trans ((if_pos c10).trans ((if_pos c11).trans ((if_pos c12))))))).symm, ht_⟩) (fun _ h_ => nomatch h_) d_P_firstShared_63
            · skip
              refine lv_lload_n hx hb d_P_firstShared_43 rfl (lv_at hl 3 rfl) ?_
              refine lv_iload hx hb d_P_firstShared_44 (lv_at hl 0 rfl) ?_
              refine lv_i2l (v := (((xb_lshr x0 (6 : Int32)) &&& (7 : Int64)).toInt32).toInt64) hx hb d_P_firstShared_46 (by rfl) ?_
              refine vp_callSi (W.runS (As := [.long x1, .long ((((xb_lshr x0 (6 : Int32)) &&& (7 : Int64)).toInt32).toInt64)]) (rest := []) ⟨hx, hb, hml, hown, hts⟩ (c_P_contains l x1 ((((xb_lshr x0 (6 : Int32)) &&& (7 : Int64)).toInt32).toInt64)) (cwS 2 hts (xa_S xw670 xw671 xw1 xw672) rfl rfl rfl (by decide +kernel) ⟨Nat.le_of_ble_eq_true rfl, Nat.le_of_ble_eq_true rfl⟩) preEq rfl rfl hl.1 rfl (lv_room (Nat.le_of_ble_eq_true rfl)) d_P_firstShared_47 ⟨Nat.le_of_ble_eq_true rfl, Nat.le_of_ble_eq_true rfl⟩) (fun r_ e_ => ?_)
              subst e_
              refine lv_if_eq (tgt := 56) hx hb d_P_firstShared_50 (by decide) (fun c13 => ?_) (fun c13 => ?_)
              · skip
                refine lv_iinc (v := (3 : Int32)) (k := 1) (lv' := [(4, .int (3 : Int32)), (5, .int (((xb_lshr x0 (6 : Int32)) &&& (7 : Int64)).toInt32)), (0, .long x0), (2, .long x1)]) hx hb d_P_firstShared_56 hl rfl (by decide) (by decide) rfl (fun ls hl => ?_)
                refine lv_goto (tgt := 19) hx hb d_P_firstShared_59 (by decide) ?_
                refine lv_iload hx hb d_P_firstShared_19 (lv_at hl 0 rfl) ?_
                refine lv_iconst (v := 3) hx hb d_P_firstShared_21 (by decide) ?_
                refine lv_icmp_ge (tgt := 62) hx hb d_P_firstShared_22 (by decide) (fun _ => ?_) (fun h_ => absurd h_ (by decide))
                refine lv_iconst (v := 0) hx hb d_P_firstShared_62 (by decide) ?_
                exact W.iret (v := (0 : Int32)) hx hb hr (fun t ht_ hW => ⟨_, rfl, ((if_neg c1).trans ((if_neg c2).trans ((if_neg c3).trans ((if_pos c10).trans ((if_pos c11).trans ((if_neg c12).trans ((if_pos c13)))))))).symm, ht_⟩) (fun _ h_ => nomatch h_) d_P_firstShared_63
              · skip
                refine lv_iload hx hb d_P_firstShared_53 (lv_at hl 0 rfl) ?_
                exact W.iret (v := ((xb_lshr x0 (6 : Int32)) &&& (7 : Int64)).toInt32) hx hb hr (fun t ht_ hW => ⟨_, rfl, ((if_neg c1).trans ((if_neg c2).trans ((if_neg c3).trans ((if_pos c10).trans ((if_pos c11).trans ((if_neg c12).trans ((if_neg c13)))))))).symm, ht_⟩) (fun _ h_ => nomatch h_) d_P_firstShared_55
          · skip
            refine lv_lload_n hx hb d_P_firstShared_43 rfl (lv_at hl 3 rfl) ?_
            refine lv_iload hx hb d_P_firstShared_44 (lv_at hl 0 rfl) ?_
            refine lv_i2l (v := (((xb_lshr x0 (3 : Int32)) &&& (7 : Int64)).toInt32).toInt64) hx hb d_P_firstShared_46 (by rfl) ?_
            refine vp_callSi (W.runS (As := [.long x1, .long ((((xb_lshr x0 (3 : Int32)) &&& (7 : Int64)).toInt32).toInt64)]) (rest := []) ⟨hx, hb, hml, hown, hts⟩ (c_P_contains l x1 ((((xb_lshr x0 (3 : Int32)) &&& (7 : Int64)).toInt32).toInt64)) (cwS 2 hts (xa_S xw670 xw671 xw1 xw672) rfl rfl rfl (by decide +kernel) ⟨Nat.le_of_ble_eq_true rfl, Nat.le_of_ble_eq_true rfl⟩) preEq rfl rfl hl.1 rfl (lv_room (Nat.le_of_ble_eq_true rfl)) d_P_firstShared_47 ⟨Nat.le_of_ble_eq_true rfl, Nat.le_of_ble_eq_true rfl⟩) (fun r_ e_ => ?_)
            subst e_
            refine lv_if_eq (tgt := 56) hx hb d_P_firstShared_50 (by decide) (fun c14 => ?_) (fun c14 => ?_)
            · skip
              refine lv_iinc (v := (2 : Int32)) (k := 1) (lv' := [(4, .int (2 : Int32)), (5, .int (((xb_lshr x0 (3 : Int32)) &&& (7 : Int64)).toInt32)), (0, .long x0), (2, .long x1)]) hx hb d_P_firstShared_56 hl rfl (by decide) (by decide) rfl (fun ls hl => ?_)
              refine lv_goto (tgt := 19) hx hb d_P_firstShared_59 (by decide) ?_
              refine lv_iload hx hb d_P_firstShared_19 (lv_at hl 0 rfl) ?_
              refine lv_iconst (v := 3) hx hb d_P_firstShared_21 (by decide) ?_
              refine lv_icmp_ge (tgt := 62) hx hb d_P_firstShared_22 (by decide) (fun h_ => absurd h_ (by decide)) (fun _ => ?_)
              refine lv_lload_n hx hb d_P_firstShared_25 rfl (lv_at hl 2 rfl) ?_
              refine lv_iconst (v := 3) hx hb d_P_firstShared_26 (by decide) ?_
              refine lv_iload hx hb d_P_firstShared_27 (lv_at hl 0 rfl) ?_
              refine lv_imul hx hb d_P_firstShared_29 ?_
              refine xb_ti (y := (6 : Int32)) (by decide) ?_
              refine lv_lshr (v := (xb_lshr x0 (6 : Int32))) hx hb d_P_firstShared_30 rfl ?_
              refine lv_ldc2 hx hb hown (ht _ xw348) d_P_firstShared_31 ?_
              refine lv_land hx hb d_P_firstShared_34 ?_
              refine lv_l2i (v := ((xb_lshr x0 (6 : Int32)) &&& (7 : Int64)).toInt32) hx hb d_P_firstShared_35 (by rfl) ?_
              refine lv_istore (lv' := [(5, .int (((xb_lshr x0 (6 : Int32)) &&& (7 : Int64)).toInt32)), (4, .int (2 : Int32)), (0, .long x0), (2, .long x1)]) hx hb d_P_firstShared_36 hl (by decide) rfl (fun ls hl => ?_)
              refine lv_iload hx hb d_P_firstShared_38 (lv_at hl 0 rfl) ?_
              refine lv_if_eq (tgt := 56) hx hb d_P_firstShared_40 (by decide) (fun c15 => ?_) (fun c15 => ?_)
              · skip
                refine lv_iinc (v := (3 : Int32)) (k := 1) (lv' := [(4, .int (3 : Int32)), (5, .int (((xb_lshr x0 (6 : Int32)) &&& (7 : Int64)).toInt32)), (0, .long x0), (2, .long x1)]) hx hb d_P_firstShared_56 hl rfl (by decide) (by decide) rfl (fun ls hl => ?_)
                refine lv_goto (tgt := 19) hx hb d_P_firstShared_59 (by decide) ?_
                refine lv_iload hx hb d_P_firstShared_19 (lv_at hl 0 rfl) ?_
                refine lv_iconst (v := 3) hx hb d_P_firstShared_21 (by decide) ?_
                refine lv_icmp_ge (tgt := 62) hx hb d_P_firstShared_22 (by decide) (fun _ => ?_) (fun h_ => absurd h_ (by decide))
                refine lv_iconst (v := 0) hx hb d_P_firstShared_62 (by decide) ?_
                exact W.iret (v := (0 : Int32)) hx hb hr (fun t ht_ hW => ⟨_, rfl, ((if_neg c1).trans ((if_neg c2).trans ((if_neg c3).trans ((if_pos c10).trans ((if_neg c11).trans ((if_pos c14).trans ((if_pos c15)))))))).symm, ht_⟩) (fun _ h_ => nomatch h_) d_P_firstShared_63
              · skip
                refine lv_lload_n hx hb d_P_firstShared_43 rfl (lv_at hl 3 rfl) ?_
                refine lv_iload hx hb d_P_firstShared_44 (lv_at hl 0 rfl) ?_
                refine lv_i2l (v := (((xb_lshr x0 (6 : Int32)) &&& (7 : Int64)).toInt32).toInt64) hx hb d_P_firstShared_46 (by rfl) ?_
                refine vp_callSi (W.runS (As := [.long x1, .long ((((xb_lshr x0 (6 : Int32)) &&& (7 : Int64)).toInt32).toInt64)]) (rest := []) ⟨hx, hb, hml, hown, hts⟩ (c_P_contains l x1 ((((xb_lshr x0 (6 : Int32)) &&& (7 : Int64)).toInt32).toInt64)) (cwS 2 hts (xa_S xw670 xw671 xw1 xw672) rfl rfl rfl (by decide +kernel) ⟨Nat.le_of_ble_eq_true rfl, Nat.le_of_ble_eq_true rfl⟩) preEq rfl rfl hl.1 rfl (lv_room (Nat.le_of_ble_eq_true rfl)) d_P_firstShared_47 ⟨Nat.le_of_ble_eq_true rfl, Nat.le_of_ble_eq_true rfl⟩) (fun r_ e_ => ?_)
                subst e_
                refine lv_if_eq (tgt := 56) hx hb d_P_firstShared_50 (by decide) (fun c16 => ?_) (fun c16 => ?_)
                · skip
                  refine lv_iinc (v := (3 : Int32)) (k := 1) (lv' := [(4, .int (3 : Int32)), (5, .int (((xb_lshr x0 (6 : Int32)) &&& (7 : Int64)).toInt32)), (0, .long x0), (2, .long x1)]) hx hb d_P_firstShared_56 hl rfl (by decide) (by decide) rfl (fun ls hl => ?_)
                  refine lv_goto (tgt := 19) hx hb d_P_firstShared_59 (by decide) ?_
                  refine lv_iload hx hb d_P_firstShared_19 (lv_at hl 0 rfl) ?_
                  refine lv_iconst (v := 3) hx hb d_P_firstShared_21 (by decide) ?_
                  refine lv_icmp_ge (tgt := 62) hx hb d_P_firstShared_22 (by decide) (fun _ => ?_) (fun h_ => absurd h_ (by decide))
                  refine lv_iconst (v := 0) hx hb d_P_firstShared_62 (by decide) ?_
                  exact W.iret (v := (0 : Int32)) hx hb hr (fun t ht_ hW => ⟨_, rfl, ((if_neg c1).trans ((if_neg c2).trans ((if_neg c3).trans ((if_pos c10).trans ((if_neg c11).trans ((if_pos c14).trans ((if_neg c15).trans ((if_pos c16))))))))).symm, ht_⟩) (fun _ h_ => nomatch h_) d_P_firstShared_63
                · skip
                  refine lv_iload hx hb d_P_firstShared_53 (lv_at hl 0 rfl) ?_
                  exact W.iret (v := ((xb_lshr x0 (6 : Int32)) &&& (7 : Int64)).toInt32) hx hb hr (fun t ht_ hW => ⟨_, rfl, ((if_neg c1).trans ((if_neg c2).trans ((if_neg c3).trans ((if_pos c10).trans ((if_neg c11).trans ((if_pos c14).trans ((if_neg c15).trans ((if_neg c16))))))))).symm, ht_⟩) (fun _ h_ => nomatch h_) d_P_firstShared_55
            · skip
              refine lv_iload hx hb d_P_firstShared_53 (lv_at hl 0 rfl) ?_
              exact W.iret (v := ((xb_lshr x0 (3 : Int32)) &&& (7 : Int64)).toInt32) hx hb hr (fun t ht_ hW => ⟨_, rfl, ((if_neg c1).trans ((if_neg c2).trans ((if_neg c3).trans ((if_pos c10).trans ((if_neg c11).trans ((if_neg c14))))))).symm, ht_⟩) (fun _ h_ => nomatch h_) d_P_firstShared_55
        · skip
          refine lv_iload hx hb d_P_firstShared_53 (lv_at hl 0 rfl) ?_
          exact W.iret (v := ((xb_lshr x0 (0 : Int32)) &&& (7 : Int64)).toInt32) hx hb hr (fun t ht_ hW => ⟨_, rfl, ((if_neg c1).trans ((if_neg c2).trans ((if_neg c3).trans ((if_neg c10))))).symm, ht_⟩) (fun _ h_ => nomatch h_) d_P_firstShared_55
    · skip
      refine lv_iconst (v := 0) hx hb d_P_firstShared_14 (by decide) ?_
      exact W.iret (v := (0 : Int32)) hx hb hr (fun t ht_ hW => ⟨_, rfl, ((if_neg c1).trans ((if_pos c2))).symm, ht_⟩) (fun _ h_ => nomatch h_) d_P_firstShared_15
abbrev b_P_power : ByteArray := prog_1_method_37_code
def y_P_power : MethodName := ⟨"SecurePair", "power", "(JJ)J"⟩
abbrev w_P_power : List Cond := .code y_P_power b_P_power 11 (some .long) :: xa
theorem d_P_power_0 : decode b_P_power 0 = .ok (.lconst 1, 1) := by decide +kernel
theorem d_P_power_1 : decode b_P_power 1 = .ok (.lstore 4, 2) := by decide +kernel
theorem d_P_power_3 : decode b_P_power 3 = .ok (.lload_n 0, 1) := by decide +kernel
theorem d_P_power_4 : decode b_P_power 4 = .ok (.ldc2_w 227, 3) := by decide +kernel
theorem d_P_power_7 : decode b_P_power 7 = .ok (.lrem, 1) := by decide +kernel
theorem d_P_power_8 : decode b_P_power 8 = .ok (.lstore 6, 2) := by decide +kernel
theorem d_P_power_10 : decode b_P_power 10 = .ok (.lload_n 2, 1) := by decide +kernel
theorem d_P_power_11 : decode b_P_power 11 = .ok (.lstore 8, 2) := by decide +kernel
theorem d_P_power_13 : decode b_P_power 13 = .ok (.iconst 0, 1) := by decide +kernel
theorem d_P_power_14 : decode b_P_power 14 = .ok (.istore 10, 2) := by decide +kernel
theorem d_P_power_16 : decode b_P_power 16 = .ok (.iload 10, 2) := by decide +kernel
theorem d_P_power_18 : decode b_P_power 18 = .ok (.bipush 63, 2) := by decide +kernel
theorem d_P_power_20 : decode b_P_power 20 = .ok (.if_icmp .ge 53, 3) := by decide +kernel
theorem d_P_power_23 : decode b_P_power 23 = .ok (.lload 8, 2) := by decide +kernel
theorem d_P_power_25 : decode b_P_power 25 = .ok (.lconst 0, 1) := by decide +kernel
theorem d_P_power_26 : decode b_P_power 26 = .ok (.lcmp, 1) := by decide +kernel
theorem d_P_power_27 : decode b_P_power 27 = .ok (.ifCond .le 46, 3) := by decide +kernel
theorem d_P_power_30 : decode b_P_power 30 = .ok (.lload 8, 2) := by decide +kernel
theorem d_P_power_32 : decode b_P_power 32 = .ok (.lconst 1, 1) := by decide +kernel
theorem d_P_power_33 : decode b_P_power 33 = .ok (.land, 1) := by decide +kernel
theorem d_P_power_34 : decode b_P_power 34 = .ok (.lconst 1, 1) := by decide +kernel
theorem d_P_power_35 : decode b_P_power 35 = .ok (.lcmp, 1) := by decide +kernel
theorem d_P_power_36 : decode b_P_power 36 = .ok (.ifCond .ne 14, 3) := by decide +kernel
theorem d_P_power_39 : decode b_P_power 39 = .ok (.lload 4, 2) := by decide +kernel
theorem d_P_power_41 : decode b_P_power 41 = .ok (.lload 6, 2) := by decide +kernel
theorem d_P_power_43 : decode b_P_power 43 = .ok (.lmul, 1) := by decide +kernel
theorem d_P_power_44 : decode b_P_power 44 = .ok (.ldc2_w 227, 3) := by decide +kernel
theorem d_P_power_47 : decode b_P_power 47 = .ok (.lrem, 1) := by decide +kernel
theorem d_P_power_48 : decode b_P_power 48 = .ok (.lstore 4, 2) := by decide +kernel
theorem d_P_power_50 : decode b_P_power 50 = .ok (.lload 6, 2) := by decide +kernel
theorem d_P_power_52 : decode b_P_power 52 = .ok (.lload 6, 2) := by decide +kernel
theorem d_P_power_54 : decode b_P_power 54 = .ok (.lmul, 1) := by decide +kernel
theorem d_P_power_55 : decode b_P_power 55 = .ok (.ldc2_w 227, 3) := by decide +kernel
theorem d_P_power_58 : decode b_P_power 58 = .ok (.lrem, 1) := by decide +kernel
theorem d_P_power_59 : decode b_P_power 59 = .ok (.lstore 6, 2) := by decide +kernel
theorem d_P_power_61 : decode b_P_power 61 = .ok (.lload 8, 2) := by decide +kernel
theorem d_P_power_63 : decode b_P_power 63 = .ok (.iconst 1, 1) := by decide +kernel
theorem d_P_power_64 : decode b_P_power 64 = .ok (.lshr, 1) := by decide +kernel
theorem d_P_power_65 : decode b_P_power 65 = .ok (.lstore 8, 2) := by decide +kernel
theorem d_P_power_67 : decode b_P_power 67 = .ok (.iinc 10 1, 3) := by decide +kernel
theorem d_P_power_70 : decode b_P_power 70 = .ok (.goto (-54), 3) := by decide +kernel
theorem d_P_power_73 : decode b_P_power 73 = .ok (.lload 4, 2) := by decide +kernel
theorem d_P_power_75 : decode b_P_power 75 = .ok (.lreturn, 1) := by decide +kernel
def f_power (x0 : Int64) (x1 : Int64) : Int64 := f_pw 63 1 (xb_lrem x0 (2147483647 : Int64)) x1
set_option maxHeartbeats 4000000 in
set_option maxRecDepth 100000 in
theorem c_P_power (l : Launch) (x0 x1 : Int64) : Met l y_P_power w_P_power ({ frames := 0, cells := 0, slots := 0, locals := 0 }) (fun av_ _ => av_ = ([.long x0, .long x1] : List Value).toArray) (vp_Sl (fun r => r = f_power x0 x1)) 0 0 (fun _ => False) := by
  refine Met.ofW (cc := b_P_power) (maxL := 11) (ret := (some .long)) (by decide) rfl ?_
  intro p e s m args below meth c s₁ B hml hv
  subst hv
  have hx := B.exec
  have hb := B.bytes
  have hr := B.returns
  have hts := atoms_spec (ws := w_P_power) B.pre
  have ht : ∀ w ∈ xa, w.before _ s = true := fun w h => hts w (List.mem_cons_of_mem _ h)
  have hown : s.vm.findClass "SecurePair" = some m.cls := findClass_of_methodNamed B.named
  have hlocks := B.notSynchronized
  have loop : ∀ (n : Nat), ∀ (k : Nat), n + k = 63 → ∀ (r_ q_ e_ : Int64) (ls : Array Slot), lv_has ls 11 [(10, .int (nI k)), (8, .long e_), (6, .long q_), (4, .long r_), (0, .long x0), (2, .long x1)] → f_pw n r_ q_ e_ = f_power x0 x1 → W p l e (headSpec w_P_power ({ frames := 0, cells := 0, slots := 0, locals := 0 })).room s m ([.long x0, .long x1] : List Value).toArray below meth c s.heap [] 0 0 (MQ below (vp_Sl (fun r => r = f_power x0 x1)) ([.long x0, .long x1] : List Value).toArray s 0 0 (fun _ => False)) (F0 m 16 ls []) := by
    intro n
    induction n with
    | zero =>
      intro k hk r_ q_ e_ ls hl hF
      obtain rfl : k = 63 := by omega
      refine lv_iload hx hb d_P_power_16 (lv_at hl 0 rfl) ?_
      refine lv_bipush (v := 63) hx hb d_P_power_18 (by decide) ?_
      refine lv_icmp_ge (tgt := 73) hx hb d_P_power_20 (by decide) (fun _ => ?_) (fun h_ => absurd (nI_le (a := 63) (b := 63) (by decide) (by decide)) h_)
      refine lv_lload hx hb d_P_power_73 (lv_at hl 3 rfl) ?_
      exact W.lret (v := r_) hx hb hr (fun t ht_ hW => ⟨_, rfl, hF, ht_⟩) (fun _ h_ => nomatch h_) d_P_power_75
    | succ n ih =>
      intro k hk r_ q_ e_ ls hl hF
      rw [f_pw_s] at hF
      refine lv_iload hx hb d_P_power_16 (lv_at hl 0 rfl) ?_
      refine lv_bipush (v := 63) hx hb d_P_power_18 (by decide) ?_
      refine lv_icmp_ge (tgt := 73) hx hb d_P_power_20 (by decide) (fun h_ => absurd h_ (nI_ge (a := k) (b := 63) (by omega) (by decide))) (fun _ => ?_)
      refine lv_lload hx hb d_P_power_23 (lv_at hl 1 rfl) ?_
      refine lv_lconst (v := 0) hx hb d_P_power_25 (by decide) ?_
      refine xb_lle (tgt := 73) hx hb d_P_power_26 d_P_power_27 (by decide) (fun c1 => ?_) (fun c1 => ?_)
      · skip
        refine lv_lload hx hb d_P_power_73 (lv_at hl 3 rfl) ?_
        exact W.lret (v := r_) hx hb hr (fun t ht_ hW => ⟨_, rfl, (((if_pos c1)).symm.trans hF), ht_⟩) (fun _ h_ => nomatch h_) d_P_power_75
      · skip
        refine lv_lload hx hb d_P_power_30 (lv_at hl 1 rfl) ?_
        refine lv_lconst (v := 1) hx hb d_P_power_32 (by decide) ?_
        refine lv_land hx hb d_P_power_33 ?_
        refine lv_lconst (v := 1) hx hb d_P_power_34 (by decide) ?_
        refine xb_lne (tgt := 50) hx hb d_P_power_35 d_P_power_36 (by decide) (fun c2 => ?_) (fun c2 => ?_)
        · skip
          refine lv_lload hx hb d_P_power_50 (lv_at hl 2 rfl) ?_
          refine lv_lload hx hb d_P_power_52 (lv_at hl 2 rfl) ?_
          refine lv_lmul hx hb d_P_power_54 ?_
          refine lv_ldc2 hx hb hown (ht _ xw364) d_P_power_55 ?_
          refine lv_lrem hx hb d_P_power_58 (by decide) ?_
          refine lv_lstore (lv' := [(6, .long (xb_lrem (q_ * q_) (2147483647 : Int64))), (10, .int (nI k)), (8, .long e_), (4, .long r_), (0, .long x0), (2, .long x1)]) hx hb d_P_power_59 hl (by decide) rfl (fun ls hl => ?_)
          refine lv_lload hx hb d_P_power_61 (lv_at hl 2 rfl) ?_
          refine lv_iconst (v := 1) hx hb d_P_power_63 (by decide) ?_
          refine lv_lshr (v := (xb_lshr e_ (1 : Int32))) hx hb d_P_power_64 rfl ?_
          refine lv_lstore (lv' := [(8, .long (xb_lshr e_ (1 : Int32))), (6, .long (xb_lrem (q_ * q_) (2147483647 : Int64))), (10, .int (nI k)), (4, .long r_), (0, .long x0), (2, .long x1)]) hx hb d_P_power_65 hl (by decide) rfl (fun ls hl => ?_)
          refine lv_iinc (v := nI (k + 1)) (k := 2) (lv' := [(10, .int (nI (k + 1))), (8, .long (xb_lshr e_ (1 : Int32))), (6, .long (xb_lrem (q_ * q_) (2147483647 : Int64))), (4, .long r_), (0, .long x0), (2, .long x1)]) hx hb d_P_power_67 hl rfl (nI_1 k) (by decide) rfl (fun ls hl => ?_)
          refine lv_goto (tgt := 16) hx hb d_P_power_70 (by decide) ?_
          exact ih (k + 1) (by omega) _ _ _ ls hl (((if_neg c1).trans ((if_neg c2))).symm.trans hF)
        · skip
          refine lv_lload hx hb d_P_power_39 (lv_at hl 3 rfl) ?_
          refine lv_lload hx hb d_P_power_41 (lv_at hl 2 rfl) ?_
          refine lv_lmul hx hb d_P_power_43 ?_
          refine lv_ldc2 hx hb hown (ht _ xw364) d_P_power_44 ?_
          refine lv_lrem hx hb d_P_power_47 (by decide) ?_
          refine lv_lstore (lv' := [(4, .long (xb_lrem (r_ * q_) (2147483647 : Int64))), (10, .int (nI k)), (8, .long e_), (6, .long q_), (0, .long x0), (2, .long x1)]) hx hb d_P_power_48 hl (by decide) rfl (fun ls hl => ?_)
          refine lv_lload hx hb d_P_power_50 (lv_at hl 3 rfl) ?_
          refine lv_lload hx hb d_P_power_52 (lv_at hl 3 rfl) ?_
          refine lv_lmul hx hb d_P_power_54 ?_
          refine lv_ldc2 hx hb hown (ht _ xw364) d_P_power_55 ?_
          refine lv_lrem hx hb d_P_power_58 (by decide) ?_
          refine lv_lstore (lv' := [(6, .long (xb_lrem (q_ * q_) (2147483647 : Int64))), (4, .long (xb_lrem (r_ * q_) (2147483647 : Int64))), (10, .int (nI k)), (8, .long e_), (0, .long x0), (2, .long x1)]) hx hb d_P_power_59 hl (by decide) rfl (fun ls hl => ?_)
          refine lv_lload hx hb d_P_power_61 (lv_at hl 3 rfl) ?_
          refine lv_iconst (v := 1) hx hb d_P_power_63 (by decide) ?_
          refine lv_lshr (v := (xb_lshr e_ (1 : Int32))) hx hb d_P_power_64 rfl ?_
          refine lv_lstore (lv' := [(8, .long (xb_lshr e_ (1 : Int32))), (6, .long (xb_lrem (q_ * q_) (2147483647 : Int64))), (4, .long (xb_lrem (r_ * q_) (2147483647 : Int64))), (10, .int (nI k)), (0, .long x0), (2, .long x1)]) hx hb d_P_power_65 hl (by decide) rfl (fun ls hl => ?_)
          refine lv_iinc (v := nI (k + 1)) (k := 3) (lv' := [(10, .int (nI (k + 1))), (8, .long (xb_lshr e_ (1 : Int32))), (6, .long (xb_lrem (q_ * q_) (2147483647 : Int64))), (4, .long (xb_lrem (r_ * q_) (2147483647 : Int64))), (0, .long x0), (2, .long x1)]) hx hb d_P_power_67 hl rfl (nI_1 k) (by decide) rfl (fun ls hl => ?_)
          refine lv_goto (tgt := 16) hx hb d_P_power_70 (by decide) ?_
          exact ih (k + 1) (by omega) _ _ _ ls hl (((if_neg c1).trans ((if_pos c2))).symm.trans hF)
  have hl := lv_entry ([.long x0, .long x1]) (n := 11) (Nat.le_of_ble_eq_true rfl)
  rw [lg_entry_eq]
  generalize (lg_sl ([.long x0, .long x1]) ++ List.replicate (11 - (lg_sl ([.long x0, .long x1])).length) Slot.unset).toArray = ls at hl ⊢
  have hl : lv_has ls 11 [(0, .long x0), (2, .long x1)] := hl
  refine lv_lconst (v := 1) hx hb d_P_power_0 (by decide) ?_
  refine lv_lstore (lv' := [(4, .long (1 : Int64)), (0, .long x0), (2, .long x1)]) hx hb d_P_power_1 hl (by decide) rfl (fun ls hl => ?_)
  refine lv_lload_n hx hb d_P_power_3 rfl (lv_at hl 1 rfl) ?_
  refine lv_ldc2 hx hb hown (ht _ xw364) d_P_power_4 ?_
  refine lv_lrem hx hb d_P_power_7 (by decide) ?_
  refine lv_lstore (lv' := [(6, .long (xb_lrem x0 (2147483647 : Int64))), (4, .long (1 : Int64)), (0, .long x0), (2, .long x1)]) hx hb d_P_power_8 hl (by decide) rfl (fun ls hl => ?_)
  refine lv_lload_n hx hb d_P_power_10 rfl (lv_at hl 3 rfl) ?_
  refine lv_lstore (lv' := [(8, .long x1), (6, .long (xb_lrem x0 (2147483647 : Int64))), (4, .long (1 : Int64)), (0, .long x0), (2, .long x1)]) hx hb d_P_power_11 hl (by decide) rfl (fun ls hl => ?_)
  refine lv_iconst (v := 0) hx hb d_P_power_13 (by decide) ?_
  refine lv_istore (lv' := [(10, .int (0 : Int32)), (8, .long x1), (6, .long (xb_lrem x0 (2147483647 : Int64))), (4, .long (1 : Int64)), (0, .long x0), (2, .long x1)]) hx hb d_P_power_14 hl (by decide) rfl (fun ls hl => ?_)
  exact loop 63 0 rfl _ _ _ ls hl rfl
abbrev b_P_verifies : ByteArray := prog_1_method_39_code
def y_P_verifies : MethodName := ⟨"SecurePair", "verifies", "(JJJJ)Z"⟩
abbrev w_P_verifies : List Cond := .code y_P_verifies b_P_verifies 8 (some .boolean) :: xa
theorem d_P_verifies_0 : decode b_P_verifies 0 = .ok (.lload_n 0, 1) := by decide +kernel
theorem d_P_verifies_1 : decode b_P_verifies 1 = .ok (.invokestatic 244, 3) := by decide +kernel
theorem d_P_verifies_4 : decode b_P_verifies 4 = .ok (.ifCond .eq 18, 3) := by decide +kernel
theorem d_P_verifies_7 : decode b_P_verifies 7 = .ok (.lload_n 2, 1) := by decide +kernel
theorem d_P_verifies_8 : decode b_P_verifies 8 = .ok (.invokestatic 244, 3) := by decide +kernel
theorem d_P_verifies_11 : decode b_P_verifies 11 = .ok (.ifCond .eq 11, 3) := by decide +kernel
theorem d_P_verifies_14 : decode b_P_verifies 14 = .ok (.lload 4, 2) := by decide +kernel
theorem d_P_verifies_16 : decode b_P_verifies 16 = .ok (.invokestatic 244, 3) := by decide +kernel
theorem d_P_verifies_19 : decode b_P_verifies 19 = .ok (.ifCond .ne 5, 3) := by decide +kernel
theorem d_P_verifies_22 : decode b_P_verifies 22 = .ok (.iconst 0, 1) := by decide +kernel
theorem d_P_verifies_23 : decode b_P_verifies 23 = .ok (.ireturn, 1) := by decide +kernel
theorem d_P_verifies_24 : decode b_P_verifies 24 = .ok (.ldc2_w 55, 3) := by decide +kernel
theorem d_P_verifies_27 : decode b_P_verifies 27 = .ok (.lload 4, 2) := by decide +kernel
theorem d_P_verifies_29 : decode b_P_verifies 29 = .ok (.invokestatic 57, 3) := by decide +kernel
theorem d_P_verifies_32 : decode b_P_verifies 32 = .ok (.lload_n 2, 1) := by decide +kernel
theorem d_P_verifies_33 : decode b_P_verifies 33 = .ok (.lload_n 0, 1) := by decide +kernel
theorem d_P_verifies_34 : decode b_P_verifies 34 = .ok (.lload_n 2, 1) := by decide +kernel
theorem d_P_verifies_35 : decode b_P_verifies 35 = .ok (.lload 6, 2) := by decide +kernel
theorem d_P_verifies_37 : decode b_P_verifies 37 = .ok (.invokestatic 247, 3) := by decide +kernel
theorem d_P_verifies_40 : decode b_P_verifies 40 = .ok (.invokestatic 57, 3) := by decide +kernel
theorem d_P_verifies_43 : decode b_P_verifies 43 = .ok (.lmul, 1) := by decide +kernel
theorem d_P_verifies_44 : decode b_P_verifies 44 = .ok (.ldc2_w 227, 3) := by decide +kernel
theorem d_P_verifies_47 : decode b_P_verifies 47 = .ok (.lrem, 1) := by decide +kernel
theorem d_P_verifies_48 : decode b_P_verifies 48 = .ok (.lcmp, 1) := by decide +kernel
theorem d_P_verifies_49 : decode b_P_verifies 49 = .ok (.ifCond .ne 7, 3) := by decide +kernel
theorem d_P_verifies_52 : decode b_P_verifies 52 = .ok (.iconst 1, 1) := by decide +kernel
theorem d_P_verifies_53 : decode b_P_verifies 53 = .ok (.goto 4, 3) := by decide +kernel
theorem d_P_verifies_56 : decode b_P_verifies 56 = .ok (.iconst 0, 1) := by decide +kernel
theorem d_P_verifies_57 : decode b_P_verifies 57 = .ok (.ireturn, 1) := by decide +kernel
theorem xw361 : (Cond.methodLink "SecurePair" (57 : Nat) ({ cls := "SecurePair", name := "power", desc := "(JJ)J" } : MethodName)) ∈ xa := xa_t 361 (by decide +kernel) (by decide +kernel)
theorem xw362 : (Cond.static ({ cls := "SecurePair", name := "power", desc := "(JJ)J" } : MethodName)) ∈ xa := xa_t 362 (by decide +kernel) (by decide +kernel)
theorem xw363 : (Cond.code ({ cls := "SecurePair", name := "power", desc := "(JJ)J" } : MethodName) prog_1_method_37_code (11 : Nat) (Option.some ClassFile.FieldType.long)) ∈ xa := xa_t 363 (by decide +kernel) (by decide +kernel)
theorem xw721 : (Cond.static ({ cls := "SecurePair", name := "challenge", desc := "(JJ)J" } : MethodName)) ∈ xa := xa_t 721 (by decide +kernel) (by decide +kernel)
theorem xw722 : (Cond.code ({ cls := "SecurePair", name := "challenge", desc := "(JJ)J" } : MethodName) prog_1_method_38_code (4 : Nat) (Option.some ClassFile.FieldType.long)) ∈ xa := xa_t 722 (by decide +kernel) (by decide +kernel)
theorem xw749 : (Cond.methodLink "SecurePair" (244 : Nat) ({ cls := "SecurePair", name := "isGroupNumber", desc := "(J)Z" } : MethodName)) ∈ xa := xa_t 749 (by decide +kernel) (by decide +kernel)
theorem xw750 : (Cond.static ({ cls := "SecurePair", name := "isGroupNumber", desc := "(J)Z" } : MethodName)) ∈ xa := xa_t 750 (by decide +kernel) (by decide +kernel)
theorem xw751 : (Cond.code ({ cls := "SecurePair", name := "isGroupNumber", desc := "(J)Z" } : MethodName) prog_1_method_32_code (2 : Nat) (Option.some ClassFile.FieldType.boolean)) ∈ xa := xa_t 751 (by decide +kernel) (by decide +kernel)
theorem xw752 : (Cond.methodLink "SecurePair" (247 : Nat) ({ cls := "SecurePair", name := "challenge", desc := "(JJ)J" } : MethodName)) ∈ xa := xa_t 752 (by decide +kernel) (by decide +kernel)
def f_verifies (x0 : Int64) (x1 : Int64) (x2 : Int64) (x3 : Int64) : Int32 := (if (f_isGroup x0) = 0 then (0 : Int32) else (if (f_isGroup x1) = 0 then (0 : Int32) else (if (f_isGroup x2) = 0 then (0 : Int32) else (if (f_power (7 : Int64) x2) = (xb_lrem (x1 * (f_power x0 (f_chal x1 x3))) (2147483647 : Int64)) then (1 : Int32) else (0 : Int32)))))
set_option maxHeartbeats 4000000 in
set_option maxRecDepth 100000 in
theorem c_P_verifies (l : Launch) (x0 : Int64) (x1 : Int64) (x2 : Int64) (x3 : Int64) : Met l y_P_verifies w_P_verifies ({ frames := 2, cells := 0, slots := 0, locals := 48 }) (fun av_ _ => av_ = ([.long x0, .long x1, .long x2, .long x3] : List Value).toArray) (vp_Si (fun r => r = f_verifies x0 x1 x2 x3)) 0 0 (fun _ => False) := by
  refine Met.ofW (cc := b_P_verifies) (maxL := 8) (ret := (some .boolean)) (by decide) rfl ?_
  intro p e s m args below meth c s₁ B hml hv
  subst hv
  have hx := B.exec
  have hb := B.bytes
  have hr := B.returns
  have hts := atoms_spec (ws := w_P_verifies) B.pre
  have ht : ∀ w ∈ xa, w.before _ s = true := fun w h => hts w (List.mem_cons_of_mem _ h)
  have hown : s.vm.findClass "SecurePair" = some m.cls := findClass_of_methodNamed B.named
  have hlocks := B.notSynchronized
  have hl := lv_entry ([.long x0, .long x1, .long x2, .long x3]) (n := 8) (Nat.le_of_ble_eq_true rfl)
  rw [lg_entry_eq]
  generalize (lg_sl ([.long x0, .long x1, .long x2, .long x3]) ++ List.replicate (8 - (lg_sl ([.long x0, .long x1, .long x2, .long x3])).length) Slot.unset).toArray = ls at hl ⊢
  have hl : lv_has ls 8 [(0, .long x0), (2, .long x1), (4, .long x2), (6, .long x3)] := hl
  refine lv_lload_n hx hb d_P_verifies_0 rfl (lv_at hl 0 rfl) ?_
  refine vp_callSi (W.runS (As := [.long x0]) (rest := []) ⟨hx, hb, hml, hown, hts⟩ (c_P_isGroupNumber l x0) (cwS 1 hts (xa_S xw749 xw750 xw1 xw751) rfl rfl rfl (by decide +kernel) ⟨Nat.le_of_ble_eq_true rfl, Nat.le_of_ble_eq_true rfl⟩) preEq rfl rfl hl.1 rfl (lv_room (Nat.le_of_ble_eq_true rfl)) d_P_verifies_1 ⟨Nat.le_of_ble_eq_true rfl, Nat.le_of_ble_eq_true rfl⟩) (fun r_ e_ => ?_)
  subst e_
  refine lv_if_eq (tgt := 22) hx hb d_P_verifies_4 (by decide) (fun c1 => ?_) (fun c1 => ?_)
  · skip
    refine lv_iconst (v := 0) hx hb d_P_verifies_22 (by decide) ?_
    exact W.zret (v := (0 : Int32)) hx hb hr rfl (fun t ht_ hW => ⟨_, rfl, ((if_pos c1)).symm, ht_⟩) (fun _ h_ => nomatch h_) d_P_verifies_23
  · skip
    refine lv_lload_n hx hb d_P_verifies_7 rfl (lv_at hl 1 rfl) ?_
    refine vp_callSi (W.runS (As := [.long x1]) (rest := []) ⟨hx, hb, hml, hown, hts⟩ (c_P_isGroupNumber l x1) (cwS 1 hts (xa_S xw749 xw750 xw1 xw751) rfl rfl rfl (by decide +kernel) ⟨Nat.le_of_ble_eq_true rfl, Nat.le_of_ble_eq_true rfl⟩) preEq rfl rfl hl.1 rfl (lv_room (Nat.le_of_ble_eq_true rfl)) d_P_verifies_8 ⟨Nat.le_of_ble_eq_true rfl, Nat.le_of_ble_eq_true rfl⟩) (fun r_ e_ => ?_)
    subst e_
    refine lv_if_eq (tgt := 22) hx hb d_P_verifies_11 (by decide) (fun c2 => ?_) (fun c2 => ?_)
    · skip
      refine lv_iconst (v := 0) hx hb d_P_verifies_22 (by decide) ?_
      exact W.zret (v := (0 : Int32)) hx hb hr rfl (fun t ht_ hW => ⟨_, rfl, ((if_neg c1).trans ((if_pos c2))).symm, ht_⟩) (fun _ h_ => nomatch h_) d_P_verifies_23
    · skip
      refine lv_lload hx hb d_P_verifies_14 (lv_at hl 2 rfl) ?_
      refine vp_callSi (W.runS (As := [.long x2]) (rest := []) ⟨hx, hb, hml, hown, hts⟩ (c_P_isGroupNumber l x2) (cwS 1 hts (xa_S xw749 xw750 xw1 xw751) rfl rfl rfl (by decide +kernel) ⟨Nat.le_of_ble_eq_true rfl, Nat.le_of_ble_eq_true rfl⟩) preEq rfl rfl hl.1 rfl (lv_room (Nat.le_of_ble_eq_true rfl)) d_P_verifies_16 ⟨Nat.le_of_ble_eq_true rfl, Nat.le_of_ble_eq_true rfl⟩) (fun r_ e_ => ?_)
      subst e_
      refine lv_if_ne (tgt := 24) hx hb d_P_verifies_19 (by decide) (fun c3 => ?_) (fun c3 => ?_)
      · skip
        refine lv_ldc2 hx hb hown (ht _ xw348) d_P_verifies_24 ?_
        refine lv_lload hx hb d_P_verifies_27 (lv_at hl 2 rfl) ?_
        refine vp_callSl (W.runS (As := [.long (7 : Int64), .long x2]) (rest := []) ⟨hx, hb, hml, hown, hts⟩ (c_P_power l (7 : Int64) x2) (cwS 2 hts (xa_S xw361 xw362 xw1 xw363) rfl rfl rfl (by decide +kernel) ⟨Nat.le_of_ble_eq_true rfl, Nat.le_of_ble_eq_true rfl⟩) preEq rfl rfl hl.1 rfl (lv_room (Nat.le_of_ble_eq_true rfl)) d_P_verifies_29 ⟨Nat.le_of_ble_eq_true rfl, Nat.le_of_ble_eq_true rfl⟩) (fun r_ e_ => ?_)
        subst e_
        refine lv_lload_n hx hb d_P_verifies_32 rfl (lv_at hl 1 rfl) ?_
        refine lv_lload_n hx hb d_P_verifies_33 rfl (lv_at hl 0 rfl) ?_
        refine lv_lload_n hx hb d_P_verifies_34 rfl (lv_at hl 1 rfl) ?_
        refine lv_lload hx hb d_P_verifies_35 (lv_at hl 3 rfl) ?_
        refine vp_callSl (W.runS (As := [.long x1, .long x3]) (rest := [.long x0, .long x1, .long (f_power (7 : Int64) x2)]) ⟨hx, hb, hml, hown, hts⟩ (c_P_challenge l x1 x3) (cwS 2 hts (xa_S xw752 xw721 xw1 xw722) rfl rfl rfl (by decide +kernel) ⟨Nat.le_of_ble_eq_true rfl, Nat.le_of_ble_eq_true rfl⟩) preEq rfl rfl hl.1 rfl (lv_room (Nat.le_of_ble_eq_true rfl)) d_P_verifies_37 ⟨Nat.le_of_ble_eq_true rfl, Nat.le_of_ble_eq_true rfl⟩) (fun r_ e_ => ?_)
        subst e_
        refine vp_callSl (W.runS (As := [.long x0, .long (f_chal x1 x3)]) (rest := [.long x1, .long (f_power (7 : Int64) x2)]) ⟨hx, hb, hml, hown, hts⟩ (c_P_power l x0 (f_chal x1 x3)) (cwS 2 hts (xa_S xw361 xw362 xw1 xw363) rfl rfl rfl (by decide +kernel) ⟨Nat.le_of_ble_eq_true rfl, Nat.le_of_ble_eq_true rfl⟩) preEq rfl rfl hl.1 rfl (lv_room (Nat.le_of_ble_eq_true rfl)) d_P_verifies_40 ⟨Nat.le_of_ble_eq_true rfl, Nat.le_of_ble_eq_true rfl⟩) (fun r_ e_ => ?_)
        subst e_
        refine lv_lmul hx hb d_P_verifies_43 ?_
        refine lv_ldc2 hx hb hown (ht _ xw364) d_P_verifies_44 ?_
        refine lv_lrem hx hb d_P_verifies_47 (by decide) ?_
        refine xb_lne (tgt := 56) hx hb d_P_verifies_48 d_P_verifies_49 (by decide) (fun c4 => ?_) (fun c4 => ?_)
        · skip
          refine lv_iconst (v := 0) hx hb d_P_verifies_56 (by decide) ?_
          exact W.zret (v := (0 : Int32)) hx hb hr rfl (fun t ht_ hW => ⟨_, rfl, ((if_neg c1).trans ((if_neg c2).trans ((if_neg c3).trans ((if_neg c4))))).symm, ht_⟩) (fun _ h_ => nomatch h_) d_P_verifies_57
        · skip
          refine lv_iconst (v := 1) hx hb d_P_verifies_52 (by decide) ?_
          refine lv_goto (tgt := 57) hx hb d_P_verifies_53 (by decide) ?_
          exact W.zret (v := (1 : Int32)) hx hb hr rfl (fun t ht_ hW => ⟨_, rfl, ((if_neg c1).trans ((if_neg c2).trans ((if_neg c3).trans ((if_pos c4))))).symm, ht_⟩) (fun _ h_ => nomatch h_) d_P_verifies_57
      · skip
        refine lv_iconst (v := 0) hx hb d_P_verifies_22 (by decide) ?_
        exact W.zret (v := (0 : Int32)) hx hb hr rfl (fun t ht_ hW => ⟨_, rfl, ((if_neg c1).trans ((if_neg c2).trans ((if_pos c3)))).symm, ht_⟩) (fun _ h_ => nomatch h_) d_P_verifies_23
