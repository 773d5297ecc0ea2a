abbrev b_P_mix : ByteArray := prog_1_method_36_code
def y_P_mix : MethodName := ⟨"SecurePair", "mix", "(JJ)J"⟩
abbrev w_P_mix : List Cond := .code y_P_mix b_P_mix 6 (some .long) :: xa
theorem d_P_mix_0 : decode b_P_mix 0 = .ok (.lload_n 0, 1) := by decide +kernel
theorem d_P_mix_1 : decode b_P_mix 1 = .ok (.ldc2_w 235, 3) := by decide +kernel
theorem d_P_mix_4 : decode b_P_mix 4 = .ok (.ladd, 1) := by decide +kernel
theorem d_P_mix_5 : decode b_P_mix 5 = .ok (.ldc2_w 237, 3) := by decide +kernel
theorem d_P_mix_8 : decode b_P_mix 8 = .ok (.lmul, 1) := by decide +kernel
theorem d_P_mix_9 : decode b_P_mix 9 = .ok (.lload_n 2, 1) := by decide +kernel
theorem d_P_mix_10 : decode b_P_mix 10 = .ok (.lxor, 1) := by decide +kernel
theorem d_P_mix_11 : decode b_P_mix 11 = .ok (.lstore 4, 2) := by decide +kernel
theorem d_P_mix_13 : decode b_P_mix 13 = .ok (.lload 4, 2) := by decide +kernel
theorem d_P_mix_15 : decode b_P_mix 15 = .ok (.lload 4, 2) := by decide +kernel
theorem d_P_mix_17 : decode b_P_mix 17 = .ok (.bipush 30, 2) := by decide +kernel
theorem d_P_mix_19 : decode b_P_mix 19 = .ok (.lushr, 1) := by decide +kernel
theorem d_P_mix_20 : decode b_P_mix 20 = .ok (.lxor, 1) := by decide +kernel
theorem d_P_mix_21 : decode b_P_mix 21 = .ok (.lstore 4, 2) := by decide +kernel
theorem d_P_mix_23 : decode b_P_mix 23 = .ok (.lload 4, 2) := by decide +kernel
theorem d_P_mix_25 : decode b_P_mix 25 = .ok (.ldc2_w 239, 3) := by decide +kernel
theorem d_P_mix_28 : decode b_P_mix 28 = .ok (.lmul, 1) := by decide +kernel
theorem d_P_mix_29 : decode b_P_mix 29 = .ok (.lstore 4, 2) := by decide +kernel
theorem d_P_mix_31 : decode b_P_mix 31 = .ok (.lload 4, 2) := by decide +kernel
theorem d_P_mix_33 : decode b_P_mix 33 = .ok (.lload 4, 2) := by decide +kernel
theorem d_P_mix_35 : decode b_P_mix 35 = .ok (.bipush 28, 2) := by decide +kernel
theorem d_P_mix_37 : decode b_P_mix 37 = .ok (.lushr, 1) := by decide +kernel
theorem d_P_mix_38 : decode b_P_mix 38 = .ok (.lxor, 1) := by decide +kernel
theorem d_P_mix_39 : decode b_P_mix 39 = .ok (.lstore 4, 2) := by decide +kernel
theorem d_P_mix_41 : decode b_P_mix 41 = .ok (.lload 4, 2) := by decide +kernel
theorem d_P_mix_43 : decode b_P_mix 43 = .ok (.lreturn, 1) := by decide +kernel
theorem xw392 : (Cond.constantLong "SecurePair" (235 : Nat) (8191 : Int64)) ∈ xa := xa_t 392 (by decide +kernel) (by decide +kernel)
theorem xw393 : (Cond.constantLong "SecurePair" (237 : Nat) (6700417 : Int64)) ∈ xa := xa_t 393 (by decide +kernel) (by decide +kernel)
theorem xw394 : (Cond.constantLong "SecurePair" (239 : Nat) (-4417276706812531889 : Int64)) ∈ xa := xa_t 394 (by decide +kernel) (by decide +kernel)
def f_mix (x0 : Int64) (x1 : Int64) : Int64 := ((((((x0 + (8191 : Int64)) * (6700417 : Int64)) ^^^ x1) ^^^ (xb_lushr (((x0 + (8191 : Int64)) * (6700417 : Int64)) ^^^ x1) (30 : Int32))) * (-4417276706812531889 : Int64)) ^^^ (xb_lushr (((((x0 + (8191 : Int64)) * (6700417 : Int64)) ^^^ x1) ^^^ (xb_lushr (((x0 + (8191 : Int64)) * (6700417 : Int64)) ^^^ x1) (30 : Int32))) * (-4417276706812531889 : Int64)) (28 : Int32)))
set_option maxHeartbeats 4000000 in
set_option maxRecDepth 100000 in
theorem c_P_mix (l : Launch) (x0 : Int64) (x1 : Int64) : Met l y_P_mix w_P_mix ({ frames := 0, cells := 0, slots := 0, locals := 0 }) (fun av_ _ => av_ = ([.long x0, .long x1] : List Value).toArray) (vp_Sl (fun r => r = f_mix x0 x1)) 0 0 (fun _ => False) := by
  refine Met.ofW (cc := b_P_mix) (maxL := 6) (ret := (some .long)) (by decide) rfl ?_
  intro p e s m args below meth c s₁ B hml hv
  subst hv
  have hx := B.exec
  have hb := B.bytes
  have hr := B.returns
  have hts := atoms_spec (ws := w_P_mix) B.pre
  have ht : ∀ w ∈ xa, w.before _ s = true := fun w h => hts w (List.mem_cons_of_mem _ h)
  have hown : s.vm.findClass "SecurePair" = some m.cls := findClass_of_methodNamed B.named
  have hlocks := B.notSynchronized
  have hl := lv_entry ([.long x0, .long x1]) (n := 6) (Nat.le_of_ble_eq_true rfl)
  rw [lg_entry_eq]
  generalize (lg_sl ([.long x0, .long x1]) ++ List.replicate (6 - (lg_sl ([.long x0, .long x1])).length) Slot.unset).toArray = ls at hl ⊢
  have hl : lv_has ls 6 [(0, .long x0), (2, .long x1)] := hl
  refine lv_lload_n hx hb d_P_mix_0 rfl (lv_at hl 0 rfl) ?_
  refine lv_ldc2 hx hb hown (ht _ xw392) d_P_mix_1 ?_
  refine lv_ladd hx hb d_P_mix_4 ?_
  refine lv_ldc2 hx hb hown (ht _ xw393) d_P_mix_5 ?_
  refine lv_lmul hx hb d_P_mix_8 ?_
  refine lv_lload_n hx hb d_P_mix_9 rfl (lv_at hl 1 rfl) ?_
  refine lv_lxor hx hb d_P_mix_10 ?_
  refine lv_lstore (lv' := [(4, .long (((x0 + (8191 : Int64)) * (6700417 : Int64)) ^^^ x1)), (0, .long x0), (2, .long x1)]) hx hb d_P_mix_11 hl (by decide) rfl (fun ls hl => ?_)
  refine lv_lload hx hb d_P_mix_13 (lv_at hl 0 rfl) ?_
  refine lv_lload hx hb d_P_mix_15 (lv_at hl 0 rfl) ?_
  refine lv_bipush (v := 30) hx hb d_P_mix_17 (by decide) ?_
  refine lv_lushr (v := (xb_lushr (((x0 + (8191 : Int64)) * (6700417 : Int64)) ^^^ x1) (30 : Int32))) hx hb d_P_mix_19 rfl ?_
  refine lv_lxor hx hb d_P_mix_20 ?_
  refine lv_lstore (lv' := [(4, .long ((((x0 + (8191 : Int64)) * (6700417 : Int64)) ^^^ x1) ^^^ (xb_lushr (((x0 + (8191 : Int64)) * (6700417 : Int64)) ^^^ x1) (30 : Int32)))), (0, .long x0), (2, .long x1)]) hx hb d_P_mix_21 hl (by decide) rfl (fun ls hl => ?_)
  refine lv_lload hx hb d_P_mix_23 (lv_at hl 0 rfl) ?_
  refine lv_ldc2 hx hb hown (ht _ xw394) d_P_mix_25 ?_
  refine lv_lmul hx hb d_P_mix_28 ?_
  refine lv_lstore (lv' := [(4, .long (((((x0 + (8191 : Int64)) * (6700417 : Int64)) ^^^ x1) ^^^ (xb_lushr (((x0 + (8191 : Int64)) * (6700417 : Int64)) ^^^ x1) (30 : Int32))) * (-4417276706812531889 : Int64))), (0, .long x0), (2, .long x1)]) hx hb d_P_mix_29 hl (by decide) rfl (fun ls hl => ?_)
  refine lv_lload hx hb d_P_mix_31 (lv_at hl 0 rfl) ?_
  refine lv_lload hx hb d_P_mix_33 (lv_at hl 0 rfl) ?_
  refine lv_bipush (v := 28) hx hb d_P_mix_35 (by decide) ?_
  refine lv_lushr (v := (xb_lushr (((((x0 + (8191 : Int64)) * (6700417 : Int64)) ^^^ x1) ^^^ (xb_lushr (((x0 + (8191 : Int64)) * (6700417 : Int64)) ^^^ x1) (30 : Int32))) * (-4417276706812531889 : Int64)) (28 : Int32))) hx hb d_P_mix_37 rfl ?_
  refine lv_lxor hx hb d_P_mix_38 ?_
  refine lv_lstore (lv' := [(4, .long ((((((x0 + (8191 : Int64)) * (6700417 : Int64)) ^^^ x1) ^^^ (xb_lushr (((x0 + (8191 : Int64)) * (6700417 : Int64)) ^^^ x1) (30 : Int32))) * (-4417276706812531889 : Int64)) ^^^ (xb_lushr (((((x0 + (8191 : Int64)) * (6700417 : Int64)) ^^^ x1) ^^^ (xb_lushr (((x0 + (8191 : Int64)) * (6700417 : Int64)) ^^^ x1) (30 : Int32))) * (-4417276706812531889 : Int64)) (28 : Int32)))), (0, .long x0), (2, .long x1)]) hx hb d_P_mix_39 hl (by decide) rfl (fun ls hl => ?_)
  refine lv_lload hx hb d_P_mix_41 (lv_at hl 0 rfl) ?_
  exact W.lret (v := ((((((x0 + (8191 : Int64)) * (6700417 : Int64)) ^^^ x1) ^^^ (xb_lushr (((x0 + (8191 : Int64)) * (6700417 : Int64)) ^^^ x1) (30 : Int32))) * (-4417276706812531889 : Int64)) ^^^ (xb_lushr (((((x0 + (8191 : Int64)) * (6700417 : Int64)) ^^^ x1) ^^^ (xb_lushr (((x0 + (8191 : Int64)) * (6700417 : Int64)) ^^^ x1) (30 : Int32))) * (-4417276706812531889 : Int64)) (28 : Int32)))) hx hb hr (fun t ht_ hW => ⟨_, rfl, rfl, ht_⟩) (fun _ h_ => nomatch h_) d_P_mix_43
abbrev b_P_isPart : ByteArray := prog_1_method_29_code
def y_P_isPart : MethodName := ⟨"SecurePair", "isPart", "(I)Z"⟩
abbrev w_P_isPart : List Cond := .code y_P_isPart b_P_isPart 1 (some .boolean) :: xa
theorem d_P_isPart_0 : decode b_P_isPart 0 = .ok (.iload_n 0, 1) := by decide +kernel
theorem d_P_isPart_1 : decode b_P_isPart 1 = .ok (.ifCond .lt 13, 3) := by decide +kernel
theorem d_P_isPart_4 : decode b_P_isPart 4 = .ok (.iload_n 0, 1) := by decide +kernel
theorem d_P_isPart_5 : decode b_P_isPart 5 = .ok (.bipush 6, 2) := by decide +kernel
theorem d_P_isPart_7 : decode b_P_isPart 7 = .ok (.if_icmp .ge 7, 3) := by decide +kernel
theorem d_P_isPart_10 : decode b_P_isPart 10 = .ok (.iconst 1, 1) := by decide +kernel
theorem d_P_isPart_11 : decode b_P_isPart 11 = .ok (.goto 4, 3) := by decide +kernel
theorem d_P_isPart_14 : decode b_P_isPart 14 = .ok (.iconst 0, 1) := by decide +kernel
theorem d_P_isPart_15 : decode b_P_isPart 15 = .ok (.ireturn, 1) := by decide +kernel
def f_isPart (x0 : Int32) : Int32 := (if x0 < 0 then (0 : Int32) else (if (6 : Int32) ≤ x0 then (0 : Int32) else (1 : Int32)))
set_option maxHeartbeats 4000000 in
set_option maxRecDepth 100000 in
theorem c_P_isPart (l : Launch) (x0 : Int32) : Met l y_P_isPart w_P_isPart ({ frames := 0, cells := 0, slots := 0, locals := 0 }) (fun av_ _ => av_ = ([.int x0] : List Value).toArray) (vp_Si (fun r => r = f_isPart x0)) 0 0 (fun _ => False) := by
  refine Met.ofW (cc := b_P_isPart) (maxL := 1) (ret := (some .boolean)) (by decide) rfl ?_
  intro p e s m args below meth c s₁ B hml hv
  subst hv
  have hx := B.exec
  have hb := B.bytes
  have hr := B.returns
  have hts := atoms_spec (ws := w_P_isPart) B.pre
  have ht : ∀ w ∈ xa, w.before _ s = true := fun w h => hts w (List.mem_cons_of_mem _ h)
  have hown : s.vm.findClass "SecurePair" = some m.cls := findClass_of_methodNamed B.named
  have hlocks := B.notSynchronized
  have hl := lv_entry ([.int x0]) (n := 1) (Nat.le_of_ble_eq_true rfl)
  rw [lg_entry_eq]
  generalize (lg_sl ([.int x0]) ++ List.replicate (1 - (lg_sl ([.int x0])).length) Slot.unset).toArray = ls at hl ⊢
  have hl : lv_has ls 1 [(0, .int x0)] := hl
  refine lv_iload_n hx hb d_P_isPart_0 rfl (lv_at hl 0 rfl) ?_
  refine lv_if_lt (tgt := 14) hx hb d_P_isPart_1 (by decide) (fun c1 => ?_) (fun c1 => ?_)
  · skip
    refine lv_iconst (v := 0) hx hb d_P_isPart_14 (by decide) ?_
    exact W.zret (v := (0 : Int32)) hx hb hr rfl (fun t ht_ hW => ⟨_, rfl, ((if_pos c1)).symm, ht_⟩) (fun _ h_ => nomatch h_) d_P_isPart_15
  · skip
    refine lv_iload_n hx hb d_P_isPart_4 rfl (lv_at hl 0 rfl) ?_
    refine lv_bipush (v := 6) hx hb d_P_isPart_5 (by decide) ?_
    refine lv_icmp_ge (tgt := 14) hx hb d_P_isPart_7 (by decide) (fun c2 => ?_) (fun c2 => ?_)
    · skip
      refine lv_iconst (v := 0) hx hb d_P_isPart_14 (by decide) ?_
      exact W.zret (v := (0 : Int32)) hx hb hr rfl (fun t ht_ hW => ⟨_, rfl, ((if_neg c1).trans ((if_pos c2))).symm, ht_⟩) (fun _ h_ => nomatch h_) d_P_isPart_15
    · skip
      refine lv_iconst (v := 1) hx hb d_P_isPart_10 (by decide) ?_
      refine lv_goto (tgt := 15) hx hb d_P_isPart_11 (by decide) ?_
      exact W.zret (v := (1 : Int32)) hx hb hr rfl (fun t ht_ hW => ⟨_, rfl, ((if_neg c1).trans ((if_neg c2))).symm, ht_⟩) (fun _ h_ => nomatch h_) d_P_isPart_15
abbrev b_P_isSecret : ByteArray := prog_1_method_30_code
def y_P_isSecret : MethodName := ⟨"SecurePair", "isSecret", "(I)Z"⟩
abbrev w_P_isSecret : List Cond := .code y_P_isSecret b_P_isSecret 1 (some .boolean) :: xa
theorem d_P_isSecret_0 : decode b_P_isSecret 0 = .ok (.iload_n 0, 1) := by decide +kernel
theorem d_P_isSecret_1 : decode b_P_isSecret 1 = .ok (.iconst 1, 1) := by decide +kernel
theorem d_P_isSecret_2 : decode b_P_isSecret 2 = .ok (.if_icmp .lt 13, 3) := by decide +kernel
theorem d_P_isSecret_5 : decode b_P_isSecret 5 = .ok (.iload_n 0, 1) := by decide +kernel
theorem d_P_isSecret_6 : decode b_P_isSecret 6 = .ok (.ldc 222, 2) := by decide +kernel
theorem d_P_isSecret_8 : decode b_P_isSecret 8 = .ok (.if_icmp .gt 7, 3) := by decide +kernel
theorem d_P_isSecret_11 : decode b_P_isSecret 11 = .ok (.iconst 1, 1) := by decide +kernel
theorem d_P_isSecret_12 : decode b_P_isSecret 12 = .ok (.goto 4, 3) := by decide +kernel
theorem d_P_isSecret_15 : decode b_P_isSecret 15 = .ok (.iconst 0, 1) := by decide +kernel
theorem d_P_isSecret_16 : decode b_P_isSecret 16 = .ok (.ireturn, 1) := by decide +kernel
theorem xw356 : (Cond.constant "SecurePair" (222 : Nat) (2147483645 : Int32)) ∈ xa := xa_t 356 (by decide +kernel) (by decide +kernel)
def f_isSecret (x0 : Int32) : Int32 := (if x0 < (1 : Int32) then (0 : Int32) else (if (2147483645 : Int32) < x0 then (0 : Int32) else (1 : Int32)))
set_option maxHeartbeats 4000000 in
set_option maxRecDepth 100000 in
theorem c_P_isSecret (l : Launch) (x0 : Int32) : Met l y_P_isSecret w_P_isSecret ({ frames := 0, cells := 0, slots := 0, locals := 0 }) (fun av_ _ => av_ = ([.int x0] : List Value).toArray) (vp_Si (fun r => r = f_isSecret x0)) 0 0 (fun _ => False) := by
  refine Met.ofW (cc := b_P_isSecret) (maxL := 1) (ret := (some .boolean)) (by decide) rfl ?_
  intro p e s m args below meth c s₁ B hml hv
  subst hv
  have hx := B.exec
  have hb := B.bytes
  have hr := B.returns
  have hts := atoms_spec (ws := w_P_isSecret) B.pre
  have ht : ∀ w ∈ xa, w.before _ s = true := fun w h => hts w (List.mem_cons_of_mem _ h)
  have hown : s.vm.findClass "SecurePair" = some m.cls := findClass_of_methodNamed B.named
  have hlocks := B.notSynchronized
  have hl := lv_entry ([.int x0]) (n := 1) (Nat.le_of_ble_eq_true rfl)
  rw [lg_entry_eq]
  generalize (lg_sl ([.int x0]) ++ List.replicate (1 - (lg_sl ([.int x0])).length) Slot.unset).toArray = ls at hl ⊢
  have hl : lv_has ls 1 [(0, .int x0)] := hl
  refine lv_iload_n hx hb d_P_isSecret_0 rfl (lv_at hl 0 rfl) ?_
  refine lv_iconst (v := 1) hx hb d_P_isSecret_1 (by decide) ?_
  refine lv_icmp_lt (tgt := 15) hx hb d_P_isSecret_2 (by decide) (fun c1 => ?_) (fun c1 => ?_)
  · skip
    refine lv_iconst (v := 0) hx hb d_P_isSecret_15 (by decide) ?_
    exact W.zret (v := (0 : Int32)) hx hb hr rfl (fun t ht_ hW => ⟨_, rfl, ((if_pos c1)).symm, ht_⟩) (fun _ h_ => nomatch h_) d_P_isSecret_16
  · skip
    refine lv_iload_n hx hb d_P_isSecret_5 rfl (lv_at hl 0 rfl) ?_
    refine lv_ldc hx hb hown (ht _ xw356) d_P_isSecret_6 ?_
    refine lv_icmp_gt (tgt := 15) hx hb d_P_isSecret_8 (by decide) (fun c2 => ?_) (fun c2 => ?_)
    · skip
      refine lv_iconst (v := 0) hx hb d_P_isSecret_15 (by decide) ?_
      exact W.zret (v := (0 : Int32)) hx hb hr rfl (fun t ht_ hW => ⟨_, rfl, ((if_neg c1).trans ((if_pos c2))).symm, ht_⟩) (fun _ h_ => nomatch h_) d_P_isSecret_16
    · skip
      refine lv_iconst (v := 1) hx hb d_P_isSecret_11 (by decide) ?_
      refine lv_goto (tgt := 16) hx hb d_P_isSecret_12 (by decide) ?_
      exact W.zret (v := (1 : Int32)) hx hb hr rfl (fun t ht_ hW => ⟨_, rfl, ((if_neg c1).trans ((if_neg c2))).symm, ht_⟩) (fun _ h_ => nomatch h_) d_P_isSecret_16
abbrev b_P_isShare : ByteArray := prog_1_method_31_code
def y_P_isShare : MethodName := ⟨"SecurePair", "isShare", "(J)Z"⟩
abbrev w_P_isShare : List Cond := .code y_P_isShare b_P_isShare 2 (some .boolean) :: xa
theorem d_P_isShare_0 : decode b_P_isShare 0 = .ok (.lload_n 0, 1) := by decide +kernel
theorem d_P_isShare_1 : decode b_P_isShare 1 = .ok (.ldc2_w 223, 3) := by decide +kernel
theorem d_P_isShare_4 : decode b_P_isShare 4 = .ok (.lcmp, 1) := by decide +kernel
theorem d_P_isShare_5 : decode b_P_isShare 5 = .ok (.ifCond .lt 15, 3) := by decide +kernel
theorem d_P_isShare_8 : decode b_P_isShare 8 = .ok (.lload_n 0, 1) := by decide +kernel
theorem d_P_isShare_9 : decode b_P_isShare 9 = .ok (.ldc2_w 225, 3) := by decide +kernel
theorem d_P_isShare_12 : decode b_P_isShare 12 = .ok (.lcmp, 1) := by decide +kernel
theorem d_P_isShare_13 : decode b_P_isShare 13 = .ok (.ifCond .gt 7, 3) := by decide +kernel
theorem d_P_isShare_16 : decode b_P_isShare 16 = .ok (.iconst 1, 1) := by decide +kernel
theorem d_P_isShare_17 : decode b_P_isShare 17 = .ok (.goto 4, 3) := by decide +kernel
theorem d_P_isShare_20 : decode b_P_isShare 20 = .ok (.iconst 0, 1) := by decide +kernel
theorem d_P_isShare_21 : decode b_P_isShare 21 = .ok (.ireturn, 1) := by decide +kernel
theorem xw704 : (Cond.constantLong "SecurePair" (223 : Nat) (2 : Int64)) ∈ xa := xa_t 704 (by decide +kernel) (by decide +kernel)
theorem xw705 : (Cond.constantLong "SecurePair" (225 : Nat) (2147483645 : Int64)) ∈ xa := xa_t 705 (by decide +kernel) (by decide +kernel)
def f_isShare (x0 : Int64) : Int32 := (if x0 < (2 : Int64) then (0 : Int32) else (if (2147483645 : Int64) < x0 then (0 : Int32) else (1 : Int32)))
set_option maxHeartbeats 4000000 in
set_option maxRecDepth 100000 in
theorem c_P_isShare (l : Launch) (x0 : Int64) : Met l y_P_isShare w_P_isShare ({ frames := 0, cells := 0, slots := 0, locals := 0 }) (fun av_ _ => av_ = ([.long x0] : List Value).toArray) (vp_Si (fun r => r = f_isShare x0)) 0 0 (fun _ => False) := by
  refine Met.ofW (cc := b_P_isShare) (maxL := 2) (ret := (some .boolean)) (by decide) rfl ?_
  intro p e s m args below meth c s₁ B hml hv
  subst hv
  have hx := B.exec
  have hb := B.bytes
  have hr := B.returns
  have hts := atoms_spec (ws := w_P_isShare) B.pre
  have ht : ∀ w ∈ xa, w.before _ s = true := fun w h => hts w (List.mem_cons_of_mem _ h)
  have hown : s.vm.findClass "SecurePair" = some m.cls := findClass_of_methodNamed B.named
  have hlocks := B.notSynchronized
  have hl := lv_entry ([.long x0]) (n := 2) (Nat.le_of_ble_eq_true rfl)
  rw [lg_entry_eq]
  generalize (lg_sl ([.long x0]) ++ List.replicate (2 - (lg_sl ([.long x0])).length) Slot.unset).toArray = ls at hl ⊢
  have hl : lv_has ls 2 [(0, .long x0)] := hl
  refine lv_lload_n hx hb d_P_isShare_0 rfl (lv_at hl 0 rfl) ?_
  refine lv_ldc2 hx hb hown (ht _ xw704) d_P_isShare_1 ?_
  refine xb_llt (tgt := 20) hx hb d_P_isShare_4 d_P_isShare_5 (by decide) (fun c1 => ?_) (fun c1 => ?_)
  · skip
    refine lv_iconst (v := 0) hx hb d_P_isShare_20 (by decide) ?_
    exact W.zret (v := (0 : Int32)) hx hb hr rfl (fun t ht_ hW => ⟨_, rfl, ((if_pos c1)).symm, ht_⟩) (fun _ h_ => nomatch h_) d_P_isShare_21
  · skip
    refine lv_lload_n hx hb d_P_isShare_8 rfl (lv_at hl 0 rfl) ?_
    refine lv_ldc2 hx hb hown (ht _ xw705) d_P_isShare_9 ?_
    refine xb_lgt (tgt := 20) hx hb d_P_isShare_12 d_P_isShare_13 (by decide) (fun c2 => ?_) (fun c2 => ?_)
    · skip
      refine lv_iconst (v := 0) hx hb d_P_isShare_20 (by decide) ?_
      exact W.zret (v := (0 : Int32)) hx hb hr rfl (fun t ht_ hW => ⟨_, rfl, ((if_neg c1).trans ((if_pos c2))).symm, ht_⟩) (fun _ h_ => nomatch h_) d_P_isShare_21
    · skip
      refine lv_iconst (v := 1) hx hb d_P_isShare_16 (by decide) ?_
      refine lv_goto (tgt := 21) hx hb d_P_isShare_17 (by decide) ?_
      exact W.zret (v := (1 : Int32)) hx hb hr rfl (fun t ht_ hW => ⟨_, rfl, ((if_neg c1).trans ((if_neg c2))).symm, ht_⟩) (fun _ h_ => nomatch h_) d_P_isShare_21
abbrev b_P_isGroupNumber : ByteArray := prog_1_method_32_code
def y_P_isGroupNumber : MethodName := ⟨"SecurePair", "isGroupNumber", "(J)Z"⟩
abbrev w_P_isGroupNumber : List Cond := .code y_P_isGroupNumber b_P_isGroupNumber 2 (some .boolean) :: xa
theorem d_P_isGroupNumber_0 : decode b_P_isGroupNumber 0 = .ok (.lload_n 0, 1) := by decide +kernel
theorem d_P_isGroupNumber_1 : decode b_P_isGroupNumber 1 = .ok (.lconst 1, 1) := by decide +kernel
theorem d_P_isGroupNumber_2 : decode b_P_isGroupNumber 2 = .ok (.lcmp, 1) := by decide +kernel
theorem d_P_isGroupNumber_3 : decode b_P_isGroupNumber 3 = .ok (.ifCond .lt 15, 3) := by decide +kernel
theorem d_P_isGroupNumber_6 : decode b_P_isGroupNumber 6 = .ok (.lload_n 0, 1) := by decide +kernel
theorem d_P_isGroupNumber_7 : decode b_P_isGroupNumber 7 = .ok (.ldc2_w 227, 3) := by decide +kernel
theorem d_P_isGroupNumber_10 : decode b_P_isGroupNumber 10 = .ok (.lcmp, 1) := by decide +kernel
theorem d_P_isGroupNumber_11 : decode b_P_isGroupNumber 11 = .ok (.ifCond .ge 7, 3) := by decide +kernel
theorem d_P_isGroupNumber_14 : decode b_P_isGroupNumber 14 = .ok (.iconst 1, 1) := by decide +kernel
theorem d_P_isGroupNumber_15 : decode b_P_isGroupNumber 15 = .ok (.goto 4, 3) := by decide +kernel
theorem d_P_isGroupNumber_18 : decode b_P_isGroupNumber 18 = .ok (.iconst 0, 1) := by decide +kernel
theorem d_P_isGroupNumber_19 : decode b_P_isGroupNumber 19 = .ok (.ireturn, 1) := by decide +kernel
theorem xw364 : (Cond.constantLong "SecurePair" (227 : Nat) (2147483647 : Int64)) ∈ xa := xa_t 364 (by decide +kernel) (by decide +kernel)
def f_isGroup (x0 : Int64) : Int32 := (if x0 < (1 : Int64) then (0 : Int32) else (if (2147483647 : Int64) ≤ x0 then (0 : Int32) else (1 : Int32)))
set_option maxHeartbeats 4000000 in
set_option maxRecDepth 100000 in
theorem c_P_isGroupNumber (l : Launch) (x0 : Int64) : Met l y_P_isGroupNumber w_P_isGroupNumber ({ frames := 0, cells := 0, slots := 0, locals := 0 }) (fun av_ _ => av_ = ([.long x0] : List Value).toArray) (vp_Si (fun r => r = f_isGroup x0)) 0 0 (fun _ => False) := by
  refine Met.ofW (cc := b_P_isGroupNumber) (maxL := 2) (ret := (some .boolean)) (by decide) rfl ?_
  intro p e s m args below meth c s₁ B hml hv
  subst hv
  have hx := B.exec
  have hb := B.bytes
  have hr := B.returns
  have hts := atoms_spec (ws := w_P_isGroupNumber) B.pre
  have ht : ∀ w ∈ xa, w.before _ s = true := fun w h => hts w (List.mem_cons_of_mem _ h)
  have hown : s.vm.findClass "SecurePair" = some m.cls := findClass_of_methodNamed B.named
  have hlocks := B.notSynchronized
  have hl := lv_entry ([.long x0]) (n := 2) (Nat.le_of_ble_eq_true rfl)
  rw [lg_entry_eq]
  generalize (lg_sl ([.long x0]) ++ List.replicate (2 - (lg_sl ([.long x0])).length) Slot.unset).toArray = ls at hl ⊢
  have hl : lv_has ls 2 [(0, .long x0)] := hl
  refine lv_lload_n hx hb d_P_isGroupNumber_0 rfl (lv_at hl 0 rfl) ?_
  refine lv_lconst (v := 1) hx hb d_P_isGroupNumber_1 (by decide) ?_
  refine xb_llt (tgt := 18) hx hb d_P_isGroupNumber_2 d_P_isGroupNumber_3 (by decide) (fun c1 => ?_) (fun c1 => ?_)
  · skip
    refine lv_iconst (v := 0) hx hb d_P_isGroupNumber_18 (by decide) ?_
    exact W.zret (v := (0 : Int32)) hx hb hr rfl (fun t ht_ hW => ⟨_, rfl, ((if_pos c1)).symm, ht_⟩) (fun _ h_ => nomatch h_) d_P_isGroupNumber_19
  · skip
    refine lv_lload_n hx hb d_P_isGroupNumber_6 rfl (lv_at hl 0 rfl) ?_
    refine lv_ldc2 hx hb hown (ht _ xw364) d_P_isGroupNumber_7 ?_
    refine xb_lge (tgt := 18) hx hb d_P_isGroupNumber_10 d_P_isGroupNumber_11 (by decide) (fun c2 => ?_) (fun c2 => ?_)
    · skip
      refine lv_iconst (v := 0) hx hb d_P_isGroupNumber_18 (by decide) ?_
      exact W.zret (v := (0 : Int32)) hx hb hr rfl (fun t ht_ hW => ⟨_, rfl, ((if_neg c1).trans ((if_pos c2))).symm, ht_⟩) (fun _ h_ => nomatch h_) d_P_isGroupNumber_19
    · skip
      refine lv_iconst (v := 1) hx hb d_P_isGroupNumber_14 (by decide) ?_
      refine lv_goto (tgt := 19) hx hb d_P_isGroupNumber_15 (by decide) ?_
      exact W.zret (v := (1 : Int32)) hx hb hr rfl (fun t ht_ hW => ⟨_, rfl, ((if_neg c1).trans ((if_neg c2))).symm, ht_⟩) (fun _ h_ => nomatch h_) d_P_isGroupNumber_19
abbrev b_P_challenge : ByteArray := prog_1_method_38_code
def y_P_challenge : MethodName := ⟨"SecurePair", "challenge", "(JJ)J"⟩
abbrev w_P_challenge : List Cond := .code y_P_challenge b_P_challenge 4 (some .long) :: xa
theorem d_P_challenge_0 : decode b_P_challenge 0 = .ok (.lconst 0, 1) := by decide +kernel
theorem d_P_challenge_1 : decode b_P_challenge 1 = .ok (.lload_n 0, 1) := by decide +kernel
theorem d_P_challenge_2 : decode b_P_challenge 2 = .ok (.invokestatic 241, 3) := by decide +kernel
theorem d_P_challenge_5 : decode b_P_challenge 5 = .ok (.lload_n 2, 1) := by decide +kernel
theorem d_P_challenge_6 : decode b_P_challenge 6 = .ok (.invokestatic 241, 3) := by decide +kernel
theorem d_P_challenge_9 : decode b_P_challenge 9 = .ok (.bipush 34, 2) := by decide +kernel
theorem d_P_challenge_11 : decode b_P_challenge 11 = .ok (.lushr, 1) := by decide +kernel
theorem d_P_challenge_12 : decode b_P_challenge 12 = .ok (.lreturn, 1) := by decide +kernel
theorem xw1 : (Cond.initialized "SecurePair") ∈ xa := xa_t 1 (by decide +kernel) (by decide +kernel)
theorem xw390 : (Cond.static ({ cls := "SecurePair", name := "mix", desc := "(JJ)J" } : MethodName)) ∈ xa := xa_t 390 (by decide +kernel) (by decide +kernel)
theorem xw391 : (Cond.code ({ cls := "SecurePair", name := "mix", desc := "(JJ)J" } : MethodName) prog_1_method_36_code (6 : Nat) (Option.some ClassFile.FieldType.long)) ∈ xa := xa_t 391 (by decide +kernel) (by decide +kernel)
theorem xw723 : (Cond.methodLink "SecurePair" (241 : Nat) ({ cls := "SecurePair", name := "mix", desc := "(JJ)J" } : MethodName)) ∈ xa := xa_t 723 (by decide +kernel) (by decide +kernel)
def f_chal (x0 : Int64) (x1 : Int64) : Int64 := (xb_lushr (f_mix (f_mix (0 : Int64) x0) x1) (34 : Int32))
set_option maxHeartbeats 4000000 in
set_option maxRecDepth 100000 in
theorem c_P_challenge (l : Launch) (x0 : Int64) (x1 : Int64) : Met l y_P_challenge w_P_challenge ({ frames := 1, cells := 0, slots := 0, locals := 25 }) (fun av_ _ => av_ = ([.long x0, .long x1] : List Value).toArray) (vp_Sl (fun r => r = f_chal x0 x1)) 0 0 (fun _ => False) := by
  refine Met.ofW (cc := b_P_challenge) (maxL := 4) (ret := (some .long)) (by decide) rfl ?_
  intro p e s m args below meth c s₁ B hml hv
  subst hv
  have hx := B.exec
  have hb := B.bytes
  have hr := B.returns
  have hts := atoms_spec (ws := w_P_challenge) B.pre
  have ht : ∀ w ∈ xa, w.before _ s = true := fun w h => hts w (List.mem_cons_of_mem _ h)
  have hown : s.vm.findClass "SecurePair" = some m.cls := findClass_of_methodNamed B.named
  have hlocks := B.notSynchronized
  have hl := lv_entry ([.long x0, .long x1]) (n := 4) (Nat.le_of_ble_eq_true rfl)
  rw [lg_entry_eq]
  generalize (lg_sl ([.long x0, .long x1]) ++ List.replicate (4 - (lg_sl ([.long x0, .long x1])).length) Slot.unset).toArray = ls at hl ⊢
  have hl : lv_has ls 4 [(0, .long x0), (2, .long x1)] := hl
  refine lv_lconst (v := 0) hx hb d_P_challenge_0 (by decide) ?_
  refine lv_lload_n hx hb d_P_challenge_1 rfl (lv_at hl 0 rfl) ?_
  refine vp_callSl (W.runS (As := [.long (0 : Int64), .long x0]) (rest := []) ⟨hx, hb, hml, hown, hts⟩ (c_P_mix l (0 : Int64) x0) (cwS 2 hts (xa_S xw723 xw390 xw1 xw391) rfl rfl rfl (by decide +kernel) ⟨Nat.le_of_ble_eq_true rfl, Nat.le_of_ble_eq_true rfl⟩) preEq rfl rfl hl.1 rfl (lv_room (Nat.le_of_ble_eq_true rfl)) d_P_challenge_2 ⟨Nat.le_of_ble_eq_true rfl, Nat.le_of_ble_eq_true rfl⟩) (fun r_ e_ => ?_)
  subst e_
  refine lv_lload_n hx hb d_P_challenge_5 rfl (lv_at hl 1 rfl) ?_
  refine vp_callSl (W.runS (As := [.long (f_mix (0 : Int64) x0), .long x1]) (rest := []) ⟨hx, hb, hml, hown, hts⟩ (c_P_mix l (f_mix (0 : Int64) x0) x1) (cwS 2 hts (xa_S xw723 xw390 xw1 xw391) rfl rfl rfl (by decide +kernel) ⟨Nat.le_of_ble_eq_true rfl, Nat.le_of_ble_eq_true rfl⟩) preEq rfl rfl hl.1 rfl (lv_room (Nat.le_of_ble_eq_true rfl)) d_P_challenge_6 ⟨Nat.le_of_ble_eq_true rfl, Nat.le_of_ble_eq_true rfl⟩) (fun r_ e_ => ?_)
  subst e_
  refine lv_bipush (v := 34) hx hb d_P_challenge_9 (by decide) ?_
  refine lv_lushr (v := (xb_lushr (f_mix (f_mix (0 : Int64) x0) x1) (34 : Int32))) hx hb d_P_challenge_11 rfl ?_
  exact W.lret (v := (xb_lushr (f_mix (f_mix (0 : Int64) x0) x1) (34 : Int32))) hx hb hr (fun t ht_ hW => ⟨_, rfl, rfl, ht_⟩) (fun _ h_ => nomatch h_) d_P_challenge_12
