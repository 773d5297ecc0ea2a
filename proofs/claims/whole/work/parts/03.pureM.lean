abbrev b_M_isEnd : ByteArray := prog_12_method_4_code
def y_M_isEnd : MethodName := ⟨"SecurePairModel", "isEnd", "(I)Z"⟩
abbrev w_M_isEnd : List Cond := .code y_M_isEnd b_M_isEnd 1 (some .boolean) :: xa
theorem d_M_isEnd_0 : decode b_M_isEnd 0 = .ok (.iload_n 0, 1) := by decide +kernel
theorem d_M_isEnd_1 : decode b_M_isEnd 1 = .ok (.ifCond .eq 8, 3) := by decide +kernel
theorem d_M_isEnd_4 : decode b_M_isEnd 4 = .ok (.iload_n 0, 1) := by decide +kernel
theorem d_M_isEnd_5 : decode b_M_isEnd 5 = .ok (.iconst 1, 1) := by decide +kernel
theorem d_M_isEnd_6 : decode b_M_isEnd 6 = .ok (.if_icmp .ne 7, 3) := by decide +kernel
theorem d_M_isEnd_9 : decode b_M_isEnd 9 = .ok (.iconst 1, 1) := by decide +kernel
theorem d_M_isEnd_10 : decode b_M_isEnd 10 = .ok (.goto 4, 3) := by decide +kernel
theorem d_M_isEnd_13 : decode b_M_isEnd 13 = .ok (.iconst 0, 1) := by decide +kernel
theorem d_M_isEnd_14 : decode b_M_isEnd 14 = .ok (.ireturn, 1) := by decide +kernel
def g_isEnd (x0 : Int32) : Int32 := (if x0 = 0 then (1 : Int32) else (if x0 = (1 : Int32) then (1 : Int32) else (0 : Int32)))
set_option maxHeartbeats 4000000 in
set_option maxRecDepth 100000 in
theorem c_M_isEnd (l : Launch) (x0 : Int32) : Met l y_M_isEnd w_M_isEnd ({ frames := 0, cells := 0, slots := 0, locals := 0 }) (fun av_ _ => av_ = ([.int x0] : List Value).toArray) (vp_Si (fun r => r = g_isEnd x0)) 0 0 (fun _ => False) := by
  refine Met.ofW (cc := b_M_isEnd) (maxL := 1) (ret := (some .boolean)) (by decide) rfl ?_
  intro p e s m args below meth c s₁ B hml hv
  subst hv
  have hx := B.exec
  have hb := B.bytes
  have hr := B.returns
  have hts := atoms_spec (ws := w_M_isEnd) B.pre
  have ht : ∀ w ∈ xa, w.before _ s = true := fun w h => hts w (List.mem_cons_of_mem _ h)
  have hown : s.vm.findClass "SecurePairModel" = some m.cls := findClass_of_methodNamed B.named
  have hlocks := B.notSynchronized
  have hl := lv_entry ([.int x0]) (n := 1) (Nat.le_of_ble_eq_true rfl)
  rw [lg_entry_eq]
  generalize (lg_sl ([.int x0]) ++ List.replicate (1 - (lg_sl ([.int x0])).length) Slot.unset).toArray = ls at hl ⊢
  have hl : lv_has ls 1 [(0, .int x0)] := hl
  refine lv_iload_n hx hb d_M_isEnd_0 rfl (lv_at hl 0 rfl) ?_
  refine lv_if_eq (tgt := 9) hx hb d_M_isEnd_1 (by decide) (fun c1 => ?_) (fun c1 => ?_)
  · skip
    refine lv_iconst (v := 1) hx hb d_M_isEnd_9 (by decide) ?_
    refine lv_goto (tgt := 14) hx hb d_M_isEnd_10 (by decide) ?_
    exact W.zret (v := (1 : Int32)) hx hb hr rfl (fun t ht_ hW => ⟨_, rfl, ((if_pos c1)).symm, ht_⟩) (fun _ h_ => nomatch h_) d_M_isEnd_14
  · skip
    refine lv_iload_n hx hb d_M_isEnd_4 rfl (lv_at hl 0 rfl) ?_
    refine lv_iconst (v := 1) hx hb d_M_isEnd_5 (by decide) ?_
    refine lv_icmp_ne (tgt := 13) hx hb d_M_isEnd_6 (by decide) (fun c2 => ?_) (fun c2 => ?_)
    · skip
      refine lv_iconst (v := 0) hx hb d_M_isEnd_13 (by decide) ?_
      exact W.zret (v := (0 : Int32)) hx hb hr rfl (fun t ht_ hW => ⟨_, rfl, ((if_neg c1).trans ((if_neg c2))).symm, ht_⟩) (fun _ h_ => nomatch h_) d_M_isEnd_14
    · skip
      refine lv_iconst (v := 1) hx hb d_M_isEnd_9 (by decide) ?_
      refine lv_goto (tgt := 14) hx hb d_M_isEnd_10 (by decide) ?_
      exact W.zret (v := (1 : Int32)) hx hb hr rfl (fun t ht_ hW => ⟨_, rfl, ((if_neg c1).trans ((if_pos c2))).symm, ht_⟩) (fun _ h_ => nomatch h_) d_M_isEnd_14
abbrev b_M_mix : ByteArray := prog_12_method_5_code
def y_M_mix : MethodName := ⟨"SecurePairModel", "mix", "(JJ)J"⟩
abbrev w_M_mix : List Cond := .code y_M_mix b_M_mix 6 (some .long) :: xa
theorem d_M_mix_0 : decode b_M_mix 0 = .ok (.lload_n 0, 1) := by decide +kernel
theorem d_M_mix_1 : decode b_M_mix 1 = .ok (.ldc2_w 124, 3) := by decide +kernel
theorem d_M_mix_4 : decode b_M_mix 4 = .ok (.ladd, 1) := by decide +kernel
theorem d_M_mix_5 : decode b_M_mix 5 = .ok (.ldc2_w 126, 3) := by decide +kernel
theorem d_M_mix_8 : decode b_M_mix 8 = .ok (.lmul, 1) := by decide +kernel
theorem d_M_mix_9 : decode b_M_mix 9 = .ok (.lload_n 2, 1) := by decide +kernel
theorem d_M_mix_10 : decode b_M_mix 10 = .ok (.lxor, 1) := by decide +kernel
theorem d_M_mix_11 : decode b_M_mix 11 = .ok (.lstore 4, 2) := by decide +kernel
theorem d_M_mix_13 : decode b_M_mix 13 = .ok (.lload 4, 2) := by decide +kernel
theorem d_M_mix_15 : decode b_M_mix 15 = .ok (.lload 4, 2) := by decide +kernel
theorem d_M_mix_17 : decode b_M_mix 17 = .ok (.bipush 30, 2) := by decide +kernel
theorem d_M_mix_19 : decode b_M_mix 19 = .ok (.lushr, 1) := by decide +kernel
theorem d_M_mix_20 : decode b_M_mix 20 = .ok (.lxor, 1) := by decide +kernel
theorem d_M_mix_21 : decode b_M_mix 21 = .ok (.lstore 4, 2) := by decide +kernel
theorem d_M_mix_23 : decode b_M_mix 23 = .ok (.lload 4, 2) := by decide +kernel
theorem d_M_mix_25 : decode b_M_mix 25 = .ok (.ldc2_w 128, 3) := by decide +kernel
theorem d_M_mix_28 : decode b_M_mix 28 = .ok (.lmul, 1) := by decide +kernel
theorem d_M_mix_29 : decode b_M_mix 29 = .ok (.lstore 4, 2) := by decide +kernel
theorem d_M_mix_31 : decode b_M_mix 31 = .ok (.lload 4, 2) := by decide +kernel
theorem d_M_mix_33 : decode b_M_mix 33 = .ok (.lload 4, 2) := by decide +kernel
theorem d_M_mix_35 : decode b_M_mix 35 = .ok (.bipush 28, 2) := by decide +kernel
theorem d_M_mix_37 : decode b_M_mix 37 = .ok (.lushr, 1) := by decide +kernel
theorem d_M_mix_38 : decode b_M_mix 38 = .ok (.lxor, 1) := by decide +kernel
theorem d_M_mix_39 : decode b_M_mix 39 = .ok (.lreturn, 1) := by decide +kernel
theorem xw1094 : (Cond.constantLong "SecurePairModel" (124 : Nat) (8191 : Int64)) ∈ xa := xa_t 1094 (by decide +kernel) (by decide +kernel)
theorem xw1095 : (Cond.constantLong "SecurePairModel" (126 : Nat) (6700417 : Int64)) ∈ xa := xa_t 1095 (by decide +kernel) (by decide +kernel)
theorem xw1096 : (Cond.constantLong "SecurePairModel" (128 : Nat) (-4417276706812531889 : Int64)) ∈ xa := xa_t 1096 (by decide +kernel) (by decide +kernel)
def g_mix (x0 : Int64) (x1 : Int64) : Int64 := ((((((x0 + (8191 : Int64)) * (6700417 : Int64)) ^^^ x1) ^^^ (xb_lushr (((x0 + (8191 : Int64)) * (6700417 : Int64)) ^^^ x1) (30 : Int32))) * (-4417276706812531889 : Int64)) ^^^ (xb_lushr (((((x0 + (8191 : Int64)) * (6700417 : Int64)) ^^^ x1) ^^^ (xb_lushr (((x0 + (8191 : Int64)) * (6700417 : Int64)) ^^^ x1) (30 : Int32))) * (-4417276706812531889 : Int64)) (28 : Int32)))
set_option maxHeartbeats 4000000 in
set_option maxRecDepth 100000 in
theorem c_M_mix (l : Launch) (x0 : Int64) (x1 : Int64) : Met l y_M_mix w_M_mix ({ frames := 0, cells := 0, slots := 0, locals := 0 }) (fun av_ _ => av_ = ([.long x0, .long x1] : List Value).toArray) (vp_Sl (fun r => r = g_mix x0 x1)) 0 0 (fun _ => False) := by
  refine Met.ofW (cc := b_M_mix) (maxL := 6) (ret := (some .long)) (by decide) rfl ?_
  intro p e s m args below meth c s₁ B hml hv
  subst hv
  have hx := B.exec
  have hb := B.bytes
  have hr := B.returns
  have hts := atoms_spec (ws := w_M_mix) B.pre
  have ht : ∀ w ∈ xa, w.before _ s = true := fun w h => hts w (List.mem_cons_of_mem _ h)
  have hown : s.vm.findClass "SecurePairModel" = some m.cls := findClass_of_methodNamed B.named
  have hlocks := B.notSynchronized
  have hl := lv_entry ([.long x0, .long x1]) (n := 6) (Nat.le_of_ble_eq_true rfl)
  rw [lg_entry_eq]
  generalize (lg_sl ([.long x0, .long x1]) ++ List.replicate (6 - (lg_sl ([.long x0, .long x1])).length) Slot.unset).toArray = ls at hl ⊢
  have hl : lv_has ls 6 [(0, .long x0), (2, .long x1)] := hl
  refine lv_lload_n hx hb d_M_mix_0 rfl (lv_at hl 0 rfl) ?_
  refine lv_ldc2 hx hb hown (ht _ xw1094) d_M_mix_1 ?_
  refine lv_ladd hx hb d_M_mix_4 ?_
  refine lv_ldc2 hx hb hown (ht _ xw1095) d_M_mix_5 ?_
  refine lv_lmul hx hb d_M_mix_8 ?_
  refine lv_lload_n hx hb d_M_mix_9 rfl (lv_at hl 1 rfl) ?_
  refine lv_lxor hx hb d_M_mix_10 ?_
  refine lv_lstore (lv' := [(4, .long (((x0 + (8191 : Int64)) * (6700417 : Int64)) ^^^ x1)), (0, .long x0), (2, .long x1)]) hx hb d_M_mix_11 hl (by decide) rfl (fun ls hl => ?_)
  refine lv_lload hx hb d_M_mix_13 (lv_at hl 0 rfl) ?_
  refine lv_lload hx hb d_M_mix_15 (lv_at hl 0 rfl) ?_
  refine lv_bipush (v := 30) hx hb d_M_mix_17 (by decide) ?_
  refine lv_lushr (v := (xb_lushr (((x0 + (8191 : Int64)) * (6700417 : Int64)) ^^^ x1) (30 : Int32))) hx hb d_M_mix_19 rfl ?_
  refine lv_lxor hx hb d_M_mix_20 ?_
  refine lv_lstore (lv' := [(4, .long ((((x0 + (8191 : Int64)) * (6700417 : Int64)) ^^^ x1) ^^^ (xb_lushr (((x0 + (8191 : Int64)) * (6700417 : Int64)) ^^^ x1) (30 : Int32)))), (0, .long x0), (2, .long x1)]) hx hb d_M_mix_21 hl (by decide) rfl (fun ls hl => ?_)
  refine lv_lload hx hb d_M_mix_23 (lv_at hl 0 rfl) ?_
  refine lv_ldc2 hx hb hown (ht _ xw1096) d_M_mix_25 ?_
  refine lv_lmul hx hb d_M_mix_28 ?_
  refine lv_lstore (lv' := [(4, .long (((((x0 + (8191 : Int64)) * (6700417 : Int64)) ^^^ x1) ^^^ (xb_lushr (((x0 + (8191 : Int64)) * (6700417 : Int64)) ^^^ x1) (30 : Int32))) * (-4417276706812531889 : Int64))), (0, .long x0), (2, .long x1)]) hx hb d_M_mix_29 hl (by decide) rfl (fun ls hl => ?_)
  refine lv_lload hx hb d_M_mix_31 (lv_at hl 0 rfl) ?_
  refine lv_lload hx hb d_M_mix_33 (lv_at hl 0 rfl) ?_
  refine lv_bipush (v := 28) hx hb d_M_mix_35 (by decide) ?_
  refine lv_lushr (v := (xb_lushr (((((x0 + (8191 : Int64)) * (6700417 : Int64)) ^^^ x1) ^^^ (xb_lushr (((x0 + (8191 : Int64)) * (6700417 : Int64)) ^^^ x1) (30 : Int32))) * (-4417276706812531889 : Int64)) (28 : Int32))) hx hb d_M_mix_37 rfl ?_
  refine lv_lxor hx hb d_M_mix_38 ?_
  exact W.lret (v := ((((((x0 + (8191 : Int64)) * (6700417 : Int64)) ^^^ x1) ^^^ (xb_lushr (((x0 + (8191 : Int64)) * (6700417 : Int64)) ^^^ x1) (30 : Int32))) * (-4417276706812531889 : Int64)) ^^^ (xb_lushr (((((x0 + (8191 : Int64)) * (6700417 : Int64)) ^^^ x1) ^^^ (xb_lushr (((x0 + (8191 : Int64)) * (6700417 : Int64)) ^^^ x1) (30 : Int32))) * (-4417276706812531889 : Int64)) (28 : Int32)))) hx hb hr (fun t ht_ hW => ⟨_, rfl, rfl, ht_⟩) (fun _ h_ => nomatch h_) d_M_mix_39
abbrev b_M_isPart : ByteArray := prog_12_method_7_code
def y_M_isPart : MethodName := ⟨"SecurePairModel", "isPart", "(J)Z"⟩
abbrev w_M_isPart : List Cond := .code y_M_isPart b_M_isPart 2 (some .boolean) :: xa
theorem d_M_isPart_0 : decode b_M_isPart 0 = .ok (.lload_n 0, 1) := by decide +kernel
theorem d_M_isPart_1 : decode b_M_isPart 1 = .ok (.lconst 1, 1) := by decide +kernel
theorem d_M_isPart_2 : decode b_M_isPart 2 = .ok (.lcmp, 1) := by decide +kernel
theorem d_M_isPart_3 : decode b_M_isPart 3 = .ok (.ifCond .lt 15, 3) := by decide +kernel
theorem d_M_isPart_6 : decode b_M_isPart 6 = .ok (.lload_n 0, 1) := by decide +kernel
theorem d_M_isPart_7 : decode b_M_isPart 7 = .ok (.ldc2_w 132, 3) := by decide +kernel
theorem d_M_isPart_10 : decode b_M_isPart 10 = .ok (.lcmp, 1) := by decide +kernel
theorem d_M_isPart_11 : decode b_M_isPart 11 = .ok (.ifCond .gt 7, 3) := by decide +kernel
theorem d_M_isPart_14 : decode b_M_isPart 14 = .ok (.iconst 1, 1) := by decide +kernel
theorem d_M_isPart_15 : decode b_M_isPart 15 = .ok (.goto 4, 3) := by decide +kernel
theorem d_M_isPart_18 : decode b_M_isPart 18 = .ok (.iconst 0, 1) := by decide +kernel
theorem d_M_isPart_19 : decode b_M_isPart 19 = .ok (.ireturn, 1) := by decide +kernel
theorem xw1151 : (Cond.constantLong "SecurePairModel" (132 : Nat) (2147483646 : Int64)) ∈ xa := xa_t 1151 (by decide +kernel) (by decide +kernel)
def g_isPart (x0 : Int64) : Int32 := (if x0 < (1 : Int64) then (0 : Int32) else (if (2147483646 : Int64) < x0 then (0 : Int32) else (1 : Int32)))
set_option maxHeartbeats 4000000 in
set_option maxRecDepth 100000 in
theorem c_M_isPart (l : Launch) (x0 : Int64) : Met l y_M_isPart w_M_isPart ({ frames := 0, cells := 0, slots := 0, locals := 0 }) (fun av_ _ => av_ = ([.long x0] : List Value).toArray) (vp_Si (fun r => r = g_isPart x0)) 0 0 (fun _ => False) := by
  refine Met.ofW (cc := b_M_isPart) (maxL := 2) (ret := (some .boolean)) (by decide) rfl ?_
  intro p e s m args below meth c s₁ B hml hv
  subst hv
  have hx := B.exec
  have hb := B.bytes
  have hr := B.returns
  have hts := atoms_spec (ws := w_M_isPart) B.pre
  have ht : ∀ w ∈ xa, w.before _ s = true := fun w h => hts w (List.mem_cons_of_mem _ h)
  have hown : s.vm.findClass "SecurePairModel" = some m.cls := findClass_of_methodNamed B.named
  have hlocks := B.notSynchronized
  have hl := lv_entry ([.long x0]) (n := 2) (Nat.le_of_ble_eq_true rfl)
  rw [lg_entry_eq]
  generalize (lg_sl ([.long x0]) ++ List.replicate (2 - (lg_sl ([.long x0])).length) Slot.unset).toArray = ls at hl ⊢
  have hl : lv_has ls 2 [(0, .long x0)] := hl
  refine lv_lload_n hx hb d_M_isPart_0 rfl (lv_at hl 0 rfl) ?_
  refine lv_lconst (v := 1) hx hb d_M_isPart_1 (by decide) ?_
  refine xb_llt (tgt := 18) hx hb d_M_isPart_2 d_M_isPart_3 (by decide) (fun c1 => ?_) (fun c1 => ?_)
  · skip
    refine lv_iconst (v := 0) hx hb d_M_isPart_18 (by decide) ?_
    exact W.zret (v := (0 : Int32)) hx hb hr rfl (fun t ht_ hW => ⟨_, rfl, ((if_pos c1)).symm, ht_⟩) (fun _ h_ => nomatch h_) d_M_isPart_19
  · skip
    refine lv_lload_n hx hb d_M_isPart_6 rfl (lv_at hl 0 rfl) ?_
    refine lv_ldc2 hx hb hown (ht _ xw1151) d_M_isPart_7 ?_
    refine xb_lgt (tgt := 18) hx hb d_M_isPart_10 d_M_isPart_11 (by decide) (fun c2 => ?_) (fun c2 => ?_)
    · skip
      refine lv_iconst (v := 0) hx hb d_M_isPart_18 (by decide) ?_
      exact W.zret (v := (0 : Int32)) hx hb hr rfl (fun t ht_ hW => ⟨_, rfl, ((if_neg c1).trans ((if_pos c2))).symm, ht_⟩) (fun _ h_ => nomatch h_) d_M_isPart_19
    · skip
      refine lv_iconst (v := 1) hx hb d_M_isPart_14 (by decide) ?_
      refine lv_goto (tgt := 19) hx hb d_M_isPart_15 (by decide) ?_
      exact W.zret (v := (1 : Int32)) hx hb hr rfl (fun t ht_ hW => ⟨_, rfl, ((if_neg c1).trans ((if_neg c2))).symm, ht_⟩) (fun _ h_ => nomatch h_) d_M_isPart_19
abbrev b_M_isShare : ByteArray := prog_12_method_8_code
def y_M_isShare : MethodName := ⟨"SecurePairModel", "isShare", "(J)Z"⟩
abbrev w_M_isShare : List Cond := .code y_M_isShare b_M_isShare 2 (some .boolean) :: xa
theorem d_M_isShare_0 : decode b_M_isShare 0 = .ok (.lload_n 0, 1) := by decide +kernel
theorem d_M_isShare_1 : decode b_M_isShare 1 = .ok (.ldc2_w 134, 3) := by decide +kernel
theorem d_M_isShare_4 : decode b_M_isShare 4 = .ok (.lcmp, 1) := by decide +kernel
theorem d_M_isShare_5 : decode b_M_isShare 5 = .ok (.ifCond .lt 15, 3) := by decide +kernel
theorem d_M_isShare_8 : decode b_M_isShare 8 = .ok (.lload_n 0, 1) := by decide +kernel
theorem d_M_isShare_9 : decode b_M_isShare 9 = .ok (.ldc2_w 136, 3) := by decide +kernel
theorem d_M_isShare_12 : decode b_M_isShare 12 = .ok (.lcmp, 1) := by decide +kernel
theorem d_M_isShare_13 : decode b_M_isShare 13 = .ok (.ifCond .gt 7, 3) := by decide +kernel
theorem d_M_isShare_16 : decode b_M_isShare 16 = .ok (.iconst 1, 1) := by decide +kernel
theorem d_M_isShare_17 : decode b_M_isShare 17 = .ok (.goto 4, 3) := by decide +kernel
theorem d_M_isShare_20 : decode b_M_isShare 20 = .ok (.iconst 0, 1) := by decide +kernel
theorem d_M_isShare_21 : decode b_M_isShare 21 = .ok (.ireturn, 1) := by decide +kernel
theorem xw1120 : (Cond.constantLong "SecurePairModel" (134 : Nat) (2 : Int64)) ∈ xa := xa_t 1120 (by decide +kernel) (by decide +kernel)
theorem xw1145 : (Cond.constantLong "SecurePairModel" (136 : Nat) (2147483645 : Int64)) ∈ xa := xa_t 1145 (by decide +kernel) (by decide +kernel)
def g_isShare (x0 : Int64) : Int32 := (if x0 < (2 : Int64) then (0 : Int32) else (if (2147483645 : Int64) < x0 then (0 : Int32) else (1 : Int32)))
set_option maxHeartbeats 4000000 in
set_option maxRecDepth 100000 in
theorem c_M_isShare (l : Launch) (x0 : Int64) : Met l y_M_isShare w_M_isShare ({ frames := 0, cells := 0, slots := 0, locals := 0 }) (fun av_ _ => av_ = ([.long x0] : List Value).toArray) (vp_Si (fun r => r = g_isShare x0)) 0 0 (fun _ => False) := by
  refine Met.ofW (cc := b_M_isShare) (maxL := 2) (ret := (some .boolean)) (by decide) rfl ?_
  intro p e s m args below meth c s₁ B hml hv
  subst hv
  have hx := B.exec
  have hb := B.bytes
  have hr := B.returns
  have hts := atoms_spec (ws := w_M_isShare) B.pre
  have ht : ∀ w ∈ xa, w.before _ s = true := fun w h => hts w (List.mem_cons_of_mem _ h)
  have hown : s.vm.findClass "SecurePairModel" = some m.cls := findClass_of_methodNamed B.named
  have hlocks := B.notSynchronized
  have hl := lv_entry ([.long x0]) (n := 2) (Nat.le_of_ble_eq_true rfl)
  rw [lg_entry_eq]
  generalize (lg_sl ([.long x0]) ++ List.replicate (2 - (lg_sl ([.long x0])).length) Slot.unset).toArray = ls at hl ⊢
  have hl : lv_has ls 2 [(0, .long x0)] := hl
  refine lv_lload_n hx hb d_M_isShare_0 rfl (lv_at hl 0 rfl) ?_
  refine lv_ldc2 hx hb hown (ht _ xw1120) d_M_isShare_1 ?_
  refine xb_llt (tgt := 20) hx hb d_M_isShare_4 d_M_isShare_5 (by decide) (fun c1 => ?_) (fun c1 => ?_)
  · skip
    refine lv_iconst (v := 0) hx hb d_M_isShare_20 (by decide) ?_
    exact W.zret (v := (0 : Int32)) hx hb hr rfl (fun t ht_ hW => ⟨_, rfl, ((if_pos c1)).symm, ht_⟩) (fun _ h_ => nomatch h_) d_M_isShare_21
  · skip
    refine lv_lload_n hx hb d_M_isShare_8 rfl (lv_at hl 0 rfl) ?_
    refine lv_ldc2 hx hb hown (ht _ xw1145) d_M_isShare_9 ?_
    refine xb_lgt (tgt := 20) hx hb d_M_isShare_12 d_M_isShare_13 (by decide) (fun c2 => ?_) (fun c2 => ?_)
    · skip
      refine lv_iconst (v := 0) hx hb d_M_isShare_20 (by decide) ?_
      exact W.zret (v := (0 : Int32)) hx hb hr rfl (fun t ht_ hW => ⟨_, rfl, ((if_neg c1).trans ((if_pos c2))).symm, ht_⟩) (fun _ h_ => nomatch h_) d_M_isShare_21
    · skip
      refine lv_iconst (v := 1) hx hb d_M_isShare_16 (by decide) ?_
      refine lv_goto (tgt := 21) hx hb d_M_isShare_17 (by decide) ?_
      exact W.zret (v := (1 : Int32)) hx hb hr rfl (fun t ht_ hW => ⟨_, rfl, ((if_neg c1).trans ((if_neg c2))).symm, ht_⟩) (fun _ h_ => nomatch h_) d_M_isShare_21
abbrev b_M_isList : ByteArray := prog_12_method_10_code
def y_M_isList : MethodName := ⟨"SecurePairModel", "isList", "(J)Z"⟩
abbrev w_M_isList : List Cond := .code y_M_isList b_M_isList 6 (some .boolean) :: xa
theorem d_M_isList_0 : decode b_M_isList 0 = .ok (.lload_n 0, 1) := by decide +kernel
theorem d_M_isList_1 : decode b_M_isList 1 = .ok (.lconst 1, 1) := by decide +kernel
theorem d_M_isList_2 : decode b_M_isList 2 = .ok (.lcmp, 1) := by decide +kernel
theorem d_M_isList_3 : decode b_M_isList 3 = .ok (.ifCond .lt 11, 3) := by decide +kernel
theorem d_M_isList_6 : decode b_M_isList 6 = .ok (.lload_n 0, 1) := by decide +kernel
theorem d_M_isList_7 : decode b_M_isList 7 = .ok (.ldc2_w 151, 3) := by decide +kernel
theorem d_M_isList_10 : decode b_M_isList 10 = .ok (.lcmp, 1) := by decide +kernel
theorem d_M_isList_11 : decode b_M_isList 11 = .ok (.ifCond .le 5, 3) := by decide +kernel
theorem d_M_isList_14 : decode b_M_isList 14 = .ok (.iconst 0, 1) := by decide +kernel
theorem d_M_isList_15 : decode b_M_isList 15 = .ok (.ireturn, 1) := by decide +kernel
theorem d_M_isList_16 : decode b_M_isList 16 = .ok (.lload_n 0, 1) := by decide +kernel
theorem d_M_isList_17 : decode b_M_isList 17 = .ok (.l2i, 1) := by decide +kernel
theorem d_M_isList_18 : decode b_M_isList 18 = .ok (.bipush 7, 2) := by decide +kernel
theorem d_M_isList_20 : decode b_M_isList 20 = .ok (.iand, 1) := by decide +kernel
theorem d_M_isList_21 : decode b_M_isList 21 = .ok (.istore_n 2, 1) := by decide +kernel
theorem d_M_isList_22 : decode b_M_isList 22 = .ok (.lload_n 0, 1) := by decide +kernel
theorem d_M_isList_23 : decode b_M_isList 23 = .ok (.l2i, 1) := by decide +kernel
theorem d_M_isList_24 : decode b_M_isList 24 = .ok (.iconst 3, 1) := by decide +kernel
theorem d_M_isList_25 : decode b_M_isList 25 = .ok (.ishr, 1) := by decide +kernel
theorem d_M_isList_26 : decode b_M_isList 26 = .ok (.bipush 7, 2) := by decide +kernel
theorem d_M_isList_28 : decode b_M_isList 28 = .ok (.iand, 1) := by decide +kernel
theorem d_M_isList_29 : decode b_M_isList 29 = .ok (.istore_n 3, 1) := by decide +kernel
theorem d_M_isList_30 : decode b_M_isList 30 = .ok (.lload_n 0, 1) := by decide +kernel
theorem d_M_isList_31 : decode b_M_isList 31 = .ok (.l2i, 1) := by decide +kernel
theorem d_M_isList_32 : decode b_M_isList 32 = .ok (.bipush 6, 2) := by decide +kernel
theorem d_M_isList_34 : decode b_M_isList 34 = .ok (.ishr, 1) := by decide +kernel
theorem d_M_isList_35 : decode b_M_isList 35 = .ok (.bipush 7, 2) := by decide +kernel
theorem d_M_isList_37 : decode b_M_isList 37 = .ok (.iand, 1) := by decide +kernel
theorem d_M_isList_38 : decode b_M_isList 38 = .ok (.istore 4, 2) := by decide +kernel
theorem d_M_isList_40 : decode b_M_isList 40 = .ok (.iload_n 2, 1) := by decide +kernel
theorem d_M_isList_41 : decode b_M_isList 41 = .ok (.iconst 1, 1) := by decide +kernel
theorem d_M_isList_42 : decode b_M_isList 42 = .ok (.if_icmp .lt 32, 3) := by decide +kernel
theorem d_M_isList_45 : decode b_M_isList 45 = .ok (.iload_n 2, 1) := by decide +kernel
theorem d_M_isList_46 : decode b_M_isList 46 = .ok (.iconst 4, 1) := by decide +kernel
theorem d_M_isList_47 : decode b_M_isList 47 = .ok (.if_icmp .gt 27, 3) := by decide +kernel
theorem d_M_isList_50 : decode b_M_isList 50 = .ok (.iload_n 3, 1) := by decide +kernel
theorem d_M_isList_51 : decode b_M_isList 51 = .ok (.iconst 4, 1) := by decide +kernel
theorem d_M_isList_52 : decode b_M_isList 52 = .ok (.if_icmp .gt 22, 3) := by decide +kernel
theorem d_M_isList_55 : decode b_M_isList 55 = .ok (.iload 4, 2) := by decide +kernel
theorem d_M_isList_57 : decode b_M_isList 57 = .ok (.iconst 4, 1) := by decide +kernel
theorem d_M_isList_58 : decode b_M_isList 58 = .ok (.if_icmp .gt 16, 3) := by decide +kernel
theorem d_M_isList_61 : decode b_M_isList 61 = .ok (.iload_n 3, 1) := by decide +kernel
theorem d_M_isList_62 : decode b_M_isList 62 = .ok (.ifCond .gt 8, 3) := by decide +kernel
theorem d_M_isList_65 : decode b_M_isList 65 = .ok (.iload 4, 2) := by decide +kernel
theorem d_M_isList_67 : decode b_M_isList 67 = .ok (.ifCond .ne 7, 3) := by decide +kernel
theorem d_M_isList_70 : decode b_M_isList 70 = .ok (.iconst 1, 1) := by decide +kernel
theorem d_M_isList_71 : decode b_M_isList 71 = .ok (.goto 4, 3) := by decide +kernel
theorem d_M_isList_74 : decode b_M_isList 74 = .ok (.iconst 0, 1) := by decide +kernel
theorem d_M_isList_75 : decode b_M_isList 75 = .ok (.istore 5, 2) := by decide +kernel
theorem d_M_isList_77 : decode b_M_isList 77 = .ok (.iload 5, 2) := by decide +kernel
theorem d_M_isList_79 : decode b_M_isList 79 = .ok (.ifCond .eq 28, 3) := by decide +kernel
theorem d_M_isList_82 : decode b_M_isList 82 = .ok (.iload_n 2, 1) := by decide +kernel
theorem d_M_isList_83 : decode b_M_isList 83 = .ok (.iload_n 3, 1) := by decide +kernel
theorem d_M_isList_84 : decode b_M_isList 84 = .ok (.if_icmp .eq 23, 3) := by decide +kernel
theorem d_M_isList_87 : decode b_M_isList 87 = .ok (.iload_n 2, 1) := by decide +kernel
theorem d_M_isList_88 : decode b_M_isList 88 = .ok (.iload 4, 2) := by decide +kernel
theorem d_M_isList_90 : decode b_M_isList 90 = .ok (.if_icmp .eq 17, 3) := by decide +kernel
theorem d_M_isList_93 : decode b_M_isList 93 = .ok (.iload_n 3, 1) := by decide +kernel
theorem d_M_isList_94 : decode b_M_isList 94 = .ok (.ifCond .eq 9, 3) := by decide +kernel
theorem d_M_isList_97 : decode b_M_isList 97 = .ok (.iload_n 3, 1) := by decide +kernel
theorem d_M_isList_98 : decode b_M_isList 98 = .ok (.iload 4, 2) := by decide +kernel
theorem d_M_isList_100 : decode b_M_isList 100 = .ok (.if_icmp .eq 7, 3) := by decide +kernel
theorem d_M_isList_103 : decode b_M_isList 103 = .ok (.iconst 1, 1) := by decide +kernel
theorem d_M_isList_104 : decode b_M_isList 104 = .ok (.goto 4, 3) := by decide +kernel
theorem d_M_isList_107 : decode b_M_isList 107 = .ok (.iconst 0, 1) := by decide +kernel
theorem d_M_isList_108 : decode b_M_isList 108 = .ok (.ireturn, 1) := by decide +kernel
theorem xw1128 : (Cond.constantLong "SecurePairModel" (151 : Nat) (511 : Int64)) ∈ xa := xa_t 1128 (by decide +kernel) (by decide +kernel)
def g_isList (x0 : Int64) : Int32 := (if x0 < (1 : Int64) then (0 : Int32) else (if x0 ≤ (511 : Int64) then (if (x0.toInt32 &&& (7 : Int32)) < (1 : Int32) then (0 : Int32) else (if (4 : Int32) < (x0.toInt32 &&& (7 : Int32)) then (0 : Int32) else (if (4 : Int32) < ((x0.toInt32 >>> ((3 : Int32) &&& 31)) &&& (7 : Int32)) then (0 : Int32) else (if (4 : Int32) < ((x0.toInt32 >>> ((6 : Int32) &&& 31)) &&& (7 : Int32)) then (0 : Int32) else (if 0 < ((x0.toInt32 >>> ((3 : Int32) &&& 31)) &&& (7 : Int32)) then (if (x0.toInt32 &&& (7 : Int32)) = ((x0.toInt32 >>> ((3 : Int32) &&& 31)) &&& (7 : Int32)) then (0 : Int32) else (if (x0.toInt32 &&& (7 : Int32)) = ((x0.toInt32 >>> ((6 : Int32) &&& 31)) &&& (7 : Int32)) then (0 : Int32) else (if ((x0.toInt32 >>> ((3 : Int32) &&& 31)) &&& (7 : Int32)) = 0 then (1 : Int32) else (if ((x0.toInt32 >>> ((3 : Int32) &&& 31)) &&& (7 : Int32)) = ((x0.toInt32 >>> ((6 : Int32) &&& 31)) &&& (7 : Int32)) then (0 : Int32) else (1 : Int32))))) else (if ((x0.toInt32 >>> ((6 : Int32) &&& 31)) &&& (7 : Int32)) = 0 then (if (x0.toInt32 &&& (7 : Int32)) = ((x0.toInt32 >>> ((3 : Int32) &&& 31)) &&& (7 : Int32)) then (0 : Int32) else (if (x0.toInt32 &&& (7 : Int32)) = ((x0.toInt32 >>> ((6 : Int32) &&& 31)) &&& (7 : Int32)) then (0 : Int32) else (if ((x0.toInt32 >>> ((3 : Int32) &&& 31)) &&& (7 : Int32)) = 0 then (1 : Int32) else (if ((x0.toInt32 >>> ((3 : Int32) &&& 31)) &&& (7 : Int32)) = ((x0.toInt32 >>> ((6 : Int32) &&& 31)) &&& (7 : Int32)) then (0 : Int32) else (1 : Int32))))) else (0 : Int32))))))) else (0 : Int32)))
set_option maxHeartbeats 4000000 in
set_option maxRecDepth 100000 in
theorem c_M_isList (l : Launch) (x0 : Int64) : Met l y_M_isList w_M_isList ({ frames := 0, cells := 0, slots := 0, locals := 0 }) (fun av_ _ => av_ = ([.long x0] : List Value).toArray) (vp_Si (fun r => r = g_isList x0)) 0 0 (fun _ => False) := by
  refine Met.ofW (cc := b_M_isList) (maxL := 6) (ret := (some .boolean)) (by decide) rfl ?_
  intro p e s m args below meth c s₁ B hml hv
  subst hv
  have hx := B.exec
  have hb := B.bytes
  have hr := B.returns
  have hts := atoms_spec (ws := w_M_isList) B.pre
  have ht : ∀ w ∈ xa, w.before _ s = true := fun w h => hts w (List.mem_cons_of_mem _ h)
  have hown : s.vm.findClass "SecurePairModel" = some m.cls := findClass_of_methodNamed B.named
  have hlocks := B.notSynchronized
  have hl := lv_entry ([.long x0]) (n := 6) (Nat.le_of_ble_eq_true rfl)
  rw [lg_entry_eq]
  generalize (lg_sl ([.long x0]) ++ List.replicate (6 - (lg_sl ([.long x0])).length) Slot.unset).toArray = ls at hl ⊢
  have hl : lv_has ls 6 [(0, .long x0)] := hl
  refine lv_lload_n hx hb d_M_isList_0 rfl (lv_at hl 0 rfl) ?_
  refine lv_lconst (v := 1) hx hb d_M_isList_1 (by decide) ?_
  refine xb_llt (tgt := 14) hx hb d_M_isList_2 d_M_isList_3 (by decide) (fun c1 => ?_) (fun c1 => ?_)
  · skip
    refine lv_iconst (v := 0) hx hb d_M_isList_14 (by decide) ?_
    exact W.zret (v := (0 : Int32)) hx hb hr rfl (fun t ht_ hW => ⟨_, rfl, ((if_pos c1)).symm, ht_⟩) (fun _ h_ => nomatch h_) d_M_isList_15
  · skip
    refine lv_lload_n hx hb d_M_isList_6 rfl (lv_at hl 0 rfl) ?_
    refine lv_ldc2 hx hb hown (ht _ xw1128) d_M_isList_7 ?_
    refine xb_lle (tgt := 16) hx hb d_M_isList_10 d_M_isList_11 (by decide) (fun c2 => ?_) (fun c2 => ?_)
    · skip
      refine lv_lload_n hx hb d_M_isList_16 rfl (lv_at hl 0 rfl) ?_
      refine lv_l2i (v := x0.toInt32) hx hb d_M_isList_17 (by rfl) ?_
      refine lv_bipush (v := 7) hx hb d_M_isList_18 (by decide) ?_
      refine lv_iand hx hb d_M_isList_20 ?_
      refine lv_istore_n (lv' := [(2, .int (x0.toInt32 &&& (7 : Int32))), (0, .long x0)]) hx hb d_M_isList_21 rfl hl (by decide) rfl (fun ls hl => ?_)
      refine lv_lload_n hx hb d_M_isList_22 rfl (lv_at hl 1 rfl) ?_
      refine lv_l2i (v := x0.toInt32) hx hb d_M_isList_23 (by rfl) ?_
      refine lv_iconst (v := 3) hx hb d_M_isList_24 (by decide) ?_
      refine lv_ishr hx hb d_M_isList_25 ?_
      refine lv_bipush (v := 7) hx hb d_M_isList_26 (by decide) ?_
      refine lv_iand hx hb d_M_isList_28 ?_
      refine lv_istore_n (lv' := [(3, .int ((x0.toInt32 >>> ((3 : Int32) &&& 31)) &&& (7 : Int32))), (2, .int (x0.toInt32 &&& (7 : Int32))), (0, .long x0)]) hx hb d_M_isList_29 rfl hl (by decide) rfl (fun ls hl => ?_)
      refine lv_lload_n hx hb d_M_isList_30 rfl (lv_at hl 2 rfl) ?_
      refine lv_l2i (v := x0.toInt32) hx hb d_M_isList_31 (by rfl) ?_
      refine lv_bipush (v := 6) hx hb d_M_isList_32 (by decide) ?_
      refine lv_ishr hx hb d_M_isList_34 ?_
      refine lv_bipush (v := 7) hx hb d_M_isList_35 (by decide) ?_
      refine lv_iand hx hb d_M_isList_37 ?_
      refine lv_istore (lv' := [(4, .int ((x0.toInt32 >>> ((6 : Int32) &&& 31)) &&& (7 : Int32))), (3, .int ((x0.toInt32 >>> ((3 : Int32) &&& 31)) &&& (7 : Int32))), (2, .int (x0.toInt32 &&& (7 : Int32))), (0, .long x0)]) hx hb d_M_isList_38 hl (by decide) rfl (fun ls hl => ?_)
      refine lv_iload_n hx hb d_M_isList_40 rfl (lv_at hl 2 rfl) ?_
      refine lv_iconst (v := 1) hx hb d_M_isList_41 (by decide) ?_
      refine lv_icmp_lt (tgt := 74) hx hb d_M_isList_42 (by decide) (fun c3 => ?_) (fun c3 => ?_)
      · skip
        refine lv_iconst (v := 0) hx hb d_M_isList_74 (by decide) ?_
        refine lv_istore (lv' := [(5, .int (0 : Int32)), (4, .int ((x0.toInt32 >>> ((6 : Int32) &&& 31)) &&& (7 : Int32))), (3, .int ((x0.toInt32 >>> ((3 : Int32) &&& 31)) &&& (7 : Int32))), (2, .int (x0.toInt32 &&& (7 : Int32))), (0, .long x0)]) hx hb d_M_isList_75 hl (by decide) rfl (fun ls hl => ?_)
        refine lv_iload hx hb d_M_isList_77 (lv_at hl 0 rfl) ?_
        refine lv_if_eq (tgt := 107) hx hb d_M_isList_79 (by decide) (fun _ => ?_) (fun h_ => absurd h_ (by decide))
        refine lv_iconst (v := 0) hx hb d_M_isList_107 (by decide) ?_
        exact W.zret (v := (0 : Int32)) hx hb hr rfl (fun t ht_ hW => ⟨_, rfl, ((if_neg c1).trans ((if_pos c2).trans ((if_pos c3)))).symm, ht_⟩) (fun _ h_ => nomatch h_) d_M_isList_108
      · skip
        refine lv_iload_n hx hb d_M_isList_45 rfl (lv_at hl 2 rfl) ?_
        refine lv_iconst (v := 4) hx hb d_M_isList_46 (by decide) ?_
        refine lv_icmp_gt (tgt := 74) hx hb d_M_isList_47 (by decide) (fun c4 => ?_) (fun c4 => ?_)
        · skip
          refine lv_iconst (v := 0) hx hb d_M_isList_74 (by decide) ?_
          refine lv_istore (lv' := [(5, .int (0 : Int32)), (4, .int ((x0.toInt32 >>> ((6 : Int32) &&& 31)) &&& (7 : Int32))), (3, .int ((x0.toInt32 >>> ((3 : Int32) &&& 31)) &&& (7 : Int32))), (2, .int (x0.toInt32 &&& (7 : Int32))), (0, .long x0)]) hx hb d_M_isList_75 hl (by decide) rfl (fun ls hl => ?_)
          refine lv_iload hx hb d_M_isList_77 (lv_at hl 0 rfl) ?_
          refine lv_if_eq (tgt := 107) hx hb d_M_isList_79 (by decide) (fun _ => ?_) (fun h_ => absurd h_ (by decide))
          refine lv_iconst (v := 0) hx hb d_M_isList_107 (by decide) ?_
          exact W.zret (v := (0 : Int32)) hx hb hr rfl (fun t ht_ hW => ⟨_, rfl, ((if_neg c1).trans ((if_pos c2).trans ((if_neg c3).trans ((if_pos c4))))).symm, ht_⟩) (fun _ h_ => nomatch h_) d_M_isList_108
        · skip
          refine lv_iload_n hx hb d_M_isList_50 rfl (lv_at hl 1 rfl) ?_
          refine lv_iconst (v := 4) hx hb d_M_isList_51 (by decide) ?_
          refine lv_icmp_gt (tgt := 74) hx hb d_M_isList_52 (by decide) (fun c5 => ?_) (fun c5 => ?_)
          · skip
            refine lv_iconst (v := 0) hx hb d_M_isList_74 (by decide) ?_
            refine lv_istore (lv' := [(5, .int (0 : Int32)), (4, .int ((x0.toInt32 >>> ((6 : Int32) &&& 31)) &&& (7 : Int32))), (3, .int ((x0.toInt32 >>> ((3 : Int32) &&& 31)) &&& (7 : Int32))), (2, .int (x0.toInt32 &&& (7 : Int32))), (0, .long x0)]) hx hb d_M_isList_75 hl (by decide) rfl (fun ls hl => ?_)
            refine lv_iload hx hb d_M_isList_77 (lv_at hl 0 rfl) ?_
            refine lv_if_eq (tgt := 107) hx hb d_M_isList_79 (by decide) (fun _ => ?_) (fun h_ => absurd h_ (by decide))
            refine lv_iconst (v := 0) hx hb d_M_isList_107 (by decide) ?_
            exact W.zret (v := (0 : Int32)) hx hb hr rfl (fun t ht_ hW => ⟨_, rfl, ((if_neg c1).trans ((if_pos c2).trans ((if_neg c3).trans ((if_neg c4).trans ((if_pos c5)))))).symm, ht_⟩) (fun _ h_ => nomatch h_) d_M_isList_108
          · skip
            refine lv_iload hx hb d_M_isList_55 (lv_at hl 0 rfl) ?_
            refine lv_iconst (v := 4) hx hb d_M_isList_57 (by decide) ?_
            refine lv_icmp_gt (tgt := 74) hx hb d_M_isList_58 (by decide) (fun c6 => ?_) (fun c6 => ?_)
            · skip
              refine lv_iconst (v := 0) hx hb d_M_isList_74 (by decide) ?_
              refine lv_istore (lv' := [(5, .int (0 : Int32)), (4, .int ((x0.toInt32 >>> ((6 : Int32) &&& 31)) &&& (7 : Int32))), (3, .int ((x0.toInt32 >>> ((3 : Int32) &&& 31)) &&& (7 : Int32))), (2, .int (x0.toInt32 &&& (7 : Int32))), (0, .long x0)]) hx hb d_M_isList_75 hl (by decide) rfl (fun ls hl => ?_)
              refine lv_iload hx hb d_M_isList_77 (lv_at hl 0 rfl) ?_
              refine lv_if_eq (tgt := 107) hx hb d_M_isList_79 (by decide) (fun _ => ?_) (fun h_ => absurd h_ (by decide))
              refine lv_iconst (v := 0) hx hb d_M_isList_107 (by decide) ?_
              exact W.zret (v := (0 : Int32)) hx hb hr rfl (fun t ht_ hW => ⟨_, rfl, ((if_neg c1).trans ((if_pos c2).trans ((if_neg c3).trans ((if_neg c4).trans ((if_neg c5).trans ((if_pos c6))))))).symm, ht_⟩) (fun _ h_ => nomatch h_) d_M_isList_108
            · skip
              refine lv_iload_n hx hb d_M_isList_61 rfl (lv_at hl 1 rfl) ?_
              refine lv_if_gt (tgt := 70) hx hb d_M_isList_62 (by decide) (fun c7 => ?_) (fun c7 => ?_)
              · skip
                refine lv_iconst (v := 1) hx hb d_M_isList_70 (by decide) ?_
                refine lv_goto (tgt := 75) hx hb d_M_isList_71 (by decide) ?_
                refine lv_istore (lv' := [(5, .int (1 : Int32)), (4, .int ((x0.toInt32 >>> ((6 : Int32) &&& 31)) &&& (7 : Int32))), (3, .int ((x0.toInt32 >>> ((3 : Int32) &&& 31)) &&& (7 : Int32))), (2, .int (x0.toInt32 &&& (7 : Int32))), (0, .long x0)]) hx hb d_M_isList_75 hl (by decide) rfl (fun ls hl => ?_)
                refine lv_iload hx hb d_M_isList_77 (lv_at hl 0 rfl) ?_
                refine lv_if_eq (tgt := 107) hx hb d_M_isList_79 (by decide) (fun h_ => absurd h_ (by decide)) (fun _ => ?_)
                refine lv_iload_n hx hb d_M_isList_82 rfl (lv_at hl 3 rfl) ?_
                refine lv_iload_n hx hb d_M_isList_83 rfl (lv_at hl 2 rfl) ?_
                refine lv_icmp_eq (tgt := 107) hx hb d_M_isList_84 (by decide) (fun c8 => ?_) (fun c8 => ?_)
                · skip
                  refine lv_iconst (v := 0) hx hb d_M_isList_107 (by decide) ?_
                  exact W.zret (v := (0 : Int32)) hx hb hr rfl (fun t ht_ hW => ⟨_, rfl, ((if_neg c1).trans ((if_pos c2).trans ((if_neg c3).trans ((if_neg c4).trans ((if_neg c5).trans ((if_neg c6).trans ((if_pos c7).trans ((if_pos c8))))))))).symm, ht_⟩) (fun _ h_ => nomatch h_) d_M_isList_108
                · skip
                  refine lv_iload_n hx hb d_M_isList_87 rfl (lv_at hl 3 rfl) ?_
                  refine lv_iload hx hb d_M_isList_88 (lv_at hl 1 rfl) ?_
                  refine lv_icmp_eq (tgt := 107) hx hb d_M_isList_90 (by decide) (fun c9 => ?_) (fun c9 => ?_)
                  · skip
                    refine lv_iconst (v := 0) hx hb d_M_isList_107 (by decide) ?_
                    exact W.zret (v := (0 : Int32)) hx hb hr rfl (fun t ht_ hW => ⟨_, rfl, ((if_neg c1).trans ((if_pos c2).trans ((if_neg c3).trans ((if_neg c4).trans ((if_neg c5).trans ((if_neg c6).trans ((if_pos c7).trans ((if_neg c8).trans ((if_pos c9)))))))))).symm, ht_⟩) (fun _ h_ => nomatch h_) d_M_isList_108
                  · skip
                    refine lv_iload_n hx hb d_M_isList_93 rfl (lv_at hl 2 rfl) ?_
                    refine lv_if_eq (tgt := 103) hx hb d_M_isList_94 (by decide) (fun c10 => ?_) (fun c10 => ?_)
                    · skip
                      refine lv_iconst (v := 1) hx hb d_M_isList_103 (by decide) ?_
                      refine lv_goto (tgt := 108) hx hb d_M_isList_104 (by decide) ?_
                      exact W.zret (v := (1 : Int32)) hx hb hr rfl (fun t ht_ hW => ⟨_, rfl, ((if_neg c1).trans ((if_pos c2).trans ((if_neg c3).trans ((if_neg c4).trans ((if_neg c5).trans ((if_neg c6).trans ((if_pos c7).trans ((if_neg c8).trans ((if_neg c9).trans ((if_pos c10))))))))))).symm, ht_⟩) (fun _ h_ => nomatch h_) d_M_isList_108
                    · skip
                      refine lv_iload_n hx hb d_M_isList_97 rfl (lv_at hl 2 rfl) ?_
                      refine lv_iload hx hb d_M_isList_98 (lv_at hl 1 rfl) ?_
                      refine lv_icmp_eq (tgt := 107) hx hb d_M_isList_100 (by decide) (fun c11 => ?_) (fun c11 => ?_)
                      · skip
                        refine lv_iconst (v := 0) hx hb d_M_isList_107 (by decide) ?_
                        exact W.zret (v := (0 : Int32)) hx hb hr rfl (fun t ht_ hW => ⟨_, rfl, ((if_neg c1).trans ((if_pos c2).trans ((if_neg c3).trans ((if_neg c4).trans ((if_neg c5).trans ((if_neg c6).trans ((if_pos c7).trans ((if_neg c8).trans ((if_neg c9).trans ((if_neg c10).trans ((if_pos c11)))))))))))).symm, ht_⟩) (fun _ h_ => nomatch h_) d_M_isList_108
                      · skip
                        refine lv_iconst (v := 1) hx hb d_M_isList_103 (by decide) ?_
                        refine lv_goto (tgt := 108) hx hb d_M_isList_104 (by decide) ?_
                        exact W.zret (v := (1 : Int32)) hx hb hr rfl (fun t ht_ hW => ⟨_, rfl, ((if_neg c1).trans ((if_pos c2).trans ((if_neg c3).trans ((if_neg c4).trans ((if_neg c5).trans ((if_neg c6).trans ((if_pos c7).trans ((if_neg c8).trans ((if_neg c9).trans ((if_neg c10).trans ((if_neg c11)))))))))))).symm, ht_⟩) (fun _ h_ => nomatch h_) d_M_isList_108
              · skip
                refine lv_iload hx hb d_M_isList_65 (lv_at hl 0 rfl) ?_
                refine lv_if_ne (tgt := 74) hx hb d_M_isList_67 (by decide) (fun c12 => ?_) (fun c12 => ?_)
                · skip
                  refine lv_iconst (v := 0) hx hb d_M_isList_74 (by decide) ?_
                  refine lv_istore (lv' := [(5, .int (0 : Int32)), (4, .int ((x0.toInt32 >>> ((6 : Int32) &&& 31)) &&& (7 : Int32))), (3, .int ((x0.toInt32 >>> ((3 : Int32) &&& 31)) &&& (7 : Int32))), (2, .int (x0.toInt32 &&& (7 : Int32))), (0, .long x0)]) hx hb d_M_isList_75 hl (by decide) rfl (fun ls hl => ?_)
                  refine lv_iload hx hb d_M_isList_77 (lv_at hl 0 rfl) ?_
                  refine lv_if_eq (tgt := 107) hx hb d_M_isList_79 (by decide) (fun _ => ?_) (fun h_ => absurd h_ (by decide))
                  refine lv_iconst (v := 0) hx hb d_M_isList_107 (by decide) ?_
                  exact W.zret (v := (0 : Int32)) hx hb hr rfl (fun t ht_ hW => ⟨_, rfl, ((if_neg c1).trans ((if_pos c2).trans ((if_neg c3).trans ((if_neg c4).trans ((if_neg c5).trans ((if_neg c6).trans ((if_neg c7).trans ((if_neg c12))))))))).symm, ht_⟩) (fun _ h_ => nomatch h_) d_M_isList_108
                · skip
                  refine lv_iconst (v := 1) hx hb d_M_isList_70 (by decide) ?_
                  refine lv_goto (tgt := 75) hx hb d_M_isList_71 (by decide) ?_
                  refine lv_istore (lv' := [(5, .int (1 : Int32)), (4, .int ((x0.toInt32 >>> ((6 : Int32) &&& 31)) &&& (7 : Int32))), (3, .int ((x0.toInt32 >>> ((3 : Int32) &&& 31)) &&& (7 : Int32))), (2, .int (x0.toInt32 &&& (7 : Int32))), (0, .long x0)]) hx hb d_M_isList_75 hl (by decide) rfl (fun ls hl => ?_)
                  refine lv_iload hx hb d_M_isList_77 (lv_at hl 0 rfl) ?_
                  refine lv_if_eq (tgt := 107) hx hb d_M_isList_79 (by decide) (fun h_ => absurd h_ (by decide)) (fun _ => ?_)
                  refine lv_iload_n hx hb d_M_isList_82 rfl (lv_at hl 3 rfl) ?_
                  refine lv_iload_n hx hb d_M_isList_83 rfl (lv_at hl 2 rfl) ?_
                  refine lv_icmp_eq (tgt := 107) hx hb d_M_isList_84 (by decide) (fun c13 => ?_) (fun c13 => ?_)
                  · skip
                    refine lv_iconst (v := 0) hx hb d_M_isList_107 (by decide) ?_
                    exact W.zret (v := (0 : Int32)) hx hb hr rfl (fun t ht_ hW => ⟨_, rfl, ((if_neg c1).trans ((if_pos c2).trans ((if_neg c3).trans ((if_neg c4).trans ((if_neg c5).trans ((if_neg c6).trans ((if_neg c7).trans ((if_pos c12).trans ((if_pos c13)))))))))).symm, ht_⟩) (fun _ h_ => nomatch h_) d_M_isList_108
                  · skip
                    refine lv_iload_n hx hb d_M_isList_87 rfl (lv_at hl 3 rfl) ?_
                    refine lv_iload hx hb d_M_isList_88 (lv_at hl 1 rfl) ?_
                    refine lv_icmp_eq (tgt := 107) hx hb d_M_isList_90 (by decide) (fun c14 => ?_) (fun c14 => ?_)
                    · skip
                      refine lv_iconst (v := 0) hx hb d_M_isList_107 (by decide) ?_
                      exact W.zret (v := (0 : Int32)) hx hb hr rfl (fun t ht_ hW => ⟨_, rfl, ((if_neg c1).trans ((if_pos c2).trans ((if_neg c3).trans ((if_neg c4).trans ((if_neg c5).trans ((if_neg c6).trans ((if_neg c7).trans ((if_pos c12).trans ((if_neg c13).trans ((if_pos c14))))))))))).symm, ht_⟩) (fun _ h_ => nomatch h_) d_M_isList_108
                    · skip
                      refine lv_iload_n hx hb d_M_isList_93 rfl (lv_at hl 2 rfl) ?_
                      refine lv_if_eq (tgt := 103) hx hb d_M_isList_94 (by decide) (fun c15 => ?_) (fun c15 => ?_)
                      · skip
                        refine lv_iconst (v := 1) hx hb d_M_isList_103 (by decide) ?_
                        refine lv_goto (tgt := 108) hx hb d_M_isList_104 (by decide) ?_
                        exact W.zret (v := (1 : Int32)) hx hb hr rfl (fun t ht_ hW => ⟨_, rfl, ((if_neg c1).trans ((if_pos c2).trans ((if_neg c3).trans ((if_neg c4).trans ((if_neg c5).trans ((if_neg c6).trans ((if_neg c7).trans ((if_pos c12).trans ((if_neg c13).trans ((if_neg c14).trans ((if_pos c15)))))))))))).symm, ht_⟩) (fun _ h_ => nomatch h_) d_M_isList_108
                      · skip
                        refine lv_iload_n hx hb d_M_isList_97 rfl (lv_at hl 2 rfl) ?_
                        refine lv_iload hx hb d_M_isList_98 (lv_at hl 1 rfl) ?_
                        refine lv_icmp_eq (tgt := 107) hx hb d_M_isList_100 (by decide) (fun c16 => ?_) (fun c16 => ?_)
                        · skip
                          refine lv_iconst (v := 0) hx hb d_M_isList_107 (by decide) ?_
                          exact W.zret (v := (0 : Int32)) hx hb hr rfl (fun t ht_ hW => ⟨_, rfl, ((if_neg c1).trans ((if_pos c2).trans ((if_neg c3).trans ((if_neg c4).trans ((if_neg c5).trans ((if_neg c6).trans ((if_neg c7).trans ((if_pos c12).trans ((if_neg c13).trans ((if_neg c14).trans ((if_neg c15).trans ((if_pos c16))))))))))))).symm, ht_⟩) (fun _ h_ => nomatch h_) d_M_isList_108
                        · skip
                          refine lv_iconst (v := 1) hx hb d_M_isList_103 (by decide) ?_
                          refine lv_goto (tgt := 108) hx hb d_M_isList_104 (by decide) ?_
                          exact W.zret (v := (1 : Int32)) hx hb hr rfl (fun t ht_ hW => ⟨_, rfl, ((if_neg c1).trans ((if_pos c2).trans ((if_neg c3).trans ((if_neg c4).trans ((if_neg c5).trans ((if_neg c6).trans ((if_neg c7).trans ((if_pos c12).trans ((if_neg c13).trans ((if_neg c14).trans ((if_neg c15).trans ((if_neg c16))))))))))))).symm, ht_⟩) (fun _ h_ => nomatch h_) d_M_isList_108
    · skip
      refine lv_iconst (v := 0) hx hb d_M_isList_14 (by decide) ?_
      exact W.zret (v := (0 : Int32)) hx hb hr rfl (fun t ht_ hW => ⟨_, rfl, ((if_neg c1).trans ((if_neg c2))).symm, ht_⟩) (fun _ h_ => nomatch h_) d_M_isList_15
abbrev b_M_common : ByteArray := prog_12_method_11_code
def y_M_common : MethodName := ⟨"SecurePairModel", "common", "(JJ)I"⟩
abbrev w_M_common : List Cond := .code y_M_common b_M_common 7 (some .int) :: xa
theorem d_M_common_0 : decode b_M_common 0 = .ok (.iconst 0, 1) := by decide +kernel
theorem d_M_common_1 : decode b_M_common 1 = .ok (.istore 4, 2) := by decide +kernel
theorem d_M_common_3 : decode b_M_common 3 = .ok (.iload 4, 2) := by decide +kernel
theorem d_M_common_5 : decode b_M_common 5 = .ok (.iconst 3, 1) := by decide +kernel
theorem d_M_common_6 : decode b_M_common 6 = .ok (.if_icmp .ge 59, 3) := by decide +kernel
theorem d_M_common_9 : decode b_M_common 9 = .ok (.lload_n 0, 1) := by decide +kernel
theorem d_M_common_10 : decode b_M_common 10 = .ok (.iconst 3, 1) := by decide +kernel
theorem d_M_common_11 : decode b_M_common 11 = .ok (.iload 4, 2) := by decide +kernel
theorem d_M_common_13 : decode b_M_common 13 = .ok (.imul, 1) := by decide +kernel
theorem d_M_common_14 : decode b_M_common 14 = .ok (.lshr, 1) := by decide +kernel
theorem d_M_common_15 : decode b_M_common 15 = .ok (.l2i, 1) := by decide +kernel
theorem d_M_common_16 : decode b_M_common 16 = .ok (.bipush 7, 2) := by decide +kernel
theorem d_M_common_18 : decode b_M_common 18 = .ok (.iand, 1) := by decide +kernel
theorem d_M_common_19 : decode b_M_common 19 = .ok (.istore 5, 2) := by decide +kernel
theorem d_M_common_21 : decode b_M_common 21 = .ok (.iconst 0, 1) := by decide +kernel
theorem d_M_common_22 : decode b_M_common 22 = .ok (.istore 6, 2) := by decide +kernel
theorem d_M_common_24 : decode b_M_common 24 = .ok (.iload 6, 2) := by decide +kernel
theorem d_M_common_26 : decode b_M_common 26 = .ok (.iconst 3, 1) := by decide +kernel
theorem d_M_common_27 : decode b_M_common 27 = .ok (.if_icmp .ge 32, 3) := by decide +kernel
theorem d_M_common_30 : decode b_M_common 30 = .ok (.iload 5, 2) := by decide +kernel
theorem d_M_common_32 : decode b_M_common 32 = .ok (.ifCond .le 21, 3) := by decide +kernel
theorem d_M_common_35 : decode b_M_common 35 = .ok (.iload 5, 2) := by decide +kernel
theorem d_M_common_37 : decode b_M_common 37 = .ok (.lload_n 2, 1) := by decide +kernel
theorem d_M_common_38 : decode b_M_common 38 = .ok (.iconst 3, 1) := by decide +kernel
theorem d_M_common_39 : decode b_M_common 39 = .ok (.iload 6, 2) := by decide +kernel
theorem d_M_common_41 : decode b_M_common 41 = .ok (.imul, 1) := by decide +kernel
theorem d_M_common_42 : decode b_M_common 42 = .ok (.lshr, 1) := by decide +kernel
theorem d_M_common_43 : decode b_M_common 43 = .ok (.l2i, 1) := by decide +kernel
theorem d_M_common_44 : decode b_M_common 44 = .ok (.bipush 7, 2) := by decide +kernel
theorem d_M_common_46 : decode b_M_common 46 = .ok (.iand, 1) := by decide +kernel
theorem d_M_common_47 : decode b_M_common 47 = .ok (.if_icmp .ne 6, 3) := by decide +kernel
theorem d_M_common_50 : decode b_M_common 50 = .ok (.iload 5, 2) := by decide +kernel
theorem d_M_common_52 : decode b_M_common 52 = .ok (.ireturn, 1) := by decide +kernel
theorem d_M_common_53 : decode b_M_common 53 = .ok (.iinc 6 1, 3) := by decide +kernel
theorem d_M_common_56 : decode b_M_common 56 = .ok (.goto (-32), 3) := by decide +kernel
theorem d_M_common_59 : decode b_M_common 59 = .ok (.iinc 4 1, 3) := by decide +kernel
theorem d_M_common_62 : decode b_M_common 62 = .ok (.goto (-59), 3) := by decide +kernel
theorem d_M_common_65 : decode b_M_common 65 = .ok (.iconst 0, 1) := by decide +kernel
theorem d_M_common_66 : decode b_M_common 66 = .ok (.ireturn, 1) := by decide +kernel
def g_common (x0 : Int64) (x1 : Int64) : Int32 := (if ((xb_lshr x0 (0 : Int32)).toInt32 &&& (7 : Int32)) ≤ 0 then (if ((xb_lshr x0 (3 : Int32)).toInt32 &&& (7 : Int32)) ≤ 0 then (if ((xb_lshr x0 (6 : Int32)).toInt32 &&& (7 : Int32)) ≤ 0 then (0 : Int32) else (if ((xb_lshr x0 (6 : Int32)).toInt32 &&& (7 : Int32)) = ((xb_lshr x1 (0 : Int32)).toInt32 &&& (7 : Int32)) then ((xb_lshr x0 (6 : Int32)).toInt32 &&& (7 : Int32)) else (if ((xb_lshr x0 (6 : Int32)).toInt32 &&& (7 : Int32)) = ((xb_lshr x1 (3 : Int32)).toInt32 &&& (7 : Int32)) then ((xb_lshr x0 (6 : Int32)).toInt32 &&& (7 : Int32)) else (if ((xb_lshr x0 (6 : Int32)).toInt32 &&& (7 : Int32)) = ((xb_lshr x1 (6 : Int32)).toInt32 &&& (7 : Int32)) then ((xb_lshr x0 (6 : Int32)).toInt32 &&& (7 : Int32)) else (0 : Int32))))) else (if ((xb_lshr x0 (3 : Int32)).toInt32 &&& (7 : Int32)) = ((xb_lshr x1 (0 : Int32)).toInt32 &&& (7 : Int32)) then ((xb_lshr x0 (3 : Int32)).toInt32 &&& (7 : Int32)) else (if ((xb_lshr x0 (3 : Int32)).toInt32 &&& (7 : Int32)) = ((xb_lshr x1 (3 : Int32)).toInt32 &&& (7 : Int32)) then ((xb_lshr x0 (3 : Int32)).toInt32 &&& (7 : Int32)) else (if ((xb_lshr x0 (3 : Int32)).toInt32 &&& (7 : Int32)) = ((xb_lshr x1 (6 : Int32)).toInt32 &&& (7 : Int32)) then ((xb_lshr x0 (3 : Int32)).toInt32 &&& (7 : Int32)) else (if ((xb_lshr x0 (6 : Int32)).toInt32 &&& (7 : Int32)) ≤ 0 then (0 : Int32) else (if ((xb_lshr x0 (6 : Int32)).toInt32 &&& (7 : Int32)) = ((xb_lshr x1 (0 : Int32)).toInt32 &&& (7 : Int32)) then ((xb_lshr x0 (6 : Int32)).toInt32 &&& (7 : Int32)) else (if ((xb_lshr x0 (6 : Int32)).toInt32 &&& (7 : Int32)) = ((xb_lshr x1 (3 : Int32)).toInt32 &&& (7 : Int32)) then ((xb_lshr x0 (6 : Int32)).toInt32 &&& (7 : Int32)) else (if ((xb_lshr x0 (6 : Int32)).toInt32 &&& (7 : Int32)) = ((xb_lshr x1 (6 : Int32)).toInt32 &&& (7 : Int32)) then ((xb_lshr x0 (6 : Int32)).toInt32 &&& (7 : Int32)) else (0 : Int32))))))))) else (if ((xb_lshr x0 (0 : Int32)).toInt32 &&& (7 : Int32)) = ((xb_lshr x1 (0 : Int32)).toInt32 &&& (7 : Int32)) then ((xb_lshr x0 (0 : Int32)).toInt32 &&& (7 : Int32)) else (if ((xb_lshr x0 (0 : Int32)).toInt32 &&& (7 : Int32)) = ((xb_lshr x1 (3 : Int32)).toInt32 &&& (7 : Int32)) then ((xb_lshr x0 (0 : Int32)).toInt32 &&& (7 : Int32)) else (if ((xb_lshr x0 (0 : Int32)).toInt32 &&& (7 : Int32)) = ((xb_lshr x1 (6 : Int32)).toInt32 &&& (7 : Int32)) then ((xb_lshr x0 (0 : Int32)).toInt32 &&& (7 : Int32)) else (if ((xb_lshr x0 (3 : Int32)).toInt32 &&& (7 : Int32)) ≤ 0 then (if ((xb_lshr x0 (6 : Int32)).toInt32 &&& (7 : Int32)) ≤ 0 then (0 : Int32) else (if ((xb_lshr x0 (6 : Int32)).toInt32 &&& (7 : Int32)) = ((xb_lshr x1 (0 : Int32)).toInt32 &&& (7 : Int32)) then ((xb_lshr x0 (6 : Int32)).toInt32 &&& (7 : Int32)) else (if ((xb_lshr x0 (6 : Int32)).toInt32 &&& (7 : Int32)) = ((xb_lshr x1 (3 : Int32)).toInt32 &&& (7 : Int32)) then ((xb_lshr x0 (6 : Int32)).toInt32 &&& (7 : Int32)) else (if ((xb_lshr x0 (6 : Int32)).toInt32 &&& (7 : Int32)) = ((xb_lshr x1 (6 : Int32)).toInt32 &&& (7 : Int32)) then ((xb_lshr x0 (6 : Int32)).toInt32 &&& (7 : Int32)) else (0 : Int32))))) else (if ((xb_lshr x0 (3 : Int32)).toInt32 &&& (7 : Int32)) = ((xb_lshr x1 (0 : Int32)).toInt32 &&& (7 : Int32)) then ((xb_lshr x0 (3 : Int32)).toInt32 &&& (7 : Int32)) else (if ((xb_lshr x0 (3 : Int32)).toInt32 &&& (7 : Int32)) = ((xb_lshr x1 (3 : Int32)).toInt32 &&& (7 : Int32)) then ((xb_lshr x0 (3 : Int32)).toInt32 &&& (7 : Int32)) else (if ((xb_lshr x0 (3 : Int32)).toInt32 &&& (7 : Int32)) = ((xb_lshr x1 (6 : Int32)).toInt32 &&& (7 : Int32)) then ((xb_lshr x0 (3 : Int32)).toInt32 &&& (7 : Int32)) else (if ((xb_lshr x0 (6 : Int32)).toInt32 &&& (7 : Int32)) ≤ 0 then (0 : Int32) else (if ((xb_lshr x0 (6 : Int32)).toInt32 &&& (7 : Int32)) = ((xb_lshr x1 (0 : Int32)).toInt32 &&& (7 : Int32)) then ((xb_lshr x0 (6 : Int32)).toInt32 &&& (7 : Int32)) else (if ((xb_lshr x0 (6 : Int32)).toInt32 &&& (7 : Int32)) = ((xb_lshr x1 (3 : Int32)).toInt32 &&& (7 : Int32)) then ((xb_lshr x0 (6 : Int32)).toInt32 &&& (7 : Int32)) else (if ((xb_lshr x0 (6 : Int32)).toInt32 &&& (7 : Int32)) = ((xb_lshr x1 (6 : Int32)).toInt32 &&& (7 : Int32)) then ((xb_lshr x0 (6 : Int32)).toInt32 &&& (7 : Int32)) else (0 : Int32)))))))))))))
set_option maxHeartbeats 4000000 in
set_option maxRecDepth 100000 in
theorem c_M_common (l : Launch) (x0 : Int64) (x1 : Int64) : Met l y_M_common w_M_common ({ frames := 0, cells := 0, slots := 0, locals := 0 }) (fun av_ _ => av_ = ([.long x0, .long x1] : List Value).toArray) (vp_Si (fun r => r = g_common x0 x1)) 0 0 (fun _ => False) := by
  refine Met.ofW (cc := b_M_common) (maxL := 7) (ret := (some .int)) (by decide) rfl ?_
  intro p e s m args below meth c s₁ B hml hv
  subst hv
  have hx := B.exec
  have hb := B.bytes
  have hr := B.returns
  have hts := atoms_spec (ws := w_M_common) B.pre
  have ht : ∀ w ∈ xa, w.before _ s = true := fun w h => hts w (List.mem_cons_of_mem _ h)
  have hown : s.vm.findClass "SecurePairModel" = some m.cls := findClass_of_methodNamed B.named
  have hlocks := B.notSynchronized
  have hl := lv_entry ([.long x0, .long x1]) (n := 7) (Nat.le_of_ble_eq_true rfl)
  rw [lg_entry_eq]
  generalize (lg_sl ([.long x0, .long x1]) ++ List.replicate (7 - (lg_sl ([.long x0, .long x1])).length) Slot.unset).toArray = ls at hl ⊢
  have hl : lv_has ls 7 [(0, .long x0), (2, .long x1)] := hl
  refine lv_iconst (v := 0) hx hb d_M_common_0 (by decide) ?_
  refine lv_istore (lv' := [(4, .int (0 : Int32)), (0, .long x0), (2, .long x1)]) hx hb d_M_common_1 hl (by decide) rfl (fun ls hl => ?_)
  refine lv_iload hx hb d_M_common_3 (lv_at hl 0 rfl) ?_
  refine lv_iconst (v := 3) hx hb d_M_common_5 (by decide) ?_
  refine lv_icmp_ge (tgt := 65) hx hb d_M_common_6 (by decide) (fun h_ => absurd h_ (by decide)) (fun _ => ?_)
  refine lv_lload_n hx hb d_M_common_9 rfl (lv_at hl 1 rfl) ?_
  refine lv_iconst (v := 3) hx hb d_M_common_10 (by decide) ?_
  refine lv_iload hx hb d_M_common_11 (lv_at hl 0 rfl) ?_
  refine lv_imul hx hb d_M_common_13 ?_
  refine xb_ti (y := (0 : Int32)) (by decide) ?_
  refine lv_lshr (v := (xb_lshr x0 (0 : Int32))) hx hb d_M_common_14 rfl ?_
  refine lv_l2i (v := (xb_lshr x0 (0 : Int32)).toInt32) hx hb d_M_common_15 (by rfl) ?_
  refine lv_bipush (v := 7) hx hb d_M_common_16 (by decide) ?_
  refine lv_iand hx hb d_M_common_18 ?_
  refine lv_istore (lv' := [(5, .int ((xb_lshr x0 (0 : Int32)).toInt32 &&& (7 : Int32))), (4, .int (0 : Int32)), (0, .long x0), (2, .long x1)]) hx hb d_M_common_19 hl (by decide) rfl (fun ls hl => ?_)
  refine lv_iconst (v := 0) hx hb d_M_common_21 (by decide) ?_
  refine lv_istore (lv' := [(6, .int (0 : Int32)), (5, .int ((xb_lshr x0 (0 : Int32)).toInt32 &&& (7 : Int32))), (4, .int (0 : Int32)), (0, .long x0), (2, .long x1)]) hx hb d_M_common_22 hl (by decide) rfl (fun ls hl => ?_)
  refine lv_iload hx hb d_M_common_24 (lv_at hl 0 rfl) ?_
  refine lv_iconst (v := 3) hx hb d_M_common_26 (by decide) ?_
  refine lv_icmp_ge (tgt := 59) hx hb d_M_common_27 (by decide) (fun h_ => absurd h_ (by decide)) (fun _ => ?_)
  refine lv_iload hx hb d_M_common_30 (lv_at hl 1 rfl) ?_
  refine lv_if_le (tgt := 53) hx hb d_M_common_32 (by decide) (fun c1 => ?_) (fun c1 => ?_)
  · skip
    refine lv_iinc (v := (1 : Int32)) (k := 0) (lv' := [(6, .int (1 : Int32)), (5, .int ((xb_lshr x0 (0 : Int32)).toInt32 &&& (7 : Int32))), (4, .int (0 : Int32)), (0, .long x0), (2, .long x1)]) hx hb d_M_common_53 hl rfl (by decide) (by decide) rfl (fun ls hl => ?_)
    refine lv_goto (tgt := 24) hx hb d_M_common_56 (by decide) ?_
    refine lv_iload hx hb d_M_common_24 (lv_at hl 0 rfl) ?_
    refine lv_iconst (v := 3) hx hb d_M_common_26 (by decide) ?_
    refine lv_icmp_ge (tgt := 59) hx hb d_M_common_27 (by decide) (fun h_ => absurd h_ (by decide)) (fun _ => ?_)
    refine lv_iload hx hb d_M_common_30 (lv_at hl 1 rfl) ?_
    refine lv_if_le (tgt := 53) hx hb d_M_common_32 (by decide) (fun _ => ?_) (fun h_ => absurd c1 h_)
    refine lv_iinc (v := (2 : Int32)) (k := 0) (lv' := [(6, .int (2 : Int32)), (5, .int ((xb_lshr x0 (0 : Int32)).toInt32 &&& (7 : Int32))), (4, .int (0 : Int32)), (0, .long x0), (2, .long x1)]) hx hb d_M_common_53 hl rfl (by decide) (by decide) rfl (fun ls hl => ?_)
    refine lv_goto (tgt := 24) hx hb d_M_common_56 (by decide) ?_
    refine lv_iload hx hb d_M_common_24 (lv_at hl 0 rfl) ?_
    refine lv_iconst (v := 3) hx hb d_M_common_26 (by decide) ?_
    refine lv_icmp_ge (tgt := 59) hx hb d_M_common_27 (by decide) (fun h_ => absurd h_ (by decide)) (fun _ => ?_)
    refine lv_iload hx hb d_M_common_30 (lv_at hl 1 rfl) ?_
    refine lv_if_le (tgt := 53) hx hb d_M_common_32 (by decide) (fun _ => ?_) (fun h_ => absurd c1 h_)
    refine lv_iinc (v := (3 : Int32)) (k := 0) (lv' := [(6, .int (3 : Int32)), (5, .int ((xb_lshr x0 (0 : Int32)).toInt32 &&& (7 : Int32))), (4, .int (0 : Int32)), (0, .long x0), (2, .long x1)]) hx hb d_M_common_53 hl rfl (by decide) (by decide) rfl (fun ls hl => ?_)
    refine lv_goto (tgt := 24) hx hb d_M_common_56 (by decide) ?_
    refine lv_iload hx hb d_M_common_24 (lv_at hl 0 rfl) ?_
    refine lv_iconst (v := 3) hx hb d_M_common_26 (by decide) ?_
    refine lv_icmp_ge (tgt := 59) hx hb d_M_common_27 (by decide) (fun _ => ?_) (fun h_ => absurd h_ (by decide))
    refine lv_iinc (v := (1 : Int32)) (k := 2) (lv' := [(4, .int (1 : Int32)), (6, .int (3 : Int32)), (5, .int ((xb_lshr x0 (0 : Int32)).toInt32 &&& (7 : Int32))), (0, .long x0), (2, .long x1)]) hx hb d_M_common_59 hl rfl (by decide) (by decide) rfl (fun ls hl => ?_)
    refine lv_goto (tgt := 3) hx hb d_M_common_62 (by decide) ?_
    refine lv_iload hx hb d_M_common_3 (lv_at hl 0 rfl) ?_
    refine lv_iconst (v := 3) hx hb d_M_common_5 (by decide) ?_
    refine lv_icmp_ge (tgt := 65) hx hb d_M_common_6 (by decide) (fun h_ => absurd h_ (by decide)) (fun _ => ?_)
    refine lv_lload_n hx hb d_M_common_9 rfl (lv_at hl 3 rfl) ?_
    refine lv_iconst (v := 3) hx hb d_M_common_10 (by decide) ?_
    refine lv_iload hx hb d_M_common_11 (lv_at hl 0 rfl) ?_
    refine lv_imul hx hb d_M_common_13 ?_
    refine xb_ti (y := (3 : Int32)) (by decide) ?_
    refine lv_lshr (v := (xb_lshr x0 (3 : Int32))) hx hb d_M_common_14 rfl ?_
    refine lv_l2i (v := (xb_lshr x0 (3 : Int32)).toInt32) hx hb d_M_common_15 (by rfl) ?_
    refine lv_bipush (v := 7) hx hb d_M_common_16 (by decide) ?_
    refine lv_iand hx hb d_M_common_18 ?_
    refine lv_istore (lv' := [(5, .int ((xb_lshr x0 (3 : Int32)).toInt32 &&& (7 : Int32))), (4, .int (1 : Int32)), (6, .int (3 : Int32)), (0, .long x0), (2, .long x1)]) hx hb d_M_common_19 hl (by decide) rfl (fun ls hl => ?_)
    refine lv_iconst (v := 0) hx hb d_M_common_21 (by decide) ?_
    refine lv_istore (lv' := [(6, .int (0 : Int32)), (5, .int ((xb_lshr x0 (3 : Int32)).toInt32 &&& (7 : Int32))), (4, .int (1 : Int32)), (0, .long x0), (2, .long x1)]) hx hb d_M_common_22 hl (by decide) rfl (fun ls hl => ?_)
    refine lv_iload hx hb d_M_common_24 (lv_at hl 0 rfl) ?_
    refine lv_iconst (v := 3) hx hb d_M_common_26 (by decide) ?_
    refine lv_icmp_ge (tgt := 59) hx hb d_M_common_27 (by decide) (fun h_ => absurd h_ (by decide)) (fun _ => ?_)
    refine lv_iload hx hb d_M_common_30 (lv_at hl 1 rfl) ?_
    refine lv_if_le (tgt := 53) hx hb d_M_common_32 (by decide) (fun c2 => ?_) (fun c2 => ?_)
    · skip
      refine lv_iinc (v := (1 : Int32)) (k := 0) (lv' := [(6, .int (1 : Int32)), (5, .int ((xb_lshr x0 (3 : Int32)).toInt32 &&& (7 : Int32))), (4, .int (1 : Int32)), (0, .long x0), (2, .long x1)]) hx hb d_M_common_53 hl rfl (by decide) (by decide) rfl (fun ls hl => ?_)
      refine lv_goto (tgt := 24) hx hb d_M_common_56 (by decide) ?_
      refine lv_iload hx hb d_M_common_24 (lv_at hl 0 rfl) ?_
      refine lv_iconst (v := 3) hx hb d_M_common_26 (by decide) ?_
      refine lv_icmp_ge (tgt := 59) hx hb d_M_common_27 (by decide) (fun h_ => absurd h_ (by decide)) (fun _ => ?_)
      refine lv_iload hx hb d_M_common_30 (lv_at hl 1 rfl) ?_
      refine lv_if_le (tgt := 53) hx hb d_M_common_32 (by decide) (fun _ => ?_) (fun h_ => absurd c2 h_)
      refine lv_iinc (v := (2 : Int32)) (k := 0) (lv' := [(6, .int (2 : Int32)), (5, .int ((xb_lshr x0 (3 : Int32)).toInt32 &&& (7 : Int32))), (4, .int (1 : Int32)), (0, .long x0), (2, .long x1)]) hx hb d_M_common_53 hl rfl (by decide) (by decide) rfl (fun ls hl => ?_)
      refine lv_goto (tgt := 24) hx hb d_M_common_56 (by decide) ?_
      refine lv_iload hx hb d_M_common_24 (lv_at hl 0 rfl) ?_
      refine lv_iconst (v := 3) hx hb d_M_common_26 (by decide) ?_
      refine lv_icmp_ge (tgt := 59) hx hb d_M_common_27 (by decide) (fun h_ => absurd h_ (by decide)) (fun _ => ?_)
      refine lv_iload hx hb d_M_common_30 (lv_at hl 1 rfl) ?_
      refine lv_if_le (tgt := 53) hx hb d_M_common_32 (by decide) (fun _ => ?_) (fun h_ => absurd c2 h_)
      refine lv_iinc (v := (3 : Int32)) (k := 0) (lv' := [(6, .int (3 : Int32)), (5, .int ((xb_lshr x0 (3 : Int32)).toInt32 &&& (7 : Int32))), (4, .int (1 : Int32)), (0, .long x0), (2, .long x1)]) hx hb d_M_common_53 hl rfl (by decide) (by decide) rfl (fun ls hl => ?_)
      refine lv_goto (tgt := 24) hx hb d_M_common_56 (by decide) ?_
      refine lv_iload hx hb d_M_common_24 (lv_at hl 0 rfl) ?_
      refine lv_iconst (v := 3) hx hb d_M_common_26 (by decide) ?_
      refine lv_icmp_ge (tgt := 59) hx hb d_M_common_27 (by decide) (fun _ => ?_) (fun h_ => absurd h_ (by decide))
      refine lv_iinc (v := (2 : Int32)) (k := 2) (lv' := [(4, .int (2 : Int32)), (6, .int (3 : Int32)), (5, .int ((xb_lshr x0 (3 : Int32)).toInt32 &&& (7 : Int32))), (0, .long x0), (2, .long x1)]) hx hb d_M_common_59 hl rfl (by decide) (by decide) rfl (fun ls hl => ?_)
      refine lv_goto (tgt := 3) hx hb d_M_common_62 (by decide) ?_
      refine lv_iload hx hb d_M_common_3 (lv_at hl 0 rfl) ?_
      refine lv_iconst (v := 3) hx hb d_M_common_5 (by decide) ?_
      refine lv_icmp_ge (tgt := 65) hx hb d_M_common_6 (by decide) (fun h_ => absurd h_ (by decide)) (fun _ => ?_)
      refine lv_lload_n hx hb d_M_common_9 rfl (lv_at hl 3 rfl) ?_
      refine lv_iconst (v := 3) hx hb d_M_common_10 (by decide) ?_
      refine lv_iload hx hb d_M_common_11 (lv_at hl 0 rfl) ?_
      refine lv_imul hx hb d_M_common_13 ?_
      refine xb_ti (y := (6 : Int32)) (by decide) ?_
      refine lv_lshr (v := (xb_lshr x0 (6 : Int32))) hx hb d_M_common_14 rfl ?_
      refine lv_l2i (v := (xb_lshr x0 (6 : Int32)).toInt32) hx hb d_M_common_15 (by rfl) ?_
      refine lv_bipush (v := 7) hx hb d_M_common_16 (by decide) ?_
      refine lv_iand hx hb d_M_common_18 ?_
      refine lv_istore (lv' := [(5, .int ((xb_lshr x0 (6 : Int32)).toInt32 &&& (7 : Int32))), (4, .int (2 : Int32)), (6, .int (3 : Int32)), (0, .long x0), (2, .long x1)]) hx hb d_M_common_19 hl (by decide) rfl (fun ls hl => ?_)
      refine lv_iconst (v := 0) hx hb d_M_common_21 (by decide) ?_
      refine lv_istore (lv' := [(6, .int (0 : Int32)), (5, .int ((xb_lshr x0 (6 : Int32)).toInt32 &&& (7 : Int32))), (4, .int (2 : Int32)), (0, .long x0), (2, .long x1)]) hx hb d_M_common_22 hl (by decide) rfl (fun ls hl => ?_)
      refine lv_iload hx hb d_M_common_24 (lv_at hl 0 rfl) ?_
      refine lv_iconst (v := 3) hx hb d_M_common_26 (by decide) ?_
      refine lv_icmp_ge (tgt := 59) hx hb d_M_common_27 (by decide) (fun h_ => absurd h_ (by decide)) (fun _ => ?_)
      refine lv_iload hx hb d_M_common_30 (lv_at hl 1 rfl) ?_
      refine lv_if_le (tgt := 53) hx hb d_M_common_32 (by decide) (fun c3 => ?_) (fun c3 => ?_)
      · skip
        refine lv_iinc (v := (1 : Int32)) (k := 0) (lv' := [(6, .int (1 : Int32)), (5, .int ((xb_lshr x0 (6 : Int32)).toInt32 &&& (7 : Int32))), (4, .int (2 : Int32)), (0, .long x0), (2, .long x1)]) hx hb d_M_common_53 hl rfl (by decide) (by decide) rfl (fun ls hl => ?_)
        refine lv_goto (tgt := 24) hx hb d_M_common_56 (by decide) ?_
        refine lv_iload hx hb d_M_common_24 (lv_at hl 0 rfl) ?_
        refine lv_iconst (v := 3) hx hb d_M_common_26 (by decide) ?_
        refine lv_icmp_ge (tgt := 59) hx hb d_M_common_27 (by decide) (fun h_ => absurd h_ (by decide)) (fun _ => ?_)
        refine lv_iload hx hb d_M_common_30 (lv_at hl 1 rfl) ?_
        refine lv_if_le (tgt := 53) hx hb d_M_common_32 (by decide) (fun _ => ?_) (fun h_ => absurd c3 h_)
        refine lv_iinc (v := (2 : Int32)) (k := 0) (lv' := [(6, .int (2 : Int32)), (5, .int ((xb_lshr x0 (6 : Int32)).toInt32 &&& (7 : Int32))), (4, .int (2 : Int32)), (0, .long x0), (2, .long x1)]) hx hb d_M_common_53 hl rfl (by decide) (by decide) rfl (fun ls hl => ?_)
        refine lv_goto (tgt := 24) hx hb d_M_common_56 (by decide) ?_
        refine lv_iload hx hb d_M_common_24 (lv_at hl 0 rfl) ?_
        refine lv_iconst (v := 3) hx hb d_M_common_26 (by decide) ?_
        refine lv_icmp_ge (tgt := 59) hx hb d_M_common_27 (by decide) (fun h_ => absurd h_ (by decide)) (fun _ => ?_)
        refine lv_iload hx hb d_M_common_30 (lv_at hl 1 rfl) ?_
        refine lv_if_le (tgt := 53) hx hb d_M_common_32 (by decide) (fun _ => ?_) (fun h_ => absurd c3 h_)
        refine lv_iinc (v := (3 : Int32)) (k := 0) (lv' := [(6, .int (3 : Int32)), (5, .int ((xb_lshr x0 (6 : Int32)).toInt32 &&& (7 : Int32))), (4, .int (2 : Int32)), (0, .long x0), (2, .long x1)]) hx hb d_M_common_53 hl rfl (by decide) (by decide) rfl (fun ls hl => ?_)
        refine lv_goto (tgt := 24) hx hb d_M_common_56 (by decide) ?_
        refine lv_iload hx hb d_M_common_24 (lv_at hl 0 rfl) ?_
        refine lv_iconst (v := 3) hx hb d_M_common_26 (by decide) ?_
        refine lv_icmp_ge (tgt := 59) hx hb d_M_common_27 (by decide) (fun _ => ?_) (fun h_ => absurd h_ (by decide))
        refine lv_iinc (v := (3 : Int32)) (k := 2) (lv' := [(4, .int (3 : Int32)), (6, .int (3 : Int32)), (5, .int ((xb_lshr x0 (6 : Int32)).toInt32 &&& (7 : Int32))), (0, .long x0), (2, .long x1)]) hx hb d_M_common_59 hl rfl (by decide) (by decide) rfl (fun ls hl => ?_)
        refine lv_goto (tgt := 3) hx hb d_M_common_62 (by decide) ?_
        refine lv_iload hx hb d_M_common_3 (lv_at hl 0 rfl) ?_
        refine lv_iconst (v := 3) hx hb d_M_common_5 (by decide) ?_
        refine lv_icmp_ge (tgt := 65) hx hb d_M_common_6 (by decide) (fun _ => ?_) (fun h_ => absurd h_ (by decide))
        refine lv_iconst (v := 0) hx hb d_M_common_65 (by decide) ?_
        exact W.iret (v := (0 : Int32)) hx hb hr (fun t ht_ hW => ⟨_, rfl, ((if_pos c1).trans ((if_pos c2).trans ((if_pos c3)))).symm, ht_⟩) (fun _ h_ => nomatch h_) d_M_common_66
      · skip
        refine lv_iload hx hb d_M_common_35 (lv_at hl 1 rfl) ?_
        refine lv_lload_n hx hb d_M_common_37 rfl (lv_at hl 4 rfl) ?_
        refine lv_iconst (v := 3) hx hb d_M_common_38 (by decide) ?_
        refine lv_iload hx hb d_M_common_39 (lv_at hl 0 rfl) ?_
        refine lv_imul hx hb d_M_common_41 ?_
        refine xb_ti (y := (0 : Int32)) (by decide) ?_
        refine lv_lshr (v := (xb_lshr x1 (0 : Int32))) hx hb d_M_common_42 rfl ?_
        refine lv_l2i (v := (xb_lshr x1 (0 : Int32)).toInt32) hx hb d_M_common_43 (by rfl) ?_
        refine lv_bipush (v := 7) hx hb d_M_common_44 (by decide) ?_
        refine lv_iand hx hb d_M_common_46 ?_
        refine lv_icmp_ne (tgt := 53) hx hb d_M_common_47 (by decide) (fun c4 => ?_) (fun c4 => ?_)
        · skip
          refine lv_iinc (v := (1 : Int32)) (k := 0) (lv' := [(6, .int (1 : Int32)), (5, .int ((xb_lshr x0 (6 : Int32)).toInt32 &&& (7 : Int32))), (4, .int (2 : Int32)), (0, .long x0), (2, .long x1)]) hx hb d_M_common_53 hl rfl (by decide) (by decide) rfl (fun ls hl => ?_)
          refine lv_goto (tgt := 24) hx hb d_M_common_56 (by decide) ?_
          refine lv_iload hx hb d_M_common_24 (lv_at hl 0 rfl) ?_
          refine lv_iconst (v := 3) hx hb d_M_common_26 (by decide) ?_
          refine lv_icmp_ge (tgt := 59) hx hb d_M_common_27 (by decide) (fun h_ => absurd h_ (by decide)) (fun _ => ?_)
          refine lv_iload hx hb d_M_common_30 (lv_at hl 1 rfl) ?_
          refine lv_if_le (tgt := 53) hx hb d_M_common_32 (by decide) (fun h_ => absurd h_ c3) (fun _ => ?_)
          refine lv_iload hx hb d_M_common_35 (lv_at hl 1 rfl) ?_
          refine lv_lload_n hx hb d_M_common_37 rfl (lv_at hl 4 rfl) ?_
          refine lv_iconst (v := 3) hx hb d_M_common_38 (by decide) ?_
          refine lv_iload hx hb d_M_common_39 (lv_at hl 0 rfl) ?_
          refine lv_imul hx hb d_M_common_41 ?_
          refine xb_ti (y := (3 : Int32)) (by decide) ?_
          refine lv_lshr (v := (xb_lshr x1 (3 : Int32))) hx hb d_M_common_42 rfl ?_
          refine lv_l2i (v := (xb_lshr x1 (3 : Int32)).toInt32) hx hb d_M_common_43 (by rfl) ?_
          refine lv_bipush (v := 7) hx hb d_M_common_44 (by decide) ?_
          refine lv_iand hx hb d_M_common_46 ?_
          refine lv_icmp_ne (tgt := 53) hx hb d_M_common_47 (by decide) (fun c5 => ?_) (fun c5 => ?_)
          · skip
            refine lv_iinc (v := (2 : Int32)) (k := 0) (lv' := [(6, .int (2 : Int32)), (5, .int ((xb_lshr x0 (6 : Int32)).toInt32 &&& (7 : Int32))), (4, .int (2 : Int32)), (0, .long x0), (2, .long x1)]) hx hb d_M_common_53 hl rfl (by decide) (by decide) rfl (fun ls hl => ?_)
            refine lv_goto (tgt := 24) hx hb d_M_common_56 (by decide) ?_
            refine lv_iload hx hb d_M_common_24 (lv_at hl 0 rfl) ?_
            refine lv_iconst (v := 3) hx hb d_M_common_26 (by decide) ?_
            refine lv_icmp_ge (tgt := 59) hx hb d_M_common_27 (by decide) (fun h_ => absurd h_ (by decide)) (fun _ => ?_)
            refine lv_iload hx hb d_M_common_30 (lv_at hl 1 rfl) ?_
            refine lv_if_le (tgt := 53) hx hb d_M_common_32 (by decide) (fun h_ => absurd h_ c3) (fun _ => ?_)
            refine lv_iload hx hb d_M_common_35 (lv_at hl 1 rfl) ?_
            refine lv_lload_n hx hb d_M_common_37 rfl (lv_at hl 4 rfl) ?_
            refine lv_iconst (v := 3) hx hb d_M_common_38 (by decide) ?_
            refine lv_iload hx hb d_M_common_39 (lv_at hl 0 rfl) ?_
            refine lv_imul hx hb d_M_common_41 ?_
            refine xb_ti (y := (6 : Int32)) (by decide) ?_
            refine lv_lshr (v := (xb_lshr x1 (6 : Int32))) hx hb d_M_common_42 rfl ?_
            refine lv_l2i (v := (xb_lshr x1 (6 : Int32)).toInt32) hx hb d_M_common_43 (by rfl) ?_
            refine lv_bipush (v := 7) hx hb d_M_common_44 (by decide) ?_
            refine lv_iand hx hb d_M_common_46 ?_
            refine lv_icmp_ne (tgt := 53) hx hb d_M_common_47 (by decide) (fun c6 => ?_) (fun c6 => ?_)
            · skip
              refine lv_iinc (v := (3 : Int32)) (k := 0) (lv' := [(6, .int (3 : Int32)), (5, .int ((xb_lshr x0 (6 : Int32)).toInt32 &&& (7 : Int32))), (4, .int (2 : Int32)), (0, .long x0), (2, .long x1)]) hx hb d_M_common_53 hl rfl (by decide) (by decide) rfl (fun ls hl => ?_)
              refine lv_goto (tgt := 24) hx hb d_M_common_56 (by decide) ?_
              refine lv_iload hx hb d_M_common_24 (lv_at hl 0 rfl) ?_
              refine lv_iconst (v := 3) hx hb d_M_common_26 (by decide) ?_
              refine lv_icmp_ge (tgt := 59) hx hb d_M_common_27 (by decide) (fun _ => ?_) (fun h_ => absurd h_ (by decide))
              refine lv_iinc (v := (3 : Int32)) (k := 2) (lv' := [(4, .int (3 : Int32)), (6, .int (3 : Int32)), (5, .int ((xb_lshr x0 (6 : Int32)).toInt32 &&& (7 : Int32))), (0, .long x0), (2, .long x1)]) hx hb d_M_common_59 hl rfl (by decide) (by decide) rfl (fun ls hl => ?_)
              refine lv_goto (tgt := 3) hx hb d_M_common_62 (by decide) ?_
              refine lv_iload hx hb d_M_common_3 (lv_at hl 0 rfl) ?_
              refine lv_iconst (v := 3) hx hb d_M_common_5 (by decide) ?_
              refine lv_icmp_ge (tgt := 65) hx hb d_M_common_6 (by decide) (fun _ => ?_) (fun h_ => absurd h_ (by decide))
              refine lv_iconst (v := 0) hx hb d_M_common_65 (by decide) ?_
              exact W.iret (v := (0 : Int32)) hx hb hr (fun t ht_ hW => ⟨_, rfl, ((if_pos c1).trans ((if_pos c2).trans ((if_neg c3).trans ((if_neg c4).trans ((if_neg c5).trans ((if_neg c6))))))).symm, ht_⟩) (fun _ h_ => nomatch h_) d_M_common_66
            · skip
              refine lv_iload hx hb d_M_common_50 (lv_at hl 1 rfl) ?_
              exact W.iret (v := ((xb_lshr x0 (6 : Int32)).toInt32 &&& (7 : Int32))) hx hb hr (fun t ht_ hW => ⟨_, rfl, ((if_pos c1).trans ((if_pos c2).trans ((if_neg c3).trans ((if_neg c4).trans ((if_neg c5).trans ((if_pos c6))))))).symm, ht_⟩) (fun _ h_ => nomatch h_) d_M_common_52
          · skip
            refine lv_iload hx hb d_M_common_50 (lv_at hl 1 rfl) ?_
            exact W.iret (v := ((xb_lshr x0 (6 : Int32)).toInt32 &&& (7 : Int32))) hx hb hr (fun t ht_ hW => ⟨_, rfl, ((if_pos c1).trans ((if_pos c2).trans ((if_neg c3).trans ((if_neg c4).trans ((if_pos c5)))))).symm, ht_⟩) (fun _ h_ => nomatch h_) d_M_common_52
        · skip
          refine lv_iload hx hb d_M_common_50 (lv_at hl 1 rfl) ?_
          exact W.iret (v := ((xb_lshr x0 (6 : Int32)).toInt32 &&& (7 : Int32))) hx hb hr (fun t ht_ hW => ⟨_, rfl, ((if_pos c1).trans ((if_pos c2).trans ((if_neg c3).trans ((if_pos c4))))).symm, ht_⟩) (fun _ h_ => nomatch h_) d_M_common_52
    · skip
      refine lv_iload hx hb d_M_common_35 (lv_at hl 1 rfl) ?_
      refine lv_lload_n hx hb d_M_common_37 rfl (lv_at hl 4 rfl) ?_
      refine lv_iconst (v := 3) hx hb d_M_common_38 (by decide) ?_
      refine lv_iload hx hb d_M_common_39 (lv_at hl 0 rfl) ?_
      refine lv_imul hx hb d_M_common_41 ?_
      refine xb_ti (y := (0 : Int32)) (by decide) ?_
      refine lv_lshr (v := (xb_lshr x1 (0 : Int32))) hx hb d_M_common_42 rfl ?_
      refine lv_l2i (v := (xb_lshr x1 (0 : Int32)).toInt32) hx hb d_M_common_43 (by rfl) ?_
      refine lv_bipush (v := 7) hx hb d_M_common_44 (by decide) ?_
      refine lv_iand hx hb d_M_common_46 ?_
      refine lv_icmp_ne (tgt := 53) hx hb d_M_common_47 (by decide) (fun c7 => ?_) (fun c7 => ?_)
      · skip
        refine lv_iinc (v := (1 : Int32)) (k := 0) (lv' := [(6, .int (1 : Int32)), (5, .int ((xb_lshr x0 (3 : Int32)).toInt32 &&& (7 : Int32))), (4, .int (1 : Int32)), (0, .long x0), (2, .long x1)]) hx hb d_M_common_53 hl rfl (by decide) (by decide) rfl (fun ls hl => ?_)
        refine lv_goto (tgt := 24) hx hb d_M_common_56 (by decide) ?_
        refine lv_iload hx hb d_M_common_24 (lv_at hl 0 rfl) ?_
        refine lv_iconst (v := 3) hx hb d_M_common_26 (by decide) ?_
        refine lv_icmp_ge (tgt := 59) hx hb d_M_common_27 (by decide) (fun h_ => absurd h_ (by decide)) (fun _ => ?_)
        refine lv_iload hx hb d_M_common_30 (lv_at hl 1 rfl) ?_
        refine lv_if_le (tgt := 53) hx hb d_M_common_32 (by decide) (fun h_ => absurd h_ c2) (fun _ => ?_)
        refine lv_iload hx hb d_M_common_35 (lv_at hl 1 rfl) ?_
        refine lv_lload_n hx hb d_M_common_37 rfl (lv_at hl 4 rfl) ?_
        refine lv_iconst (v := 3) hx hb d_M_common_38 (by decide) ?_
        refine lv_iload hx hb d_M_common_39 (lv_at hl 0 rfl) ?_
        refine lv_imul hx hb d_M_common_41 ?_
        refine xb_ti (y := (3 : Int32)) (by decide) ?_
        refine lv_lshr (v := (xb_lshr x1 (3 : Int32))) hx hb d_M_common_42 rfl ?_
        refine lv_l2i (v := (xb_lshr x1 (3 : Int32)).toInt32) hx hb d_M_common_43 (by rfl) ?_
        refine lv_bipush (v := 7) hx hb d_M_common_44 (by decide) ?_
        refine lv_iand hx hb d_M_common_46 ?_
        refine lv_icmp_ne (tgt := 53) hx hb d_M_common_47 (by decide) (fun c8 => ?_) (fun c8 => ?_)
        · skip
          refine lv_iinc (v := (2 : Int32)) (k := 0) (lv' := [(6, .int (2 : Int32)), (5, .int ((xb_lshr x0 (3 : Int32)).toInt32 &&& (7 : Int32))), (4, .int (1 : Int32)), (0, .long x0), (2, .long x1)]) hx hb d_M_common_53 hl rfl (by decide) (by decide) rfl (fun ls hl => ?_)
          refine lv_goto (tgt := 24) hx hb d_M_common_56 (by decide) ?_
          refine lv_iload hx hb d_M_common_24 (lv_at hl 0 rfl) ?_
          refine lv_iconst (v := 3) hx hb d_M_common_26 (by decide) ?_
          refine lv_icmp_ge (tgt := 59) hx hb d_M_common_27 (by decide) (fun h_ => absurd h_ (by decide)) (fun _ => ?_)
          refine lv_iload hx hb d_M_common_30 (lv_at hl 1 rfl) ?_
          refine lv_if_le (tgt := 53) hx hb d_M_common_32 (by decide) (fun h_ => absurd h_ c2) (fun _ => ?_)
          refine lv_iload hx hb d_M_common_35 (lv_at hl 1 rfl) ?_
          refine lv_lload_n hx hb d_M_common_37 rfl (lv_at hl 4 rfl) ?_
          refine lv_iconst (v := 3) hx hb d_M_common_38 (by decide) ?_
          refine lv_iload hx hb d_M_common_39 (lv_at hl 0 rfl) ?_
          refine lv_imul hx hb d_M_common_41 ?_
          refine xb_ti (y := (6 : Int32)) (by decide) ?_
          refine lv_lshr (v := (xb_lshr x1 (6 : Int32))) hx hb d_M_common_42 rfl ?_
          refine lv_l2i (v := (xb_lshr x1 (6 : Int32)).toInt32) hx hb d_M_common_43 (by rfl) ?_
          refine lv_bipush (v := 7) hx hb d_M_common_44 (by decide) ?_
          refine lv_iand hx hb d_M_common_46 ?_
          refine lv_icmp_ne (tgt := 53) hx hb d_M_common_47 (by decide) (fun c9 => ?_) (fun c9 => ?_)
          · skip
            refine lv_iinc (v := (3 : Int32)) (k := 0) (lv' := [(6, .int (3 : Int32)), (5, .int ((xb_lshr x0 (3 : Int32)).toInt32 &&& (7 : Int32))), (4, .int (1 : Int32)), (0, .long x0), (2, .long x1)]) hx hb d_M_common_53 hl rfl (by decide) (by decide) rfl (fun ls hl => ?_)
            refine lv_goto (tgt := 24) hx hb d_M_common_56 (by decide) ?_
            refine lv_iload hx hb d_M_common_24 (lv_at hl 0 rfl) ?_
            refine lv_iconst (v := 3) hx hb d_M_common_26 (by decide) ?_
            refine lv_icmp_ge (tgt := 59) hx hb d_M_common_27 (by decide) (fun _ => ?_) (fun h_ => absurd h_ (by decide))
            refine lv_iinc (v := (2 : Int32)) (k := 2) (lv' := [(4, .int (2 : Int32)), (6, .int (3 : Int32)), (5, .int ((xb_lshr x0 (3 : Int32)).toInt32 &&& (7 : Int32))), (0, .long x0), (2, .long x1)]) hx hb d_M_common_59 hl rfl (by decide) (by decide) rfl (fun ls hl => ?_)
            refine lv_goto (tgt := 3) hx hb d_M_common_62 (by decide) ?_
            refine lv_iload hx hb d_M_common_3 (lv_at hl 0 rfl) ?_
            refine lv_iconst (v := 3) hx hb d_M_common_5 (by decide) ?_
            refine lv_icmp_ge (tgt := 65) hx hb d_M_common_6 (by decide) (fun h_ => absurd h_ (by decide)) (fun _ => ?_)
            refine lv_lload_n hx hb d_M_common_9 rfl (lv_at hl 3 rfl) ?_
            refine lv_iconst (v := 3) hx hb d_M_common_10 (by decide) ?_
            refine lv_iload hx hb d_M_common_11 (lv_at hl 0 rfl) ?_
            refine lv_imul hx hb d_M_common_13 ?_
            refine xb_ti (y := (6 : Int32)) (by decide) ?_
            refine lv_lshr (v := (xb_lshr x0 (6 : Int32))) hx hb d_M_common_14 rfl ?_
            refine lv_l2i (v := (xb_lshr x0 (6 : Int32)).toInt32) hx hb d_M_common_15 (by rfl) ?_
            refine lv_bipush (v := 7) hx hb d_M_common_16 (by decide) ?_
            refine lv_iand hx hb d_M_common_18 ?_
            refine lv_istore (lv' := [(5, .int ((xb_lshr x0 (6 : Int32)).toInt32 &&& (7 : Int32))), (4, .int (2 : Int32)), (6, .int (3 : Int32)), (0, .long x0), (2, .long x1)]) hx hb d_M_common_19 hl (by decide) rfl (fun ls hl => ?_)
            refine lv_iconst (v := 0) hx hb d_M_common_21 (by decide) ?_
            refine lv_istore (lv' := [(6, .int (0 : Int32)), (5, .int ((xb_lshr x0 (6 : Int32)).toInt32 &&& (7 : Int32))), (4, .int (2 : Int32)), (0, .long x0), (2, .long x1)]) hx hb d_M_common_22 hl (by decide) rfl (fun ls hl => ?_)
            refine lv_iload hx hb d_M_common_24 (lv_at hl 0 rfl) ?_
            refine lv_iconst (v := 3) hx hb d_M_common_26 (by decide) ?_
            refine lv_icmp_ge (tgt := 59) hx hb d_M_common_27 (by decide) (fun h_ => absurd h_ (by decide)) (fun _ => ?_)
            refine lv_iload hx hb d_M_common_30 (lv_at hl 1 rfl) ?_
            refine lv_if_le (tgt := 53) hx hb d_M_common_32 (by decide) (fun c10 => ?_) (fun c10 => ?_)
            · skip
              refine lv_iinc (v := (1 : Int32)) (k := 0) (lv' := [(6, .int (1 : Int32)), (5, .int ((xb_lshr x0 (6 : Int32)).toInt32 &&& (7 : Int32))), (4, .int (2 : Int32)), (0, .long x0), (2, .long x1)]) hx hb d_M_common_53 hl rfl (by decide) (by decide) rfl (fun ls hl => ?_)
              refine lv_goto (tgt := 24) hx hb d_M_common_56 (by decide) ?_
              refine lv_iload hx hb d_M_common_24 (lv_at hl 0 rfl) ?_
              refine lv_iconst (v := 3) hx hb d_M_common_26 (by decide) ?_
              refine lv_icmp_ge (tgt := 59) hx hb d_M_common_27 (by decide) (fun h_ => absurd h_ (by decide)) (fun _ => ?_)
              refine lv_iload hx hb d_M_common_30 (lv_at hl 1 rfl) ?_
              refine lv_if_le (tgt := 53) hx hb d_M_common_32 (by decide) (fun _ => ?_) (fun h_ => absurd c10 h_)
              refine lv_iinc (v := (2 : Int32)) (k := 0) (lv' := [(6, .int (2 : Int32)), (5, .int ((xb_lshr x0 (6 : Int32)).toInt32 &&& (7 : Int32))), (4, .int (2 : Int32)), (0, .long x0), (2, .long x1)]) hx hb d_M_common_53 hl rfl (by decide) (by decide) rfl (fun ls hl => ?_)
              refine lv_goto (tgt := 24) hx hb d_M_common_56 (by decide) ?_
              refine lv_iload hx hb d_M_common_24 (lv_at hl 0 rfl) ?_
              refine lv_iconst (v := 3) hx hb d_M_common_26 (by decide) ?_
              refine lv_icmp_ge (tgt := 59) hx hb d_M_common_27 (by decide) (fun h_ => absurd h_ (by decide)) (fun _ => ?_)
              refine lv_iload hx hb d_M_common_30 (lv_at hl 1 rfl) ?_
              refine lv_if_le (tgt := 53) hx hb d_M_common_32 (by decide) (fun _ => ?_) (fun h_ => absurd c10 h_)
              refine lv_iinc (v := (3 : Int32)) (k := 0) (lv' := [(6, .int (3 : Int32)), (5, .int ((xb_lshr x0 (6 : Int32)).toInt32 &&& (7 : Int32))), (4, .int (2 : Int32)), (0, .long x0), (2, .long x1)]) hx hb d_M_common_53 hl rfl (by decide) (by decide) rfl (fun ls hl => ?_)
              refine lv_goto (tgt := 24) hx hb d_M_common_56 (by decide) ?_
              refine lv_iload hx hb d_M_common_24 (lv_at hl 0 rfl) ?_
              refine lv_iconst (v := 3) hx hb d_M_common_26 (by decide) ?_
              refine lv_icmp_ge (tgt := 59) hx hb d_M_common_27 (by decide) (fun _ => ?_) (fun h_ => absurd h_ (by decide))
              refine lv_iinc (v := (3 : Int32)) (k := 2) (lv' := [(4, .int (3 : Int32)), (6, .int (3 : Int32)), (5, .int ((xb_lshr x0 (6 : Int32)).toInt32 &&& (7 : Int32))), (0, .long x0), (2, .long x1)]) hx hb d_M_common_59 hl rfl (by decide) (by decide) rfl (fun ls hl => ?_)
              refine lv_goto (tgt := 3) hx hb d_M_common_62 (by decide) ?_
              refine lv_iload hx hb d_M_common_3 (lv_at hl 0 rfl) ?_
              refine lv_iconst (v := 3) hx hb d_M_common_5 (by decide) ?_
              refine lv_icmp_ge (tgt := 65) hx hb d_M_common_6 (by decide) (fun _ => ?_) (fun h_ => absurd h_ (by decide))
              refine lv_iconst (v := 0) hx hb d_M_common_65 (by decide) ?_
              exact W.iret (v := (0 : Int32)) hx hb hr (fun t ht_ hW => ⟨_, rfl, ((if_pos c1).trans ((if_neg c2).trans ((if_neg c7).trans ((if_neg c8).trans ((if_neg c9).trans ((if_pos c10))))))).symm, ht_⟩) (fun _ h_ => nomatch h_) d_M_common_66
            · skip
              refine lv_iload hx hb d_M_common_35 (lv_at hl 1 rfl) ?_
              refine lv_lload_n hx hb d_M_common_37 rfl (lv_at hl 4 rfl) ?_
              refine lv_iconst (v := 3) hx hb d_M_common_38 (by decide) ?_
              refine lv_iload hx hb d_M_common_39 (lv_at hl 0 rfl) ?_
              refine lv_imul hx hb d_M_common_41 ?_
              refine xb_ti (y := (0 : Int32)) (by decide) ?_
              refine lv_lshr (v := (xb_lshr x1 (0 : Int32))) hx hb d_M_common_42 rfl ?_
              refine lv_l2i (v := (xb_lshr x1 (0 : Int32)).toInt32) hx hb d_M_common_43 (by rfl) ?_
              refine lv_bipush (v := 7) hx hb d_M_common_44 (by decide) ?_
              refine lv_iand hx hb d_M_common_46 ?_
              refine lv_icmp_ne (tgt := 53) hx hb d_M_common_47 (by decide) (fun c11 => ?_) (fun c11 => ?_)
              · skip
                refine lv_iinc (v := (1 : Int32)) (k := 0) (lv' := [(6, .int (1 : Int32)), (5, .int ((xb_lshr x0 (6 : Int32)).toInt32 &&& (7 : Int32))), (4, .int (2 : Int32)), (0, .long x0), (2, .long x1)]) hx hb d_M_common_53 hl rfl (by decide) (by decide) rfl (fun ls hl => ?_)
                refine lv_goto (tgt := 24) hx hb d_M_common_56 (by decide) ?_
                refine lv_iload hx hb d_M_common_24 (lv_at hl 0 rfl) ?_
                refine lv_iconst (v := 3) hx hb d_M_common_26 (by decide) ?_
                refine lv_icmp_ge (tgt := 59) hx hb d_M_common_27 (by decide) (fun h_ => absurd h_ (by decide)) (fun _ => ?_)
                refine lv_iload hx hb d_M_common_30 (lv_at hl 1 rfl) ?_
                refine lv_if_le (tgt := 53) hx hb d_M_common_32 (by decide) (fun h_ => absurd h_ c10) (fun _ => ?_)
                refine lv_iload hx hb d_M_common_35 (lv_at hl 1 rfl) ?_
                refine lv_lload_n hx hb d_M_common_37 rfl (lv_at hl 4 rfl) ?_
                refine lv_iconst (v := 3) hx hb d_M_common_38 (by decide) ?_
                refine lv_iload hx hb d_M_common_39 (lv_at hl 0 rfl) ?_
                refine lv_imul hx hb d_M_common_41 ?_
                refine xb_ti (y := (3 : Int32)) (by decide) ?_
                refine lv_lshr (v := (xb_lshr x1 (3 : Int32))) hx hb d_M_common_42 rfl ?_
                refine lv_l2i (v := (xb_lshr x1 (3 : Int32)).toInt32) hx hb d_M_common_43 (by rfl) ?_
                refine lv_bipush (v := 7) hx hb d_M_common_44 (by decide) ?_
                refine lv_iand hx hb d_M_common_46 ?_
                refine lv_icmp_ne (tgt := 53) hx hb d_M_common_47 (by decide) (fun c12 => ?_) (fun c12 => ?_)
                · skip
                  refine lv_iinc (v := (2 : Int32)) (k := 0) (lv' := [(6, .int (2 : Int32)), (5, .int ((xb_lshr x0 (6 : Int32)).toInt32 &&& (7 : Int32))), (4, .int (2 : Int32)), (0, .long x0), (2, .long x1)]) hx hb d_M_common_53 hl rfl (by decide) (by decide) rfl (fun ls hl => ?_)
                  refine lv_goto (tgt := 24) hx hb d_M_common_56 (by decide) ?_
                  refine lv_iload hx hb d_M_common_24 (lv_at hl 0 rfl) ?_
                  refine lv_iconst (v := 3) hx hb d_M_common_26 (by decide) ?_
                  refine lv_icmp_ge (tgt := 59) hx hb d_M_common_27 (by decide) (fun h_ => absurd h_ (by decide)) (fun _ => ?_)
                  refine lv_iload hx hb d_M_common_30 (lv_at hl 1 rfl) ?_
                  refine lv_if_le (tgt := 53) hx hb d_M_common_32 (by decide) (fun h_ => absurd h_ c10) (fun _ => ?_)
                  refine lv_iload hx hb d_M_common_35 (lv_at hl 1 rfl) ?_
                  refine lv_lload_n hx hb d_M_common_37 rfl (lv_at hl 4 rfl) ?_
                  refine lv_iconst (v := 3) hx hb d_M_common_38 (by decide) ?_
                  refine lv_iload hx hb d_M_common_39 (lv_at hl 0 rfl) ?_
                  refine lv_imul hx hb d_M_common_41 ?_
                  refine xb_ti (y := (6 : Int32)) (by decide) ?_
                  refine lv_lshr (v := (xb_lshr x1 (6 : Int32))) hx hb d_M_common_42 rfl ?_
                  refine lv_l2i (v := (xb_lshr x1 (6 : Int32)).toInt32) hx hb d_M_common_43 (by rfl) ?_
                  refine lv_bipush (v := 7) hx hb d_M_common_44 (by decide) ?_
                  refine lv_iand hx hb d_M_common_46 ?_
                  refine lv_icmp_ne (tgt := 53) hx hb d_M_common_47 (by decide) (fun c13 => ?_) (fun c13 => ?_)
                  · skip
                    refine lv_iinc (v := (3 : Int32)) (k := 0) (lv' := [(6, .int (3 : Int32)), (5, .int ((xb_lshr x0 (6 : Int32)).toInt32 &&& (7 : Int32))), (4, .int (2 : Int32)), (0, .long x0), (2, .long x1)]) hx hb d_M_common_53 hl rfl (by decide) (by decide) rfl (fun ls hl => ?_)
                    refine lv_goto (tgt := 24) hx hb d_M_common_56 (by decide) ?_
                    refine lv_iload hx hb d_M_common_24 (lv_at hl 0 rfl) ?_
                    refine lv_iconst (v := 3) hx hb d_M_common_26 (by decide) ?_
                    refine lv_icmp_ge (tgt := 59) hx hb d_M_common_27 (by decide) (fun _ => ?_) (fun h_ => absurd h_ (by decide))
                    refine lv_iinc (v := (3 : Int32)) (k := 2) (lv' := [(4, .int (3 : Int32)), (6, .int (3 : Int32)), (5, .int ((xb_lshr x0 (6 : Int32)).toInt32 &&& (7 : Int32))), (0, .long x0), (2, .long x1)]) hx hb d_M_common_59 hl rfl (by decide) (by decide) rfl (fun ls hl => ?_)
                    refine lv_goto (tgt := 3) hx hb d_M_common_62 (by decide) ?_
                    refine lv_iload hx hb d_M_common_3 (lv_at hl 0 rfl) ?_
                    refine lv_iconst (v := 3) hx hb d_M_common_5 (by decide) ?_
                    refine lv_icmp_ge (tgt := 65) hx hb d_M_common_6 (by decide) (fun _ => ?_) (fun h_ => absurd h_ (by decide))
                    refine lv_iconst (v := 0) hx hb d_M_common_65 (by decide) ?_
                    exact W.iret (v := (0 : Int32)) hx hb hr (fun t ht_ hW => ⟨_, rfl, ((if_pos c1).trans ((if_neg c2).trans ((if_neg c7).trans ((if_neg c8).trans ((if_neg c9).trans ((if_neg c10).trans ((if_neg c11).trans ((if_neg c12).trans ((if_neg c13)))))))))).symm, ht_⟩) (fun _ h_ => nomatch h_) d_M_common_66
                  · skip
                    refine lv_iload hx hb d_M_common_50 (lv_at hl 1 rfl) ?_
                    exact W.iret (v := ((xb_lshr x0 (6 : Int32)).toInt32 &&& (7 : Int32))) hx hb hr (fun t ht_ hW => ⟨_, rfl, ((if_pos c1).trans ((if_neg c2).trans ((if_neg c7).trans ((if_neg c8).trans ((if_neg c9).trans ((if_neg c10).trans ((if_neg c11).trans ((if_neg c12).trans ((if_pos c13)))))))))).symm, ht_⟩) (fun _ h_ => nomatch h_) d_M_common_52
                · skip
                  refine lv_iload hx hb d_M_common_50 (lv_at hl 1 rfl) ?_
                  exact W.iret (v := ((xb_lshr x0 (6 : Int32)).toInt32 &&& (7 : Int32))) hx hb hr (fun t ht_ hW => ⟨_, rfl, ((if_pos c1).trans ((if_neg c2).trans ((if_neg c7).trans ((if_neg c8).trans ((if_neg c9).trans ((if_neg c10).trans ((if_neg c11).trans ((if_pos c12))))))))).symm, ht_⟩) (fun _ h_ => nomatch h_) d_M_common_52
              · skip
                refine lv_iload hx hb d_M_common_50 (lv_at hl 1 rfl) ?_
                exact W.iret (v := ((xb_lshr x0 (6 : Int32)).toInt32 &&& (7 : Int32))) hx hb hr (fun t ht_ hW => ⟨_, rfl, ((if_pos c1).trans ((if_neg c2).trans ((if_neg c7).trans ((if_neg c8).trans ((if_neg c9).trans ((if_neg c10).trans ((if_pos c11)))))))).symm, ht_⟩) (fun _ h_ => nomatch h_) d_M_common_52
          · skip
            refine lv_iload hx hb d_M_common_50 (lv_at hl 1 rfl) ?_
            exact W.iret (v := ((xb_lshr x0 (3 : Int32)).toInt32 &&& (7 : Int32))) hx hb hr (fun t ht_ hW => ⟨_, rfl, ((if_pos c1).trans ((if_neg c2).trans ((if_neg c7).trans ((if_neg c8).trans ((if_pos c9)))))).symm, ht_⟩) (fun _ h_ => nomatch h_) d_M_common_52
        · skip
          refine lv_iload hx hb d_M_common_50 (lv_at hl 1 rfl) ?_
          exact W.iret (v := ((xb_lshr x0 (3 : Int32)).toInt32 &&& (7 : Int32))) hx hb hr (fun t ht_ hW => ⟨_, rfl, ((if_pos c1).trans ((if_neg c2).trans ((if_neg c7).trans ((if_pos c8))))).symm, ht_⟩) (fun _ h_ => nomatch h_) d_M_common_52
      · skip
        refine lv_iload hx hb d_M_common_50 (lv_at hl 1 rfl) ?_
        exact W.iret (v := ((xb_lshr x0 (3 : Int32)).toInt32 &&& (7 : Int32))) hx hb hr (fun t ht_ hW => ⟨_, rfl, ((if_pos c1).trans ((if_neg c2).trans ((if_pos c7)))).symm, ht_⟩) (fun _ h_ => nomatch h_) d_M_common_52
  · skip
    refine lv_iload hx hb d_M_common_35 (lv_at hl 1 rfl) ?_
    refine lv_lload_n hx hb d_M_common_37 rfl (lv_at hl 4 rfl) ?_
    refine lv_iconst (v := 3) hx hb d_M_common_38 (by decide) ?_
    refine lv_iload hx hb d_M_common_39 (lv_at hl 0 rfl) ?_
    refine lv_imul hx hb d_M_common_41 ?_
    refine xb_ti (y := (0 : Int32)) (by decide) ?_
    refine lv_lshr (v := (xb_lshr x1 (0 : Int32))) hx hb d_M_common_42 rfl ?_
    refine lv_l2i (v := (xb_lshr x1 (0 : Int32)).toInt32) hx hb d_M_common_43 (by rfl) ?_
    refine lv_bipush (v := 7) hx hb d_M_common_44 (by decide) ?_
    refine lv_iand hx hb d_M_common_46 ?_
    refine lv_icmp_ne (tgt := 53) hx hb d_M_common_47 (by decide) (fun c14 => ?_) (fun c14 => ?_)
    · skip
      refine lv_iinc (v := (1 : Int32)) (k := 0) (lv' := [(6, .int (1 : Int32)), (5, .int ((xb_lshr x0 (0 : Int32)).toInt32 &&& (7 : Int32))), (4, .int (0 : Int32)), (0, .long x0), (2, .long x1)]) hx hb d_M_common_53 hl rfl (by decide) (by decide) rfl (fun ls hl => ?_)
      refine lv_goto (tgt := 24) hx hb d_M_common_56 (by decide) ?_
      refine lv_iload hx hb d_M_common_24 (lv_at hl 0 rfl) ?_
      refine lv_iconst (v := 3) hx hb d_M_common_26 (by decide) ?_
      refine lv_icmp_ge (tgt := 59) hx hb d_M_common_27 (by decide) (fun h_ => absurd h_ (by decide)) (fun _ => ?_)
      refine lv_iload hx hb d_M_common_30 (lv_at hl 1 rfl) ?_
      refine lv_if_le (tgt := 53) hx hb d_M_common_32 (by decide) (fun h_ => absurd h_ c1) (fun _ => ?_)
      refine lv_iload hx hb d_M_common_35 (lv_at hl 1 rfl) ?_
      refine lv_lload_n hx hb d_M_common_37 rfl (lv_at hl 4 rfl) ?_
      refine lv_iconst (v := 3) hx hb d_M_common_38 (by decide) ?_
      refine lv_iload hx hb d_M_common_39 (lv_at hl 0 rfl) ?_
      refine lv_imul hx hb d_M_common_41 ?_
      refine xb_ti (y := (3 : Int32)) (by decide) ?_
      refine lv_lshr (v := (xb_lshr x1 (3 : Int32))) hx hb d_M_common_42 rfl ?_
      refine lv_l2i (v := (xb_lshr x1 (3 : Int32)).toInt32) hx hb d_M_common_43 (by rfl) ?_
      refine lv_bipush (v := 7) hx hb d_M_common_44 (by decide) ?_
      refine lv_iand hx hb d_M_common_46 ?_
      refine lv_icmp_ne (tgt := 53) hx hb d_M_common_47 (by decide) (fun c15 => ?_) (fun c15 => ?_)
      · skip
        refine lv_iinc (v := (2 : Int32)) (k := 0) (lv' := [(6, .int (2 : Int32)), (5, .int ((xb_lshr x0 (0 : Int32)).toInt32 &&& (7 : Int32))), (4, .int (0 : Int32)), (0, .long x0), (2, .long x1)]) hx hb d_M_common_53 hl rfl (by decide) (by decide) rfl (fun ls hl => ?_)
        refine lv_goto (tgt := 24) hx hb d_M_common_56 (by decide) ?_
        refine lv_iload hx hb d_M_common_24 (lv_at hl 0 rfl) ?_
        refine lv_iconst (v := 3) hx hb d_M_common_26 (by decide) ?_
        refine lv_icmp_ge (tgt := 59) hx hb d_M_common_27 (by decide) (fun h_ => absurd h_ (by decide)) (fun _ => ?_)
        refine lv_iload hx hb d_M_common_30 (lv_at hl 1 rfl) ?_
        refine lv_if_le (tgt := 53) hx hb d_M_common_32 (by decide) (fun h_ => absurd h_ c1) (fun _ => ?_)
        refine lv_iload hx hb d_M_common_35 (lv_at hl 1 rfl) ?_
        refine lv_lload_n hx hb d_M_common_37 rfl (lv_at hl 4 rfl) ?_
        refine lv_iconst (v := 3) hx hb d_M_common_38 (by decide) ?_
        refine lv_iload hx hb d_M_common_39 (lv_at hl 0 rfl) ?_
        refine lv_imul hx hb d_M_common_41 ?_
        refine xb_ti (y := (6 : Int32)) (by decide) ?_
        refine lv_lshr (v := (xb_lshr x1 (6 : Int32))) hx hb d_M_common_42 rfl ?_
        refine lv_l2i (v := (xb_lshr x1 (6 : Int32)).toInt32) hx hb d_M_common_43 (by rfl) ?_
        refine lv_bipush (v := 7) hx hb d_M_common_44 (by decide) ?_
        refine lv_iand hx hb d_M_common_46 ?_
        refine lv_icmp_ne (tgt := 53) hx hb d_M_common_47 (by decide) (fun c16 => ?_) (fun c16 => ?_)
        · skip
          refine lv_iinc (v := (3 : Int32)) (k := 0) (lv' := [(6, .int (3 : Int32)), (5, .int ((xb_lshr x0 (0 : Int32)).toInt32 &&& (7 : Int32))), (4, .int (0 : Int32)), (0, .long x0), (2, .long x1)]) hx hb d_M_common_53 hl rfl (by decide) (by decide) rfl (fun ls hl => ?_)
          refine lv_goto (tgt := 24) hx hb d_M_common_56 (by decide) ?_
          refine lv_iload hx hb d_M_common_24 (lv_at hl 0 rfl) ?_
          refine lv_iconst (v := 3) hx hb d_M_common_26 (by decide) ?_
          refine lv_icmp_ge (tgt := 59) hx hb d_M_common_27 (by decide) (fun _ => ?_) (fun h_ => absurd h_ (by decide))
          refine lv_iinc (v := (1 : Int32)) (k := 2) (lv' := [(4, .int (1 : Int32)), (6, .int (3 : Int32)), (5, .int ((xb_lshr x0 (0 : Int32)).toInt32 &&& (7 : Int32))), (0, .long x0), (2, .long x1)]) hx hb d_M_common_59 hl rfl (by decide) (by decide) rfl (fun ls hl => ?_)
          refine lv_goto (tgt := 3) hx hb d_M_common_62 (by decide) ?_
          refine lv_iload hx hb d_M_common_3 (lv_at hl 0 rfl) ?_
          refine lv_iconst (v := 3) hx hb d_M_common_5 (by decide) ?_
          refine lv_icmp_ge (tgt := 65) hx hb d_M_common_6 (by decide) (fun h_ => absurd h_ (by decide)) (fun _ => ?_)
          refine lv_lload_n hx hb d_M_common_9 rfl (lv_at hl 3 rfl) ?_
          refine lv_iconst (v := 3) hx hb d_M_common_10 (by decide) ?_
          refine lv_iload hx hb d_M_common_11 (lv_at hl 0 rfl) ?_
          refine lv_imul hx hb d_M_common_13 ?_
          refine xb_ti (y := (3 : Int32)) (by decide) ?_
          refine lv_lshr (v := (xb_lshr x0 (3 : Int32))) hx hb d_M_common_14 rfl ?_
          refine lv_l2i (v := (xb_lshr x0 (3 : Int32)).toInt32) hx hb d_M_common_15 (by rfl) ?_
          refine lv_bipush (v := 7) hx hb d_M_common_16 (by decide) ?_
          refine lv_iand hx hb d_M_common_18 ?_
          refine lv_istore (lv' := [(5, .int ((xb_lshr x0 (3 : Int32)).toInt32 &&& (7 : Int32))), (4, .int (1 : Int32)), (6, .int (3 : Int32)), (0, .long x0), (2, .long x1)]) hx hb d_M_common_19 hl (by decide) rfl (fun ls hl => ?_)
          refine lv_iconst (v := 0) hx hb d_M_common_21 (by decide) ?_
          refine lv_istore (lv' := [(6, .int (0 : Int32)), (5, .int ((xb_lshr x0 (3 : Int32)).toInt32 &&& (7 : Int32))), (4, .int (1 : Int32)), (0, .long x0), (2, .long x1)]) hx hb d_M_common_22 hl (by decide) rfl (fun ls hl => ?_)
          refine lv_iload hx hb d_M_common_24 (lv_at hl 0 rfl) ?_
          refine lv_iconst (v := 3) hx hb d_M_common_26 (by decide) ?_
          refine lv_icmp_ge (tgt := 59) hx hb d_M_common_27 (by decide) (fun h_ => absurd h_ (by decide)) (fun _ => ?_)
          refine lv_iload hx hb d_M_common_30 (lv_at hl 1 rfl) ?_
          refine lv_if_le (tgt := 53) hx hb d_M_common_32 (by decide) (fun c17 => ?_) (fun c17 => ?_)
          · skip
            refine lv_iinc (v := (1 : Int32)) (k := 0) (lv' := [(6, .int (1 : Int32)), (5, .int ((xb_lshr x0 (3 : Int32)).toInt32 &&& (7 : Int32))), (4, .int (1 : Int32)), (0, .long x0), (2, .long x1)]) hx hb d_M_common_53 hl rfl (by decide) (by decide) rfl (fun ls hl => ?_)
            refine lv_goto (tgt := 24) hx hb d_M_common_56 (by decide) ?_
            refine lv_iload hx hb d_M_common_24 (lv_at hl 0 rfl) ?_
            refine lv_iconst (v := 3) hx hb d_M_common_26 (by decide) ?_
            refine lv_icmp_ge (tgt := 59) hx hb d_M_common_27 (by decide) (fun h_ => absurd h_ (by decide)) (fun _ => ?_)
            refine lv_iload hx hb d_M_common_30 (lv_at hl 1 rfl) ?_
            refine lv_if_le (tgt := 53) hx hb d_M_common_32 (by decide) (fun _ => ?_) (fun h_ => absurd c17 h_)
            refine lv_iinc (v := (2 : Int32)) (k := 0) (lv' := [(6, .int (2 : Int32)), (5, .int ((xb_lshr x0 (3 : Int32)).toInt32 &&& (7 : Int32))), (4, .int (1 : Int32)), (0, .long x0), (2, .long x1)]) hx hb d_M_common_53 hl rfl (by decide) (by decide) rfl (fun ls hl => ?_)
            refine lv_goto (tgt := 24) hx hb d_M_common_56 (by decide) ?_
            refine lv_iload hx hb d_M_common_24 (lv_at hl 0 rfl) ?_
            refine lv_iconst (v := 3) hx hb d_M_common_26 (by decide) ?_
            refine lv_icmp_ge (tgt := 59) hx hb d_M_common_27 (by decide) (fun h_ => absurd h_ (by decide)) (fun _ => ?_)
            refine lv_iload hx hb d_M_common_30 (lv_at hl 1 rfl) ?_
            refine lv_if_le (tgt := 53) hx hb d_M_common_32 (by decide) (fun _ => ?_) (fun h_ => absurd c17 h_)
            refine lv_iinc (v := (3 : Int32)) (k := 0) (lv' := [(6, .int (3 : Int32)), (5, .int ((xb_lshr x0 (3 : Int32)).toInt32 &&& (7 : Int32))), (4, .int (1 : Int32)), (0, .long x0), (2, .long x1)]) hx hb d_M_common_53 hl rfl (by decide) (by decide) rfl (fun ls hl => ?_)
            refine lv_goto (tgt := 24) hx hb d_M_common_56 (by decide) ?_
            refine lv_iload hx hb d_M_common_24 (lv_at hl 0 rfl) ?_
            refine lv_iconst (v := 3) hx hb d_M_common_26 (by decide) ?_
            refine lv_icmp_ge (tgt := 59) hx hb d_M_common_27 (by decide) (fun _ => ?_) (fun h_ => absurd h_ (by decide))
            refine lv_iinc (v := (2 : Int32)) (k := 2) (lv' := [(4, .int (2 : Int32)), (6, .int (3 : Int32)), (5, .int ((xb_lshr x0 (3 : Int32)).toInt32 &&& (7 : Int32))), (0, .long x0), (2, .long x1)]) hx hb d_M_common_59 hl rfl (by decide) (by decide) rfl (fun ls hl => ?_)
            refine lv_goto (tgt := 3) hx hb d_M_common_62 (by decide) ?_
            refine lv_iload hx hb d_M_common_3 (lv_at hl 0 rfl) ?_
            refine lv_iconst (v := 3) hx hb d_M_common_5 (by decide) ?_
            refine lv_icmp_ge (tgt := 65) hx hb d_M_common_6 (by decide) (fun h_ => absurd h_ (by decide)) (fun _ => ?_)
            refine lv_lload_n hx hb d_M_common_9 rfl (lv_at hl 3 rfl) ?_
            refine lv_iconst (v := 3) hx hb d_M_common_10 (by decide) ?_
            refine lv_iload hx hb d_M_common_11 (lv_at hl 0 rfl) ?_
            refine lv_imul hx hb d_M_common_13 ?_
            refine xb_ti (y := (6 : Int32)) (by decide) ?_
            refine lv_lshr (v := (xb_lshr x0 (6 : Int32))) hx hb d_M_common_14 rfl ?_
            refine lv_l2i (v := (xb_lshr x0 (6 : Int32)).toInt32) hx hb d_M_common_15 (by rfl) ?_
            refine lv_bipush (v := 7) hx hb d_M_common_16 (by decide) ?_
            refine lv_iand hx hb d_M_common_18 ?_
            refine lv_istore (lv' := [(5, .int ((xb_lshr x0 (6 : Int32)).toInt32 &&& (7 : Int32))), (4, .int (2 : Int32)), (6, .int (3 : Int32)), (0, .long x0), (2, .long x1)]) hx hb d_M_common_19 hl (by decide) rfl (fun ls hl => ?_)
            refine lv_iconst (v := 0) hx hb d_M_common_21 (by decide) ?_
            refine lv_istore (lv' := [(6, .int (0 : Int32)), (5, .int ((xb_lshr x0 (6 : Int32)).toInt32 &&& (7 : Int32))), (4, .int (2 : Int32)), (0, .long x0), (2, .long x1)]) hx hb d_M_common_22 hl (by decide) rfl (fun ls hl => ?_)
            refine lv_iload hx hb d_M_common_24 (lv_at hl 0 rfl) ?_
            refine lv_iconst (v := 3) hx hb d_M_common_26 (by decide) ?_
            refine lv_icmp_ge (tgt := 59) hx hb d_M_common_27 (by decide) (fun h_ => absurd h_ (by decide)) (fun _ => ?_)
            refine lv_iload hx hb d_M_common_30 (lv_at hl 1 rfl) ?_
            refine lv_if_le (tgt := 53) hx hb d_M_common_32 (by decide) (fun c18 => ?_) (fun c18 => ?_)
            · skip
              refine lv_iinc (v := (1 : Int32)) (k := 0) (lv' := [(6, .int (1 : Int32)), (5, .int ((xb_lshr x0 (6 : Int32)).toInt32 &&& (7 : Int32))), (4, .int (2 : Int32)), (0, .long x0), (2, .long x1)]) hx hb d_M_common_53 hl rfl (by decide) (by decide) rfl (fun ls hl => ?_)
              refine lv_goto (tgt := 24) hx hb d_M_common_56 (by decide) ?_
              refine lv_iload hx hb d_M_common_24 (lv_at hl 0 rfl) ?_
              refine lv_iconst (v := 3) hx hb d_M_common_26 (by decide) ?_
              refine lv_icmp_ge (tgt := 59) hx hb d_M_common_27 (by decide) (fun h_ => absurd h_ (by decide)) (fun _ => ?_)
              refine lv_iload hx hb d_M_common_30 (lv_at hl 1 rfl) ?_
              refine lv_if_le (tgt := 53) hx hb d_M_common_32 (by decide) (fun _ => ?_) (fun h_ => absurd c18 h_)
              refine lv_iinc (v := (2 : Int32)) (k := 0) (lv' := [(6, .int (2 : Int32)), (5, .int ((xb_lshr x0 (6 : Int32)).toInt32 &&& (7 : Int32))), (4, .int (2 : Int32)), (0, .long x0), (2, .long x1)]) hx hb d_M_common_53 hl rfl (by decide) (by decide) rfl (fun ls hl => ?_)
              refine lv_goto (tgt := 24) hx hb d_M_common_56 (by decide) ?_
              refine lv_iload hx hb d_M_common_24 (lv_at hl 0 rfl) ?_
              refine lv_iconst (v := 3) hx hb d_M_common_26 (by decide) ?_
              refine lv_icmp_ge (tgt := 59) hx hb d_M_common_27 (by decide) (fun h_ => absurd h_ (by decide)) (fun _ => ?_)
              refine lv_iload hx hb d_M_common_30 (lv_at hl 1 rfl) ?_
              refine lv_if_le (tgt := 53) hx hb d_M_common_32 (by decide) (fun _ => ?_) (fun h_ => absurd c18 h_)
              refine lv_iinc (v := (3 : Int32)) (k := 0) (lv' := [(6, .int (3 : Int32)), (5, .int ((xb_lshr x0 (6 : Int32)).toInt32 &&& (7 : Int32))), (4, .int (2 : Int32)), (0, .long x0), (2, .long x1)]) hx hb d_M_common_53 hl rfl (by decide) (by decide) rfl (fun ls hl => ?_)
              refine lv_goto (tgt := 24) hx hb d_M_common_56 (by decide) ?_
              refine lv_iload hx hb d_M_common_24 (lv_at hl 0 rfl) ?_
              refine lv_iconst (v := 3) hx hb d_M_common_26 (by decide) ?_
              refine lv_icmp_ge (tgt := 59) hx hb d_M_common_27 (by decide) (fun _ => ?_) (fun h_ => absurd h_ (by decide))
              refine lv_iinc (v := (3 : Int32)) (k := 2) (lv' := [(4, .int (3 : Int32)), (6, .int (3 : Int32)), (5, .int ((xb_lshr x0 (6 : Int32)).toInt32 &&& (7 : Int32))), (0, .long x0), (2, .long x1)]) hx hb d_M_common_59 hl rfl (by decide) (by decide) rfl (fun ls hl => ?_)
              refine lv_goto (tgt := 3) hx hb d_M_common_62 (by decide) ?_
              refine lv_iload hx hb d_M_common_3 (lv_at hl 0 rfl) ?_
              refine lv_iconst (v := 3) hx hb d_M_common_5 (by decide) ?_
              refine lv_icmp_ge (tgt := 65) hx hb d_M_common_6 (by decide) (fun _ => ?_) (fun h_ => absurd h_ (by decide))
              refine lv_iconst (v := 0) hx hb d_M_common_65 (by decide) ?_
              exact W.iret (v := (0 : Int32)) hx hb hr (fun t ht_ hW => ⟨_, rfl, ((if_neg c1).trans ((if_neg c14).trans ((if_neg c15).trans ((if_neg c16).trans ((if_pos c17).trans ((if_pos c18))))))).symm, ht_⟩) (fun _ h_ => nomatch h_) d_M_common_66
            · skip
              refine lv_iload hx hb d_M_common_35 (lv_at hl 1 rfl) ?_
              refine lv_lload_n hx hb d_M_common_37 rfl (lv_at hl 4 rfl) ?_
              refine lv_iconst (v := 3) hx hb d_M_common_38 (by decide) ?_
              refine lv_iload hx hb d_M_common_39 (lv_at hl 0 rfl) ?_
              refine lv_imul hx hb d_M_common_41 ?_
              refine xb_ti (y := (0 : Int32)) (by decide) ?_
              refine lv_lshr (v := (xb_lshr x1 (0 : Int32))) hx hb d_M_common_42 rfl ?_
              refine lv_l2i (v := (xb_lshr x1 (0 : Int32)).toInt32) hx hb d_M_common_43 (by rfl) ?_
              refine lv_bipush (v := 7) hx hb d_M_common_44 (by decide) ?_
              refine lv_iand hx hb d_M_common_46 ?_
              refine lv_icmp_ne (tgt := 53) hx hb d_M_common_47 (by decide) (fun c19 => ?_) (fun c19 => ?_)
              · skip
                refine lv_iinc (v := (1 : Int32)) (k := 0) (lv' := [(6, .int (1 : Int32)), (5, .int ((xb_lshr x0 (6 : Int32)).toInt32 &&& (7 : Int32))), (4, .int (2 : Int32)), (0, .long x0), (2, .long x1)]) hx hb d_M_common_53 hl rfl (by decide) (by decide) rfl (fun ls hl => ?_)
                refine lv_goto (tgt := 24) hx hb d_M_common_56 (by decide) ?_
                refine lv_iload hx hb d_M_common_24 (lv_at hl 0 rfl) ?_
                refine lv_iconst (v := 3) hx hb d_M_common_26 (by decide) ?_
                refine lv_icmp_ge (tgt := 59) hx hb d_M_common_27 (by decide) (fun h_ => absurd h_ (by decide)) (fun _ => ?_)
                refine lv_iload hx hb d_M_common_30 (lv_at hl 1 rfl) ?_
                refine lv_if_le (tgt := 53) hx hb d_M_common_32 (by decide) (fun h_ => absurd h_ c18) (fun _ => ?_)
                refine lv_iload hx hb d_M_common_35 (lv_at hl 1 rfl) ?_
                refine lv_lload_n hx hb d_M_common_37 rfl (lv_at hl 4 rfl) ?_
                refine lv_iconst (v := 3) hx hb d_M_common_38 (by decide) ?_
                refine lv_iload hx hb d_M_common_39 (lv_at hl 0 rfl) ?_
                refine lv_imul hx hb d_M_common_41 ?_
                refine xb_ti (y := (3 : Int32)) (by decide) ?_
                refine lv_lshr (v := (xb_lshr x1 (3 : Int32))) hx hb d_M_common_42 rfl ?_
                refine lv_l2i (v := (xb_lshr x1 (3 : Int32)).toInt32) hx hb d_M_common_43 (by rfl) ?_
                refine lv_bipush (v := 7) hx hb d_M_common_44 (by decide) ?_
                refine lv_iand hx hb d_M_common_46 ?_
                refine lv_icmp_ne (tgt := 53) hx hb d_M_common_47 (by decide) (fun c20 => ?_) (fun c20 => ?_)
                · skip
                  refine lv_iinc (v := (2 : Int32)) (k := 0) (lv' := [(6, .int (2 : Int32)), (5, .int ((xb_lshr x0 (6 : Int32)).toInt32 &&& (7 : Int32))), (4, .int (2 : Int32)), (0, .long x0), (2, .long x1)]) hx hb d_M_common_53 hl rfl (by decide) (by decide) rfl (fun ls hl => ?_)
                  refine lv_goto (tgt := 24) hx hb d_M_common_56 (by decide) ?_
                  refine lv_iload hx hb d_M_common_24 (lv_at hl 0 rfl) ?_
                  refine lv_iconst (v := 3) hx hb d_M_common_26 (by decide) ?_
                  refine lv_icmp_ge (tgt := 59) hx hb d_M_common_27 (by decide) (fun h_ => absurd h_ (by decide)) (fun _ => ?_)
                  refine lv_iload hx hb d_M_common_30 (lv_at hl 1 rfl) ?_
                  refine lv_if_le (tgt := 53) hx hb d_M_common_32 (by decide) (fun h_ => absurd h_ c18) (fun _ => ?_)
                  refine lv_iload hx hb d_M_common_35 (lv_at hl 1 rfl) ?_
                  refine lv_lload_n hx hb d_M_common_37 rfl (lv_at hl 4 rfl) ?_
                  refine lv_iconst (v := 3) hx hb d_M_common_38 (by decide) ?_
                  refine lv_iload hx hb d_M_common_39 (lv_at hl 0 rfl) ?_
                  refine lv_imul hx hb d_M_common_41 ?_
                  refine xb_ti (y := (6 : Int32)) (by decide) ?_
                  refine lv_lshr (v := (xb_lshr x1 (6 : Int32))) hx hb d_M_common_42 rfl ?_
                  refine lv_l2i (v := (xb_lshr x1 (6 : Int32)).toInt32) hx hb d_M_common_43 (by rfl) ?_
                  refine lv_bipush (v := 7) hx hb d_M_common_44 (by decide) ?_
                  refine lv_iand hx hb d_M_common_46 ?_
                  refine lv_icmp_ne (tgt := 53) hx hb d_M_common_47 (by decide) (fun c21 => ?_) (fun c21 => ?_)
                  · skip
                    refine lv_iinc (v := (3 : Int32)) (k := 0) (lv' := [(6, .int (3 : Int32)), (5, .int ((xb_lshr x0 (6 : Int32)).toInt32 &&& (7 : Int32))), (4, .int (2 : Int32)), (0, .long x0), (2, .long x1)]) hx hb d_M_common_53 hl rfl (by decide) (by decide) rfl (fun ls hl => ?_)
                    refine lv_goto (tgt := 24) hx hb d_M_common_56 (by decide) ?_
                    refine lv_iload hx hb d_M_common_24 (lv_at hl 0 rfl) ?_
                    refine lv_iconst (v := 3) hx hb d_M_common_26 (by decide) ?_
                    refine lv_icmp_ge (tgt := 59) hx hb d_M_common_27 (by decide) (fun _ => ?_) (fun h_ => absurd h_ (by decide))
                    refine lv_iinc (v := (3 : Int32)) (k := 2) (lv' := [(4, .int (3 : Int32)), (6, .int (3 : Int32)), (5, .int ((xb_lshr x0 (6 : Int32)).toInt32 &&& (7 : Int32))), (0, .long x0), (2, .long x1)]) hx hb d_M_common_59 hl rfl (by decide) (by decide) rfl (fun ls hl => ?_)
                    refine lv_goto (tgt := 3) hx hb d_M_common_62 (by decide) ?_
                    refine lv_iload hx hb d_M_common_3 (lv_at hl 0 rfl) ?_
                    refine lv_iconst (v := 3) hx hb d_M_common_5 (by decide) ?_
                    refine lv_icmp_ge (tgt := 65) hx hb d_M_common_6 (by decide) (fun _ => ?_) (fun h_ => absurd h_ (by decide))
                    refine lv_iconst (v := 0) hx hb d_M_common_65 (by decide) ?_
                    exact W.iret (v := (0 : Int32)) hx hb hr (fun t ht_ hW => ⟨_, rfl, ((if_neg c1).trans ((if_neg c14).trans ((if_neg c15).trans ((if_neg c16).trans ((if_pos c17).trans ((if_neg c18).trans ((if_neg c19).trans ((if_neg c20).trans ((if_neg c21)))))))))).symm, ht_⟩) (fun _ h_ => nomatch h_) d_M_common_66
                  · skip
                    refine lv_iload hx hb d_M_common_50 (lv_at hl 1 rfl) ?_
                    exact W.iret (v := ((xb_lshr x0 (6 : Int32)).toInt32 &&& (7 : Int32))) hx hb hr (fun t ht_ hW => ⟨_, rfl, ((if_neg c1).trans ((if_neg c14).trans ((if_neg c15).trans ((if_neg c16).trans ((if_pos c17).trans ((if_neg c18).trans ((if_neg c19).trans ((if_neg c20).trans ((if_pos c21)))))))))).symm, ht_⟩) (fun _ h_ => nomatch h_) d_M_common_52
                · skip
                  refine lv_iload hx hb d_M_common_50 (lv_at hl 1 rfl) ?_
                  exact W.iret (v := ((xb_lshr x0 (6 : Int32)).toInt32 &&& (7 : Int32))) hx hb hr (fun t ht_ hW => ⟨_, rfl, ((if_neg c1).trans ((if_neg c14).trans ((if_neg c15).trans ((if_neg c16).trans ((if_pos c17).trans ((if_neg c18).trans ((if_neg c19).trans ((if_pos c20))))))))).symm, ht_⟩) (fun _ h_ => nomatch h_) d_M_common_52
              · skip
                refine lv_iload hx hb d_M_common_50 (lv_at hl 1 rfl) ?_
                exact W.iret (v := ((xb_lshr x0 (6 : Int32)).toInt32 &&& (7 : Int32))) hx hb hr (fun t ht_ hW => ⟨_, rfl, ((if_neg c1).trans ((if_neg c14).trans ((if_neg c15).trans ((if_neg c16).trans ((if_pos c17).trans ((if_neg c18).trans ((if_pos c19)))))))).symm, ht_⟩) (fun _ h_ => nomatch h_) d_M_common_52
          · skip
            refine lv_iload hx hb d_M_common_35 (lv_at hl 1 rfl) ?_
            refine lv_lload_n hx hb d_M_common_37 rfl (lv_at hl 4 rfl) ?_
            refine lv_iconst (v := 3) hx hb d_M_common_38 (by decide) ?_
            refine lv_iload hx hb d_M_common_39 (lv_at hl 0 rfl) ?_
            refine lv_imul hx hb d_M_common_41 ?_
            refine xb_ti (y := (0 : Int32)) (by decide) ?_
            refine lv_lshr (v := (xb_lshr x1 (0 : Int32))) hx hb d_M_common_42 rfl ?_
            refine lv_l2i (v := (xb_lshr x1 (0 : Int32)).toInt32) hx hb d_M_common_43 (by rfl) ?_
            refine lv_bipush (v := 7) hx hb d_M_common_44 (by decide) ?_
            refine lv_iand hx hb d_M_common_46 ?_
            refine lv_icmp_ne (tgt := 53) hx hb d_M_common_47 (by decide) (fun c22 => ?_) (fun c22 => ?_)
            · skip
              refine lv_iinc (v := (1 : Int32)) (k := 0) (lv' := [(6, .int (1 : Int32)), (5, .int ((xb_lshr x0 (3 : Int32)).toInt32 &&& (7 : Int32))), (4, .int (1 : Int32)), (0, .long x0), (2, .long x1)]) hx hb d_M_common_53 hl rfl (by decide) (by decide) rfl (fun ls hl => ?_)
              refine lv_goto (tgt := 24) hx hb d_M_common_56 (by decide) ?_
              refine lv_iload hx hb d_M_common_24 (lv_at hl 0 rfl) ?_
              refine lv_iconst (v := 3) hx hb d_M_common_26 (by decide) ?_
              refine lv_icmp_ge (tgt := 59) hx hb d_M_common_27 (by decide) (fun h_ => absurd h_ (by decide)) (fun _ => ?_)
              refine lv_iload hx hb d_M_common_30 (lv_at hl 1 rfl) ?_
              refine lv_if_le (tgt := 53) hx hb d_M_common_32 (by decide) (fun h_ => absurd h_ c17) (fun _ => ?_)
              refine lv_iload hx hb d_M_common_35 (lv_at hl 1 rfl) ?_
              refine lv_lload_n hx hb d_M_common_37 rfl (lv_at hl 4 rfl) ?_
              refine lv_iconst (v := 3) hx hb d_M_common_38 (by decide) ?_
              refine lv_iload hx hb d_M_common_39 (lv_at hl 0 rfl) ?_
              refine lv_imul hx hb d_M_common_41 ?_
              refine xb_ti (y := (3 : Int32)) (by decide) ?_
              refine lv_lshr (v := (xb_lshr x1 (3 : Int32))) hx hb d_M_common_42 rfl ?_
              refine lv_l2i (v := (xb_lshr x1 (3 : Int32)).toInt32) hx hb d_M_common_43 (by rfl) ?_
              refine lv_bipush (v := 7) hx hb d_M_common_44 (by decide) ?_
              refine lv_iand hx hb d_M_common_46 ?_
              refine lv_icmp_ne (tgt := 53) hx hb d_M_common_47 (by decide) (fun c23 => ?_) (fun c23 => ?_)
              · skip
                refine lv_iinc (v := (2 : Int32)) (k := 0) (lv' := [(6, .int (2 : Int32)), (5, .int ((xb_lshr x0 (3 : Int32)).toInt32 &&& (7 : Int32))), (4, .int (1 : Int32)), (0, .long x0), (2, .long x1)]) hx hb d_M_common_53 hl rfl (by decide) (by decide) rfl (fun ls hl => ?_)
                refine lv_goto (tgt := 24) hx hb d_M_common_56 (by decide) ?_
                refine lv_iload hx hb d_M_common_24 (lv_at hl 0 rfl) ?_
                refine lv_iconst (v := 3) hx hb d_M_common_26 (by decide) ?_
                refine lv_icmp_ge (tgt := 59) hx hb d_M_common_27 (by decide) (fun h_ => absurd h_ (by decide)) (fun _ => ?_)
                refine lv_iload hx hb d_M_common_30 (lv_at hl 1 rfl) ?_
                refine lv_if_le (tgt := 53) hx hb d_M_common_32 (by decide) (fun h_ => absurd h_ c17) (fun _ => ?_)
                refine lv_iload hx hb d_M_common_35 (lv_at hl 1 rfl) ?_
                refine lv_lload_n hx hb d_M_common_37 rfl (lv_at hl 4 rfl) ?_
                refine lv_iconst (v := 3) hx hb d_M_common_38 (by decide) ?_
                refine lv_iload hx hb d_M_common_39 (lv_at hl 0 rfl) ?_
                refine lv_imul hx hb d_M_common_41 ?_
                refine xb_ti (y := (6 : Int32)) (by decide) ?_
                refine lv_lshr (v := (xb_lshr x1 (6 : Int32))) hx hb d_M_common_42 rfl ?_
                refine lv_l2i (v := (xb_lshr x1 (6 : Int32)).toInt32) hx hb d_M_common_43 (by rfl) ?_
                refine lv_bipush (v := 7) hx hb d_M_common_44 (by decide) ?_
                refine lv_iand hx hb d_M_common_46 ?_
                refine lv_icmp_ne (tgt := 53) hx hb d_M_common_47 (by decide) (fun c24 => ?_) (fun c24 => ?_)
                · skip
                  refine lv_iinc (v := (3 : Int32)) (k := 0) (lv' := [(6, .int (3 : Int32)), (5, .int ((xb_lshr x0 (3 : Int32)).toInt32 &&& (7 : Int32))), (4, .int (1 : Int32)), (0, .long x0), (2, .long x1)]) hx hb d_M_common_53 hl rfl (by decide) (by decide) rfl (fun ls hl => ?_)
                  refine lv_goto (tgt := 24) hx hb d_M_common_56 (by decide) ?_
                  refine lv_iload hx hb d_M_common_24 (lv_at hl 0 rfl) ?_
                  refine lv_iconst (v := 3) hx hb d_M_common_26 (by decide) ?_
                  refine lv_icmp_ge (tgt := 59) hx hb d_M_common_27 (by decide) (fun _ => ?_) (fun h_ => absurd h_ (by decide))
                  refine lv_iinc (v := (2 : Int32)) (k := 2) (lv' := [(4, .int (2 : Int32)), (6, .int (3 : Int32)), (5, .int ((xb_lshr x0 (3 : Int32)).toInt32 &&& (7 : Int32))), (0, .long x0), (2, .long x1)]) hx hb d_M_common_59 hl rfl (by decide) (by decide) rfl (fun ls hl => ?_)
                  refine lv_goto (tgt := 3) hx hb d_M_common_62 (by decide) ?_
                  refine lv_iload hx hb d_M_common_3 (lv_at hl 0 rfl) ?_
                  refine lv_iconst (v := 3) hx hb d_M_common_5 (by decide) ?_
                  refine lv_icmp_ge (tgt := 65) hx hb d_M_common_6 (by decide) (fun h_ => absurd h_ (by decide)) (fun _ => ?_)
                  refine lv_lload_n hx hb d_M_common_9 rfl (lv_at hl 3 rfl) ?_
                  refine lv_iconst (v := 3) hx hb d_M_common_10 (by decide) ?_
                  refine lv_iload hx hb d_M_common_11 (lv_at hl 0 rfl) ?_
                  refine lv_imul hx hb d_M_common_13 ?_
                  refine xb_ti (y := (6 : Int32)) (by decide) ?_
                  refine lv_lshr (v := (xb_lshr x0 (6 : Int32))) hx hb d_M_common_14 rfl ?_
                  refine lv_l2i (v := (xb_lshr x0 (6 : Int32)).toInt32) hx hb d_M_common_15 (by rfl) ?_
                  refine lv_bipush (v := 7) hx hb d_M_common_16 (by decide) ?_
                  refine lv_iand hx hb d_M_common_18 ?_
                  refine lv_istore (lv' := [(5, .int ((xb_lshr x0 (6 : Int32)).toInt32 &&& (7 : Int32))), (4, .int (2 : Int32)), (6, .int (3 : Int32)), (0, .long x0), (2, .long x1)]) hx hb d_M_common_19 hl (by decide) rfl (fun ls hl => ?_)
                  refine lv_iconst (v := 0) hx hb d_M_common_21 (by decide) ?_
                  refine lv_istore (lv' := [(6, .int (0 : Int32)), (5, .int ((xb_lshr x0 (6 : Int32)).toInt32 &&& (7 : Int32))), (4, .int (2 : Int32)), (0, .long x0), (2, .long x1)]) hx hb d_M_common_22 hl (by decide) rfl (fun ls hl => ?_)
                  refine lv_iload hx hb d_M_common_24 (lv_at hl 0 rfl) ?_
                  refine lv_iconst (v := 3) hx hb d_M_common_26 (by decide) ?_
                  refine lv_icmp_ge (tgt := 59) hx hb d_M_common_27 (by decide) (fun h_ => absurd h_ (by decide)) (fun _ => ?_)
                  refine lv_iload hx hb d_M_common_30 (lv_at hl 1 rfl) ?_
                  refine lv_if_le (tgt := 53) hx hb d_M_common_32 (by decide) (fun c25 => ?_) (fun c25 => ?_)
                  · skip
                    refine lv_iinc (v := (1 : Int32)) (k := 0) (lv' := [(6, .int (1 : Int32)), (5, .int ((xb_lshr x0 (6 : Int32)).toInt32 &&& (7 : Int32))), (4, .int (2 : Int32)), (0, .long x0), (2, .long x1)]) hx hb d_M_common_53 hl rfl (by decide) (by decide) rfl (fun ls hl => ?_)
                    refine lv_goto (tgt := 24) hx hb d_M_common_56 (by decide) ?_
                    refine lv_iload hx hb d_M_common_24 (lv_at hl 0 rfl) ?_
                    refine lv_iconst (v := 3) hx hb d_M_common_26 (by decide) ?_
                    refine lv_icmp_ge (tgt := 59) hx hb d_M_common_27 (by decide) (fun h_ => absurd h_ (by decide)) (fun _ => ?_)
                    refine lv_iload hx hb d_M_common_30 (lv_at hl 1 rfl) ?_
                    refine lv_if_le (tgt := 53) hx hb d_M_common_32 (by decide) (fun _ => ?_) (fun h_ => absurd c25 h_)
                    refine lv_iinc (v := (2 : Int32)) (k := 0) (lv' := [(6, .int (2 : Int32)), (5, .int ((xb_lshr x0 (6 : Int32)).toInt32 &&& (7 : Int32))), (4, .int (2 : Int32)), (0, .long x0), (2, .long x1)]) hx hb d_M_common_53 hl rfl (by decide) (by decide) rfl (fun ls hl => ?_)
                    refine lv_goto (tgt := 24) hx hb d_M_common_56 (by decide) ?_
                    refine lv_iload hx hb d_M_common_24 (lv_at hl 0 rfl) ?_
                    refine lv_iconst (v := 3) hx hb d_M_common_26 (by decide) ?_
                    refine lv_icmp_ge (tgt := 59) hx hb d_M_common_27 (by decide) (fun h_ => absurd h_ (by decide)) (fun _ => ?_)
                    refine lv_iload hx hb d_M_common_30 (lv_at hl 1 rfl) ?_
                    refine lv_if_le (tgt := 53) hx hb d_M_common_32 (by decide) (fun _ => ?_) (fun h_ => absurd c25 h_)
                    refine lv_iinc (v := (3 : Int32)) (k := 0) (lv' := [(6, .int (3 : Int32)), (5, .int ((xb_lshr x0 (6 : Int32)).toInt32 &&& (7 : Int32))), (4, .int (2 : Int32)), (0, .long x0), (2, .long x1)]) hx hb d_M_common_53 hl rfl (by decide) (by decide) rfl (fun ls hl => ?_)
                    refine lv_goto (tgt := 24) hx hb d_M_common_56 (by decide) ?_
                    refine lv_iload hx hb d_M_common_24 (lv_at hl 0 rfl) ?_
                    refine lv_iconst (v := 3) hx hb d_M_common_26 (by decide) ?_
                    refine lv_icmp_ge (tgt := 59) hx hb d_M_common_27 (by decide) (fun _ => ?_) (fun h_ => absurd h_ (by decide))
                    refine lv_iinc (v := (3 : Int32)) (k := 2) (lv' := [(4, .int (3 : Int32)), (6, .int (3 : Int32)), (5, .int ((xb_lshr x0 (6 : Int32)).toInt32 &&& (7 : Int32))), (0, .long x0), (2, .long x1)]) hx hb d_M_common_59 hl rfl (by decide) (by decide) rfl (fun ls hl => ?_)
                    refine lv_goto (tgt := 3) hx hb d_M_common_62 (by decide) ?_
                    refine lv_iload hx hb d_M_common_3 (lv_at hl 0 rfl) ?_
                    refine lv_iconst (v := 3) hx hb d_M_common_5 (by decide) ?_
                    refine lv_icmp_ge (tgt := 65) hx hb d_M_common_6 (by decide) (fun _ => ?_) (fun h_ => absurd h_ (by decide))
                    refine lv_iconst (v := 0) hx hb d_M_common_65 (by decide) ?_
                    exact W.iret (v := (0 : Int32)) hx hb hr (fun t ht_ hW => ⟨_, rfl, ((if_neg c1).trans ((if_neg c14).trans ((if_neg c15).trans ((if_neg c16).trans ((if_neg c17).trans ((if_neg c22).trans ((if_neg c23).trans ((if_neg c24).trans ((if_pos c25)))))))))).symm, ht_⟩) (fun _ h_ => nomatch h_) d_M_common_66
                  · skip
                    refine lv_iload hx hb d_M_common_35 (lv_at hl 1 rfl) ?_
                    refine lv_lload_n hx hb d_M_common_37 rfl (lv_at hl 4 rfl) ?_
                    refine lv_iconst (v := 3) hx hb d_M_common_38 (by decide) ?_
                    refine lv_iload hx hb d_M_common_39 (lv_at hl 0 rfl) ?_
                    refine lv_imul hx hb d_M_common_41 ?_
                    refine xb_ti (y := (0 : Int32)) (by decide) ?_
                    refine lv_lshr (v := (xb_lshr x1 (0 : Int32))) hx hb d_M_common_42 rfl ?_
                    refine lv_l2i (v := (xb_lshr x1 (0 : Int32)).toInt32) hx hb d_M_common_43 (by rfl) ?_
                    refine lv_bipush (v := 7) hx hb d_M_common_44 (by decide) ?_
                    refine lv_iand hx hb d_M_common_46 ?_
                    refine lv_icmp_ne (tgt := 53) hx hb d_M_common_47 (by decide) (fun c26 => ?_) (fun c26 => ?_)
                    · skip
                      refine lv_iinc (v := (1 : Int32)) (k := 0) (lv' := [(6, .int (1 : Int32)), (5, .int ((xb_lshr x0 (6 : Int32)).toInt32 &&& (7 : Int32))), (4, .int (2 : Int32)), (0, .long x0), (2, .long x1)]) hx hb d_M_common_53 hl rfl (by decide) (by decide) rfl (fun ls hl => ?_)
                      refine lv_goto (tgt := 24) hx hb d_M_common_56 (by decide) ?_
                      refine lv_iload hx hb d_M_common_24 (lv_at hl 0 rfl) ?_
                      refine lv_iconst (v := 3) hx hb d_M_common_26 (by decide) ?_
                      refine lv_icmp_ge (tgt := 59) hx hb d_M_common_27 (by decide) (fun h_ => absurd h_ (by decide)) (fun _ => ?_)
                      refine lv_iload hx hb d_M_common_30 (lv_at hl 1 rfl) ?_
                      refine lv_if_le (tgt := 53) hx hb d_M_common_32 (by decide) (fun h_ => absurd h_ c25) (fun _ => ?_)
                      refine lv_iload hx hb d_M_common_35 (lv_at hl 1 rfl) ?_
                      refine lv_lload_n hx hb d_M_common_37 rfl (lv_at hl 4 rfl) ?_
                      refine lv_iconst (v := 3) hx hb d_M_common_38 (by decide) ?_
                      refine lv_iload hx hb d_M_common_39 (lv_at hl 0 rfl) ?_
                      refine lv_imul hx hb d_M_common_41 ?_
                      refine xb_ti (y := (3 : Int32)) (by decide) ?_
                      refine lv_lshr (v := (xb_lshr x1 (3 : Int32))) hx hb d_M_common_42 rfl ?_
                      refine lv_l2i (v := (xb_lshr x1 (3 : Int32)).toInt32) hx hb d_M_common_43 (by rfl) ?_
                      refine lv_bipush (v := 7) hx hb d_M_common_44 (by decide) ?_
                      refine lv_iand hx hb d_M_common_46 ?_
                      refine lv_icmp_ne (tgt := 53) hx hb d_M_common_47 (by decide) (fun c27 => ?_) (fun c27 => ?_)
                      · skip
                        refine lv_iinc (v := (2 : Int32)) (k := 0) (lv' := [(6, .int (2 : Int32)), (5, .int ((xb_lshr x0 (6 : Int32)).toInt32 &&& (7 : Int32))), (4, .int (2 : Int32)), (0, .long x0), (2, .long x1)]) hx hb d_M_common_53 hl rfl (by decide) (by decide) rfl (fun ls hl => ?_)
                        refine lv_goto (tgt := 24) hx hb d_M_common_56 (by decide) ?_
                        refine lv_iload hx hb d_M_common_24 (lv_at hl 0 rfl) ?_
                        refine lv_iconst (v := 3) hx hb d_M_common_26 (by decide) ?_
                        refine lv_icmp_ge (tgt := 59) hx hb d_M_common_27 (by decide) (fun h_ => absurd h_ (by decide)) (fun _ => ?_)
                        refine lv_iload hx hb d_M_common_30 (lv_at hl 1 rfl) ?_
                        refine lv_if_le (tgt := 53) hx hb d_M_common_32 (by decide) (fun h_ => absurd h_ c25) (fun _ => ?_)
                        refine lv_iload hx hb d_M_common_35 (lv_at hl 1 rfl) ?_
                        refine lv_lload_n hx hb d_M_common_37 rfl (lv_at hl 4 rfl) ?_
                        refine lv_iconst (v := 3) hx hb d_M_common_38 (by decide) ?_
                        refine lv_iload hx hb d_M_common_39 (lv_at hl 0 rfl) ?_
                        refine lv_imul hx hb d_M_common_41 ?_
                        refine xb_ti (y := (6 : Int32)) (by decide) ?_
                        refine lv_lshr (v := (xb_lshr x1 (6 : Int32))) hx hb d_M_common_42 rfl ?_
                        refine lv_l2i (v := (xb_lshr x1 (6 : Int32)).toInt32) hx hb d_M_common_43 (by rfl) ?_
                        refine lv_bipush (v := 7) hx hb d_M_common_44 (by decide) ?_
                        refine lv_iand hx hb d_M_common_46 ?_
                        refine lv_icmp_ne (tgt := 53) hx hb d_M_common_47 (by decide) (fun c28 => ?_) (fun c28 => ?_)
                        · skip
                          refine lv_iinc (v := (3 : Int32)) (k := 0) (lv' := [(6, .int (3 : Int32)), (5, .int ((xb_lshr x0 (6 : Int32)).toInt32 &&& (7 : Int32))), (4, .int (2 : Int32)), (0, .long x0), (2, .long x1)]) hx hb d_M_common_53 hl rfl (by decide) (by decide) rfl (fun ls hl => ?_)
                          refine lv_goto (tgt := 24) hx hb d_M_common_56 (by decide) ?_
                          refine lv_iload hx hb d_M_common_24 (lv_at hl 0 rfl) ?_
                          refine lv_iconst (v := 3) hx hb d_M_common_26 (by decide) ?_
                          refine lv_icmp_ge (tgt := 59) hx hb d_M_common_27 (by decide) (fun _ => ?_) (fun h_ => absurd h_ (by decide))
                          refine lv_iinc (v := (3 : Int32)) (k := 2) (lv' := [(4, .int (3 : Int32)), (6, .int (3 : Int32)), (5, .int ((xb_lshr x0 (6 : Int32)).toInt32 &&& (7 : Int32))), (0, .long x0), (2, .long x1)]) hx hb d_M_common_59 hl rfl (by decide) (by decide) rfl (fun ls hl => ?_)
                          refine lv_goto (tgt := 3) hx hb d_M_common_62 (by decide) ?_
                          refine lv_iload hx hb d_M_common_3 (lv_at hl 0 rfl) ?_
                          refine lv_iconst (v := 3) hx hb d_M_common_5 (by decide) ?_
                          refine lv_icmp_ge (tgt := 65) hx hb d_M_common_6 (by decide) (fun _ => ?_) (fun h_ => absurd h_ (by decide))
                          refine lv_iconst (v := 0) hx hb d_M_common_65 (by decide) ?_
                          exact W.iret (v := (0 : Int32)) hx hb hr (fun t ht_ hW => ⟨_, rfl, ((if_neg c1).trans ((if_neg c14).trans ((if_neg c15).trans ((if_neg c16).trans ((if_neg c17).trans ((if_neg c22).trans ((if_neg c23).trans ((if_neg c24).trans ((if_neg c25).trans ((if_neg c26).trans ((if_neg c27).trans ((if_neg c28))))))))))))).symm, ht_⟩) (fun _ h_ => nomatch h_) d_M_common_66
                        · skip
                          refine lv_iload hx hb d_M_common_50 (lv_at hl 1 rfl) ?_
                          exact W.iret (v := ((xb_lshr x0 (6 : Int32)).toInt32 &&& (7 : Int32))) hx hb hr (fun t ht_ hW => ⟨_, rfl, ((if_neg c1).trans ((if_neg c14).trans ((if_neg c15).trans ((if_neg c16).trans ((if_neg c17).trans ((if_neg c22).trans ((if_neg c23).trans ((if_neg c24).trans ((if_neg c25).trans ((if_neg c26).trans ((if_neg c27).trans ((if_pos c28))))))))))))).symm, ht_⟩) (fun _ h_ => nomatch h_) d_M_common_52
                      · skip
                        refine lv_iload hx hb d_M_common_50 (lv_at hl 1 rfl) ?_
                        exact W.iret (v := ((xb_lshr x0 (6 : Int32)).toInt32 &&& (7 : Int32))) hx hb hr (fun t ht_ hW => ⟨_, rfl, ((if_neg c1).trans ((if_neg c14).trans ((if_neg c15).trans ((if_neg c16).trans ((if_neg c17).trans ((if_neg c22).trans ((if_neg c23).trans ((if_neg c24).trans ((if_neg c25).trans ((if_neg c26).trans ((if_pos c27)))))))))))).symm, ht_⟩) (fun _ h_ => nomatch h_) d_M_common_52
                    · skip
                      refine lv_iload hx hb d_M_common_50 (lv_at hl 1 rfl) ?_
                      exact W.iret (v := ((xb_lshr x0 (6 : Int32)).toInt32 &&& (7 : Int32))) hx hb hr (fun t ht_ hW => ⟨_, rfl, ((if_neg c1).trans ((if_neg c14).trans ((if_neg c15).trans ((if_neg c16).trans ((if_neg c17).trans ((if_neg c22).trans ((if_neg c23).trans ((if_neg c24).trans ((if_neg c25).trans ((if_pos c26))))))))))).symm, ht_⟩) (fun _ h_ => nomatch h_) d_M_common_52
                · skip
                  refine lv_iload hx hb d_M_common_50 (lv_at hl 1 rfl) ?_
                  exact W.iret (v := ((xb_lshr x0 (3 : Int32)).toInt32 &&& (7 : Int32))) hx hb hr (fun t ht_ hW => ⟨_, rfl, ((if_neg c1).trans ((if_neg c14).trans ((if_neg c15).trans ((if_neg c16).trans ((if_neg c17).trans ((if_neg c22).trans ((if_neg c23).trans ((if_pos c24))))))))).symm, ht_⟩) (fun _ h_ => nomatch h_) d_M_common_52
              · skip
                refine lv_iload hx hb d_M_common_50 (lv_at hl 1 rfl) ?_
                exact W.iret (v := ((xb_lshr x0 (3 : Int32)).toInt32 &&& (7 : Int32))) hx hb hr (fun t ht_ hW => ⟨_, rfl, ((if_neg c1).trans ((if_neg c14).trans ((if_neg c15).trans ((if_neg c16).trans ((if_neg c17).trans ((if_neg c22).trans ((if_pos c23)))))))).symm, ht_⟩) (fun _ h_ => nomatch h_) d_M_common_52
            · skip
              refine lv_iload hx hb d_M_common_50 (lv_at hl 1 rfl) ?_
              exact W.iret (v := ((xb_lshr x0 (3 : Int32)).toInt32 &&& (7 : Int32))) hx hb hr (fun t ht_ hW => ⟨_, rfl, ((if_neg c1).trans ((if_neg c14).trans ((if_neg c15).trans ((if_neg c16).trans ((if_neg c17).trans ((if_pos c22))))))).symm, ht_⟩) (fun _ h_ => nomatch h_) d_M_common_52
        · skip
          refine lv_iload hx hb d_M_common_50 (lv_at hl 1 rfl) ?_
          exact W.iret (v := ((xb_lshr x0 (0 : Int32)).toInt32 &&& (7 : Int32))) hx hb hr (fun t ht_ hW => ⟨_, rfl, ((if_neg c1).trans ((if_neg c14).trans ((if_neg c15).trans ((if_pos c16))))).symm, ht_⟩) (fun _ h_ => nomatch h_) d_M_common_52
      · skip
        refine lv_iload hx hb d_M_common_50 (lv_at hl 1 rfl) ?_
        exact W.iret (v := ((xb_lshr x0 (0 : Int32)).toInt32 &&& (7 : Int32))) hx hb hr (fun t ht_ hW => ⟨_, rfl, ((if_neg c1).trans ((if_neg c14).trans ((if_pos c15)))).symm, ht_⟩) (fun _ h_ => nomatch h_) d_M_common_52
    · skip
      refine lv_iload hx hb d_M_common_50 (lv_at hl 1 rfl) ?_
      exact W.iret (v := ((xb_lshr x0 (0 : Int32)).toInt32 &&& (7 : Int32))) hx hb hr (fun t ht_ hW => ⟨_, rfl, ((if_neg c1).trans ((if_pos c14))).symm, ht_⟩) (fun _ h_ => nomatch h_) d_M_common_52
abbrev b_M_tagOf : ByteArray := prog_12_method_12_code
def y_M_tagOf : MethodName := ⟨"SecurePairModel", "tagOf", "(JIIIJJJJ)J"⟩
abbrev w_M_tagOf : List Cond := .code y_M_tagOf b_M_tagOf 15 (some .long) :: xa
theorem d_M_tagOf_0 : decode b_M_tagOf 0 = .ok (.lconst 0, 1) := by decide +kernel
theorem d_M_tagOf_1 : decode b_M_tagOf 1 = .ok (.lload_n 0, 1) := by decide +kernel
theorem d_M_tagOf_2 : decode b_M_tagOf 2 = .ok (.invokestatic 142, 3) := by decide +kernel
theorem d_M_tagOf_5 : decode b_M_tagOf 5 = .ok (.iload_n 2, 1) := by decide +kernel
theorem d_M_tagOf_6 : decode b_M_tagOf 6 = .ok (.i2l, 1) := by decide +kernel
theorem d_M_tagOf_7 : decode b_M_tagOf 7 = .ok (.invokestatic 142, 3) := by decide +kernel
theorem d_M_tagOf_10 : decode b_M_tagOf 10 = .ok (.iload_n 3, 1) := by decide +kernel
theorem d_M_tagOf_11 : decode b_M_tagOf 11 = .ok (.i2l, 1) := by decide +kernel
theorem d_M_tagOf_12 : decode b_M_tagOf 12 = .ok (.invokestatic 142, 3) := by decide +kernel
theorem d_M_tagOf_15 : decode b_M_tagOf 15 = .ok (.iload 4, 2) := by decide +kernel
theorem d_M_tagOf_17 : decode b_M_tagOf 17 = .ok (.i2l, 1) := by decide +kernel
theorem d_M_tagOf_18 : decode b_M_tagOf 18 = .ok (.invokestatic 142, 3) := by decide +kernel
theorem d_M_tagOf_21 : decode b_M_tagOf 21 = .ok (.lstore 13, 2) := by decide +kernel
theorem d_M_tagOf_23 : decode b_M_tagOf 23 = .ok (.lload 13, 2) := by decide +kernel
theorem d_M_tagOf_25 : decode b_M_tagOf 25 = .ok (.lload 5, 2) := by decide +kernel
theorem d_M_tagOf_27 : decode b_M_tagOf 27 = .ok (.invokestatic 142, 3) := by decide +kernel
theorem d_M_tagOf_30 : decode b_M_tagOf 30 = .ok (.lload 7, 2) := by decide +kernel
theorem d_M_tagOf_32 : decode b_M_tagOf 32 = .ok (.invokestatic 142, 3) := by decide +kernel
theorem d_M_tagOf_35 : decode b_M_tagOf 35 = .ok (.lload 9, 2) := by decide +kernel
theorem d_M_tagOf_37 : decode b_M_tagOf 37 = .ok (.invokestatic 142, 3) := by decide +kernel
theorem d_M_tagOf_40 : decode b_M_tagOf 40 = .ok (.lload 11, 2) := by decide +kernel
theorem d_M_tagOf_42 : decode b_M_tagOf 42 = .ok (.invokestatic 142, 3) := by decide +kernel
theorem d_M_tagOf_45 : decode b_M_tagOf 45 = .ok (.lreturn, 1) := by decide +kernel
theorem xw11 : (Cond.initialized "SecurePairModel") ∈ xa := xa_t 11 (by decide +kernel) (by decide +kernel)
theorem xw1091 : (Cond.methodLink "SecurePairModel" (142 : Nat) ({ cls := "SecurePairModel", name := "mix", desc := "(JJ)J" } : MethodName)) ∈ xa := xa_t 1091 (by decide +kernel) (by decide +kernel)
theorem xw1092 : (Cond.static ({ cls := "SecurePairModel", name := "mix", desc := "(JJ)J" } : MethodName)) ∈ xa := xa_t 1092 (by decide +kernel) (by decide +kernel)
theorem xw1093 : (Cond.code ({ cls := "SecurePairModel", name := "mix", desc := "(JJ)J" } : MethodName) prog_12_method_5_code (6 : Nat) (Option.some ClassFile.FieldType.long)) ∈ xa := xa_t 1093 (by decide +kernel) (by decide +kernel)
def g_tagOf (x0 : Int64) (x1 : Int32) (x2 : Int32) (x3 : Int32) (x4 : Int64) (x5 : Int64) (x6 : Int64) (x7 : Int64) : Int64 := (g_mix (g_mix (g_mix (g_mix (g_mix (g_mix (g_mix (g_mix (0 : Int64) x0) x1.toInt64) x2.toInt64) x3.toInt64) x4) x5) x6) x7)
set_option maxHeartbeats 4000000 in
set_option maxRecDepth 100000 in
theorem c_M_tagOf (l : Launch) (x0 : Int64) (x1 : Int32) (x2 : Int32) (x3 : Int32) (x4 : Int64) (x5 : Int64) (x6 : Int64) (x7 : Int64) : Met l y_M_tagOf w_M_tagOf ({ frames := 1, cells := 0, slots := 0, locals := 25 }) (fun av_ _ => av_ = ([.long x0, .int x1, .int x2, .int x3, .long x4, .long x5, .long x6, .long x7] : List Value).toArray) (vp_Sl (fun r => r = g_tagOf x0 x1 x2 x3 x4 x5 x6 x7)) 0 0 (fun _ => False) := by
  refine Met.ofW (cc := b_M_tagOf) (maxL := 15) (ret := (some .long)) (by decide) rfl ?_
  intro p e s m args below meth c s₁ B hml hv
  subst hv
  have hx := B.exec
  have hb := B.bytes
  have hr := B.returns
  have hts := atoms_spec (ws := w_M_tagOf) B.pre
  have ht : ∀ w ∈ xa, w.before _ s = true := fun w h => hts w (List.mem_cons_of_mem _ h)
  have hown : s.vm.findClass "SecurePairModel" = some m.cls := findClass_of_methodNamed B.named
  have hlocks := B.notSynchronized
  have hl := lv_entry ([.long x0, .int x1, .int x2, .int x3, .long x4, .long x5, .long x6, .long x7]) (n := 15) (Nat.le_of_ble_eq_true rfl)
  rw [lg_entry_eq]
  generalize (lg_sl ([.long x0, .int x1, .int x2, .int x3, .long x4, .long x5, .long x6, .long x7]) ++ List.replicate (15 - (lg_sl ([.long x0, .int x1, .int x2, .int x3, .long x4, .long x5, .long x6, .long x7])).length) Slot.unset).toArray = ls at hl ⊢
  have hl : lv_has ls 15 [(0, .long x0), (2, .int x1), (3, .int x2), (4, .int x3), (5, .long x4), (7, .long x5), (9, .long x6), (11, .long x7)] := hl
  refine lv_lconst (v := 0) hx hb d_M_tagOf_0 (by decide) ?_
  refine lv_lload_n hx hb d_M_tagOf_1 rfl (lv_at hl 0 rfl) ?_
  refine vp_callSl (W.runS (As := [.long (0 : Int64), .long x0]) (rest := []) ⟨hx, hb, hml, hown, hts⟩ (c_M_mix l (0 : Int64) x0) (cwS 2 hts (xa_S xw1091 xw1092 xw11 xw1093) rfl rfl rfl (by decide +kernel) ⟨Nat.le_of_ble_eq_true rfl, Nat.le_of_ble_eq_true rfl⟩) preEq rfl rfl hl.1 rfl (lv_room (Nat.le_of_ble_eq_true rfl)) d_M_tagOf_2 ⟨Nat.le_of_ble_eq_true rfl, Nat.le_of_ble_eq_true rfl⟩) (fun r_ e_ => ?_)
  subst e_
  refine lv_iload_n hx hb d_M_tagOf_5 rfl (lv_at hl 1 rfl) ?_
  refine lv_i2l (v := x1.toInt64) hx hb d_M_tagOf_6 (by rfl) ?_
  refine vp_callSl (W.runS (As := [.long (g_mix (0 : Int64) x0), .long x1.toInt64]) (rest := []) ⟨hx, hb, hml, hown, hts⟩ (c_M_mix l (g_mix (0 : Int64) x0) x1.toInt64) (cwS 2 hts (xa_S xw1091 xw1092 xw11 xw1093) rfl rfl rfl (by decide +kernel) ⟨Nat.le_of_ble_eq_true rfl, Nat.le_of_ble_eq_true rfl⟩) preEq rfl rfl hl.1 rfl (lv_room (Nat.le_of_ble_eq_true rfl)) d_M_tagOf_7 ⟨Nat.le_of_ble_eq_true rfl, Nat.le_of_ble_eq_true rfl⟩) (fun r_ e_ => ?_)
  subst e_
  refine lv_iload_n hx hb d_M_tagOf_10 rfl (lv_at hl 2 rfl) ?_
  refine lv_i2l (v := x2.toInt64) hx hb d_M_tagOf_11 (by rfl) ?_
  refine vp_callSl (W.runS (As := [.long (g_mix (g_mix (0 : Int64) x0) x1.toInt64), .long x2.toInt64]) (rest := []) ⟨hx, hb, hml, hown, hts⟩ (c_M_mix l (g_mix (g_mix (0 : Int64) x0) x1.toInt64) x2.toInt64) (cwS 2 hts (xa_S xw1091 xw1092 xw11 xw1093) rfl rfl rfl (by decide +kernel) ⟨Nat.le_of_ble_eq_true rfl, Nat.le_of_ble_eq_true rfl⟩) preEq rfl rfl hl.1 rfl (lv_room (Nat.le_of_ble_eq_true rfl)) d_M_tagOf_12 ⟨Nat.le_of_ble_eq_true rfl, Nat.le_of_ble_eq_true rfl⟩) (fun r_ e_ => ?_)
  subst e_
  refine lv_iload hx hb d_M_tagOf_15 (lv_at hl 3 rfl) ?_
  refine lv_i2l (v := x3.toInt64) hx hb d_M_tagOf_17 (by rfl) ?_
  refine vp_callSl (W.runS (As := [.long (g_mix (g_mix (g_mix (0 : Int64) x0) x1.toInt64) x2.toInt64), .long x3.toInt64]) (rest := []) ⟨hx, hb, hml, hown, hts⟩ (c_M_mix l (g_mix (g_mix (g_mix (0 : Int64) x0) x1.toInt64) x2.toInt64) x3.toInt64) (cwS 2 hts (xa_S xw1091 xw1092 xw11 xw1093) rfl rfl rfl (by decide +kernel) ⟨Nat.le_of_ble_eq_true rfl, Nat.le_of_ble_eq_true rfl⟩) preEq rfl rfl hl.1 rfl (lv_room (Nat.le_of_ble_eq_true rfl)) d_M_tagOf_18 ⟨Nat.le_of_ble_eq_true rfl, Nat.le_of_ble_eq_true rfl⟩) (fun r_ e_ => ?_)
  subst e_
  refine lv_lstore (lv' := [(13, .long (g_mix (g_mix (g_mix (g_mix (0 : Int64) x0) x1.toInt64) x2.toInt64) x3.toInt64)), (0, .long x0), (2, .int x1), (3, .int x2), (4, .int x3), (5, .long x4), (7, .long x5), (9, .long x6), (11, .long x7)]) hx hb d_M_tagOf_21 hl (by decide) rfl (fun ls hl => ?_)
  refine lv_lload hx hb d_M_tagOf_23 (lv_at hl 0 rfl) ?_
  refine lv_lload hx hb d_M_tagOf_25 (lv_at hl 5 rfl) ?_
  refine vp_callSl (W.runS (As := [.long (g_mix (g_mix (g_mix (g_mix (0 : Int64) x0) x1.toInt64) x2.toInt64) x3.toInt64), .long x4]) (rest := []) ⟨hx, hb, hml, hown, hts⟩ (c_M_mix l (g_mix (g_mix (g_mix (g_mix (0 : Int64) x0) x1.toInt64) x2.toInt64) x3.toInt64) x4) (cwS 2 hts (xa_S xw1091 xw1092 xw11 xw1093) rfl rfl rfl (by decide +kernel) ⟨Nat.le_of_ble_eq_true rfl, Nat.le_of_ble_eq_true rfl⟩) preEq rfl rfl hl.1 rfl (lv_room (Nat.le_of_ble_eq_true rfl)) d_M_tagOf_27 ⟨Nat.le_of_ble_eq_true rfl, Nat.le_of_ble_eq_true rfl⟩) (fun r_ e_ => ?_)
  subst e_
  refine lv_lload hx hb d_M_tagOf_30 (lv_at hl 6 rfl) ?_
  refine vp_callSl (W.runS (As := [.long (g_mix (g_mix (g_mix (g_mix (g_mix (0 : Int64) x0) x1.toInt64) x2.toInt64) x3.toInt64) x4), .long x5]) (rest := []) ⟨hx, hb, hml, hown, hts⟩ (c_M_mix l (g_mix (g_mix (g_mix (g_mix (g_mix (0 : Int64) x0) x1.toInt64) x2.toInt64) x3.toInt64) x4) x5) (cwS 2 hts (xa_S xw1091 xw1092 xw11 xw1093) rfl rfl rfl (by decide +kernel) ⟨Nat.le_of_ble_eq_true rfl, Nat.le_of_ble_eq_true rfl⟩) preEq rfl rfl hl.1 rfl (lv_room (Nat.le_of_ble_eq_true rfl)) d_M_tagOf_32 ⟨Nat.le_of_ble_eq_true rfl, Nat.le_of_ble_eq_true rfl⟩) (fun r_ e_ => ?_)
  subst e_
  refine lv_lload hx hb d_M_tagOf_35 (lv_at hl 7 rfl) ?_
  refine vp_callSl (W.runS (As := [.long (g_mix (g_mix (g_mix (g_mix (g_mix (g_mix (0 : Int64) x0) x1.toInt64) x2.toInt64) x3.toInt64) x4) x5), .long x6]) (rest := []) ⟨hx, hb, hml, hown, hts⟩ (c_M_mix l (g_mix (g_mix (g_mix (g_mix (g_mix (g_mix (0 : Int64) x0) x1.toInt64) x2.toInt64) x3.toInt64) x4) x5) x6) (cwS 2 hts (xa_S xw1091 xw1092 xw11 xw1093) rfl rfl rfl (by decide +kernel) ⟨Nat.le_of_ble_eq_true rfl, Nat.le_of_ble_eq_true rfl⟩) preEq rfl rfl hl.1 rfl (lv_room (Nat.le_of_ble_eq_true rfl)) d_M_tagOf_37 ⟨Nat.le_of_ble_eq_true rfl, Nat.le_of_ble_eq_true rfl⟩) (fun r_ e_ => ?_)
  subst e_
  refine lv_lload hx hb d_M_tagOf_40 (lv_at hl 8 rfl) ?_
  refine vp_callSl (W.runS (As := [.long (g_mix (g_mix (g_mix (g_mix (g_mix (g_mix (g_mix (0 : Int64) x0) x1.toInt64) x2.toInt64) x3.toInt64) x4) x5) x6), .long x7]) (rest := []) ⟨hx, hb, hml, hown, hts⟩ (c_M_mix l (g_mix (g_mix (g_mix (g_mix (g_mix (g_mix (g_mix (0 : Int64) x0) x1.toInt64) x2.toInt64) x3.toInt64) x4) x5) x6) x7) (cwS 2 hts (xa_S xw1091 xw1092 xw11 xw1093) rfl rfl rfl (by decide +kernel) ⟨Nat.le_of_ble_eq_true rfl, Nat.le_of_ble_eq_true rfl⟩) preEq rfl rfl hl.1 rfl (lv_room (Nat.le_of_ble_eq_true rfl)) d_M_tagOf_42 ⟨Nat.le_of_ble_eq_true rfl, Nat.le_of_ble_eq_true rfl⟩) (fun r_ e_ => ?_)
  subst e_
  exact W.lret (v := (g_mix (g_mix (g_mix (g_mix (g_mix (g_mix (g_mix (g_mix (0 : Int64) x0) x1.toInt64) x2.toInt64) x3.toInt64) x4) x5) x6) x7)) hx hb hr (fun t ht_ hW => ⟨_, rfl, rfl, ht_⟩) (fun _ h_ => nomatch h_) d_M_tagOf_45
abbrev b_M_mask : ByteArray := prog_12_method_13_code
def y_M_mask : MethodName := ⟨"SecurePairModel", "mask", "(JIII)J"⟩
abbrev w_M_mask : List Cond := .code y_M_mask b_M_mask 5 (some .long) :: xa
theorem d_M_mask_0 : decode b_M_mask 0 = .ok (.lconst 0, 1) := by decide +kernel
theorem d_M_mask_1 : decode b_M_mask 1 = .ok (.lload_n 0, 1) := by decide +kernel
theorem d_M_mask_2 : decode b_M_mask 2 = .ok (.invokestatic 142, 3) := by decide +kernel
theorem d_M_mask_5 : decode b_M_mask 5 = .ok (.iload_n 2, 1) := by decide +kernel
theorem d_M_mask_6 : decode b_M_mask 6 = .ok (.i2l, 1) := by decide +kernel
theorem d_M_mask_7 : decode b_M_mask 7 = .ok (.invokestatic 142, 3) := by decide +kernel
theorem d_M_mask_10 : decode b_M_mask 10 = .ok (.iload_n 3, 1) := by decide +kernel
theorem d_M_mask_11 : decode b_M_mask 11 = .ok (.i2l, 1) := by decide +kernel
theorem d_M_mask_12 : decode b_M_mask 12 = .ok (.invokestatic 142, 3) := by decide +kernel
theorem d_M_mask_15 : decode b_M_mask 15 = .ok (.iload 4, 2) := by decide +kernel
theorem d_M_mask_17 : decode b_M_mask 17 = .ok (.i2l, 1) := by decide +kernel
theorem d_M_mask_18 : decode b_M_mask 18 = .ok (.invokestatic 142, 3) := by decide +kernel
theorem d_M_mask_21 : decode b_M_mask 21 = .ok (.lreturn, 1) := by decide +kernel
def g_mask (x0 : Int64) (x1 : Int32) (x2 : Int32) (x3 : Int32) : Int64 := (g_mix (g_mix (g_mix (g_mix (0 : Int64) x0) x1.toInt64) x2.toInt64) x3.toInt64)
set_option maxHeartbeats 4000000 in
set_option maxRecDepth 100000 in
theorem c_M_mask (l : Launch) (x0 : Int64) (x1 : Int32) (x2 : Int32) (x3 : Int32) : Met l y_M_mask w_M_mask ({ frames := 1, cells := 0, slots := 0, locals := 25 }) (fun av_ _ => av_ = ([.long x0, .int x1, .int x2, .int x3] : List Value).toArray) (vp_Sl (fun r => r = g_mask x0 x1 x2 x3)) 0 0 (fun _ => False) := by
  refine Met.ofW (cc := b_M_mask) (maxL := 5) (ret := (some .long)) (by decide) rfl ?_
  intro p e s m args below meth c s₁ B hml hv
  subst hv
  have hx := B.exec
  have hb := B.bytes
  have hr := B.returns
  have hts := atoms_spec (ws := w_M_mask) B.pre
  have ht : ∀ w ∈ xa, w.before _ s = true := fun w h => hts w (List.mem_cons_of_mem _ h)
  have hown : s.vm.findClass "SecurePairModel" = some m.cls := findClass_of_methodNamed B.named
  have hlocks := B.notSynchronized
  have hl := lv_entry ([.long x0, .int x1, .int x2, .int x3]) (n := 5) (Nat.le_of_ble_eq_true rfl)
  rw [lg_entry_eq]
  generalize (lg_sl ([.long x0, .int x1, .int x2, .int x3]) ++ List.replicate (5 - (lg_sl ([.long x0, .int x1, .int x2, .int x3])).length) Slot.unset).toArray = ls at hl ⊢
  have hl : lv_has ls 5 [(0, .long x0), (2, .int x1), (3, .int x2), (4, .int x3)] := hl
  refine lv_lconst (v := 0) hx hb d_M_mask_0 (by decide) ?_
  refine lv_lload_n hx hb d_M_mask_1 rfl (lv_at hl 0 rfl) ?_
  refine vp_callSl (W.runS (As := [.long (0 : Int64), .long x0]) (rest := []) ⟨hx, hb, hml, hown, hts⟩ (c_M_mix l (0 : Int64) x0) (cwS 2 hts (xa_S xw1091 xw1092 xw11 xw1093) rfl rfl rfl (by decide +kernel) ⟨Nat.le_of_ble_eq_true rfl, Nat.le_of_ble_eq_true rfl⟩) preEq rfl rfl hl.1 rfl (lv_room (Nat.le_of_ble_eq_true rfl)) d_M_mask_2 ⟨Nat.le_of_ble_eq_true rfl, Nat.le_of_ble_eq_true rfl⟩) (fun r_ e_ => ?_)
  subst e_
  refine lv_iload_n hx hb d_M_mask_5 rfl (lv_at hl 1 rfl) ?_
  refine lv_i2l (v := x1.toInt64) hx hb d_M_mask_6 (by rfl) ?_
  refine vp_callSl (W.runS (As := [.long (g_mix (0 : Int64) x0), .long x1.toInt64]) (rest := []) ⟨hx, hb, hml, hown, hts⟩ (c_M_mix l (g_mix (0 : Int64) x0) x1.toInt64) (cwS 2 hts (xa_S xw1091 xw1092 xw11 xw1093) rfl rfl rfl (by decide +kernel) ⟨Nat.le_of_ble_eq_true rfl, Nat.le_of_ble_eq_true rfl⟩) preEq rfl rfl hl.1 rfl (lv_room (Nat.le_of_ble_eq_true rfl)) d_M_mask_7 ⟨Nat.le_of_ble_eq_true rfl, Nat.le_of_ble_eq_true rfl⟩) (fun r_ e_ => ?_)
  subst e_
  refine lv_iload_n hx hb d_M_mask_10 rfl (lv_at hl 2 rfl) ?_
  refine lv_i2l (v := x2.toInt64) hx hb d_M_mask_11 (by rfl) ?_
  refine vp_callSl (W.runS (As := [.long (g_mix (g_mix (0 : Int64) x0) x1.toInt64), .long x2.toInt64]) (rest := []) ⟨hx, hb, hml, hown, hts⟩ (c_M_mix l (g_mix (g_mix (0 : Int64) x0) x1.toInt64) x2.toInt64) (cwS 2 hts (xa_S xw1091 xw1092 xw11 xw1093) rfl rfl rfl (by decide +kernel) ⟨Nat.le_of_ble_eq_true rfl, Nat.le_of_ble_eq_true rfl⟩) preEq rfl rfl hl.1 rfl (lv_room (Nat.le_of_ble_eq_true rfl)) d_M_mask_12 ⟨Nat.le_of_ble_eq_true rfl, Nat.le_of_ble_eq_true rfl⟩) (fun r_ e_ => ?_)
  subst e_
  refine lv_iload hx hb d_M_mask_15 (lv_at hl 3 rfl) ?_
  refine lv_i2l (v := x3.toInt64) hx hb d_M_mask_17 (by rfl) ?_
  refine vp_callSl (W.runS (As := [.long (g_mix (g_mix (g_mix (0 : Int64) x0) x1.toInt64) x2.toInt64), .long x3.toInt64]) (rest := []) ⟨hx, hb, hml, hown, hts⟩ (c_M_mix l (g_mix (g_mix (g_mix (0 : Int64) x0) x1.toInt64) x2.toInt64) x3.toInt64) (cwS 2 hts (xa_S xw1091 xw1092 xw11 xw1093) rfl rfl rfl (by decide +kernel) ⟨Nat.le_of_ble_eq_true rfl, Nat.le_of_ble_eq_true rfl⟩) preEq rfl rfl hl.1 rfl (lv_room (Nat.le_of_ble_eq_true rfl)) d_M_mask_18 ⟨Nat.le_of_ble_eq_true rfl, Nat.le_of_ble_eq_true rfl⟩) (fun r_ e_ => ?_)
  subst e_
  exact W.lret (v := (g_mix (g_mix (g_mix (g_mix (0 : Int64) x0) x1.toInt64) x2.toInt64) x3.toInt64)) hx hb hr (fun t ht_ hW => ⟨_, rfl, rfl, ht_⟩) (fun _ h_ => nomatch h_) d_M_mask_21
abbrev b_M_isChannel : ByteArray := prog_12_method_33_code
def y_M_isChannel : MethodName := ⟨"SecurePairModel", "isChannel", "(II)Z"⟩
abbrev w_M_isChannel : List Cond := .code y_M_isChannel b_M_isChannel 2 (some .boolean) :: xa
theorem d_M_isChannel_0 : decode b_M_isChannel 0 = .ok (.iload_n 0, 1) := by decide +kernel
theorem d_M_isChannel_1 : decode b_M_isChannel 1 = .ok (.invokestatic 169, 3) := by decide +kernel
theorem d_M_isChannel_4 : decode b_M_isChannel 4 = .ok (.ifCond .eq 16, 3) := by decide +kernel
theorem d_M_isChannel_7 : decode b_M_isChannel 7 = .ok (.iload_n 1, 1) := by decide +kernel
theorem d_M_isChannel_8 : decode b_M_isChannel 8 = .ok (.ifCond .lt 12, 3) := by decide +kernel
theorem d_M_isChannel_11 : decode b_M_isChannel 11 = .ok (.iload_n 1, 1) := by decide +kernel
theorem d_M_isChannel_12 : decode b_M_isChannel 12 = .ok (.iconst 2, 1) := by decide +kernel
theorem d_M_isChannel_13 : decode b_M_isChannel 13 = .ok (.if_icmp .gt 7, 3) := by decide +kernel
theorem d_M_isChannel_16 : decode b_M_isChannel 16 = .ok (.iconst 1, 1) := by decide +kernel
theorem d_M_isChannel_17 : decode b_M_isChannel 17 = .ok (.goto 4, 3) := by decide +kernel
theorem d_M_isChannel_20 : decode b_M_isChannel 20 = .ok (.iconst 0, 1) := by decide +kernel
theorem d_M_isChannel_21 : decode b_M_isChannel 21 = .ok (.ireturn, 1) := by decide +kernel
theorem xw1073 : (Cond.methodLink "SecurePairModel" (169 : Nat) ({ cls := "SecurePairModel", name := "isEnd", desc := "(I)Z" } : MethodName)) ∈ xa := xa_t 1073 (by decide +kernel) (by decide +kernel)
theorem xw1074 : (Cond.static ({ cls := "SecurePairModel", name := "isEnd", desc := "(I)Z" } : MethodName)) ∈ xa := xa_t 1074 (by decide +kernel) (by decide +kernel)
theorem xw1075 : (Cond.code ({ cls := "SecurePairModel", name := "isEnd", desc := "(I)Z" } : MethodName) prog_12_method_4_code (1 : Nat) (Option.some ClassFile.FieldType.boolean)) ∈ xa := xa_t 1075 (by decide +kernel) (by decide +kernel)
def g_isChannel (x0 : Int32) (x1 : Int32) : Int32 := (if (g_isEnd x0) = 0 then (0 : Int32) else (if x1 < 0 then (0 : Int32) else (if (2 : Int32) < x1 then (0 : Int32) else (1 : Int32))))
set_option maxHeartbeats 4000000 in
set_option maxRecDepth 100000 in
theorem c_M_isChannel (l : Launch) (x0 : Int32) (x1 : Int32) : Met l y_M_isChannel w_M_isChannel ({ frames := 1, cells := 0, slots := 0, locals := 20 }) (fun av_ _ => av_ = ([.int x0, .int x1] : List Value).toArray) (vp_Si (fun r => r = g_isChannel x0 x1)) 0 0 (fun _ => False) := by
  refine Met.ofW (cc := b_M_isChannel) (maxL := 2) (ret := (some .boolean)) (by decide) rfl ?_
  intro p e s m args below meth c s₁ B hml hv
  subst hv
  have hx := B.exec
  have hb := B.bytes
  have hr := B.returns
  have hts := atoms_spec (ws := w_M_isChannel) B.pre
  have ht : ∀ w ∈ xa, w.before _ s = true := fun w h => hts w (List.mem_cons_of_mem _ h)
  have hown : s.vm.findClass "SecurePairModel" = some m.cls := findClass_of_methodNamed B.named
  have hlocks := B.notSynchronized
  have hl := lv_entry ([.int x0, .int x1]) (n := 2) (Nat.le_of_ble_eq_true rfl)
  rw [lg_entry_eq]
  generalize (lg_sl ([.int x0, .int x1]) ++ List.replicate (2 - (lg_sl ([.int x0, .int x1])).length) Slot.unset).toArray = ls at hl ⊢
  have hl : lv_has ls 2 [(0, .int x0), (1, .int x1)] := hl
  refine lv_iload_n hx hb d_M_isChannel_0 rfl (lv_at hl 0 rfl) ?_
  refine vp_callSi (W.runS (As := [.int x0]) (rest := []) ⟨hx, hb, hml, hown, hts⟩ (c_M_isEnd l x0) (cwS 1 hts (xa_S xw1073 xw1074 xw11 xw1075) rfl rfl rfl (by decide +kernel) ⟨Nat.le_of_ble_eq_true rfl, Nat.le_of_ble_eq_true rfl⟩) preEq rfl rfl hl.1 rfl (lv_room (Nat.le_of_ble_eq_true rfl)) d_M_isChannel_1 ⟨Nat.le_of_ble_eq_true rfl, Nat.le_of_ble_eq_true rfl⟩) (fun r_ e_ => ?_)
  subst e_
  refine lv_if_eq (tgt := 20) hx hb d_M_isChannel_4 (by decide) (fun c1 => ?_) (fun c1 => ?_)
  · skip
    refine lv_iconst (v := 0) hx hb d_M_isChannel_20 (by decide) ?_
    exact W.zret (v := (0 : Int32)) hx hb hr rfl (fun t ht_ hW => ⟨_, rfl, ((if_pos c1)).symm, ht_⟩) (fun _ h_ => nomatch h_) d_M_isChannel_21
  · skip
    refine lv_iload_n hx hb d_M_isChannel_7 rfl (lv_at hl 1 rfl) ?_
    refine lv_if_lt (tgt := 20) hx hb d_M_isChannel_8 (by decide) (fun c2 => ?_) (fun c2 => ?_)
    · skip
      refine lv_iconst (v := 0) hx hb d_M_isChannel_20 (by decide) ?_
      exact W.zret (v := (0 : Int32)) hx hb hr rfl (fun t ht_ hW => ⟨_, rfl, ((if_neg c1).trans ((if_pos c2))).symm, ht_⟩) (fun _ h_ => nomatch h_) d_M_isChannel_21
    · skip
      refine lv_iload_n hx hb d_M_isChannel_11 rfl (lv_at hl 1 rfl) ?_
      refine lv_iconst (v := 2) hx hb d_M_isChannel_12 (by decide) ?_
      refine lv_icmp_gt (tgt := 20) hx hb d_M_isChannel_13 (by decide) (fun c3 => ?_) (fun c3 => ?_)
      · skip
        refine lv_iconst (v := 0) hx hb d_M_isChannel_20 (by decide) ?_
        exact W.zret (v := (0 : Int32)) hx hb hr rfl (fun t ht_ hW => ⟨_, rfl, ((if_neg c1).trans ((if_neg c2).trans ((if_pos c3)))).symm, ht_⟩) (fun _ h_ => nomatch h_) d_M_isChannel_21
      · skip
        refine lv_iconst (v := 1) hx hb d_M_isChannel_16 (by decide) ?_
        refine lv_goto (tgt := 21) hx hb d_M_isChannel_17 (by decide) ?_
        exact W.zret (v := (1 : Int32)) hx hb hr rfl (fun t ht_ hW => ⟨_, rfl, ((if_neg c1).trans ((if_neg c2).trans ((if_neg c3)))).symm, ht_⟩) (fun _ h_ => nomatch h_) d_M_isChannel_21
abbrev b_M_power : ByteArray := prog_12_method_6_code
def y_M_power : MethodName := ⟨"SecurePairModel", "power", "(JJ)J"⟩
abbrev w_M_power : List Cond := .code y_M_power b_M_power 10 (some .long) :: xa
theorem d_M_power_0 : decode b_M_power 0 = .ok (.lconst 1, 1) := by decide +kernel
theorem d_M_power_1 : decode b_M_power 1 = .ok (.lstore 4, 2) := by decide +kernel
theorem d_M_power_3 : decode b_M_power 3 = .ok (.lload_n 0, 1) := by decide +kernel
theorem d_M_power_4 : decode b_M_power 4 = .ok (.ldc2_w 130, 3) := by decide +kernel
theorem d_M_power_7 : decode b_M_power 7 = .ok (.lrem, 1) := by decide +kernel
theorem d_M_power_8 : decode b_M_power 8 = .ok (.lstore 6, 2) := by decide +kernel
theorem d_M_power_10 : decode b_M_power 10 = .ok (.lload_n 2, 1) := by decide +kernel
theorem d_M_power_11 : decode b_M_power 11 = .ok (.lstore 8, 2) := by decide +kernel
theorem d_M_power_13 : decode b_M_power 13 = .ok (.lload 8, 2) := by decide +kernel
theorem d_M_power_15 : decode b_M_power 15 = .ok (.lconst 0, 1) := by decide +kernel
theorem d_M_power_16 : decode b_M_power 16 = .ok (.lcmp, 1) := by decide +kernel
theorem d_M_power_17 : decode b_M_power 17 = .ok (.ifCond .le 43, 3) := by decide +kernel
theorem d_M_power_20 : decode b_M_power 20 = .ok (.lload 8, 2) := by decide +kernel
theorem d_M_power_22 : decode b_M_power 22 = .ok (.lconst 1, 1) := by decide +kernel
theorem d_M_power_23 : decode b_M_power 23 = .ok (.land, 1) := by decide +kernel
theorem d_M_power_24 : decode b_M_power 24 = .ok (.lconst 1, 1) := by decide +kernel
theorem d_M_power_25 : decode b_M_power 25 = .ok (.lcmp, 1) := by decide +kernel
theorem d_M_power_26 : decode b_M_power 26 = .ok (.ifCond .ne 14, 3) := by decide +kernel
theorem d_M_power_29 : decode b_M_power 29 = .ok (.lload 4, 2) := by decide +kernel
theorem d_M_power_31 : decode b_M_power 31 = .ok (.lload 6, 2) := by decide +kernel
theorem d_M_power_33 : decode b_M_power 33 = .ok (.lmul, 1) := by decide +kernel
theorem d_M_power_34 : decode b_M_power 34 = .ok (.ldc2_w 130, 3) := by decide +kernel
theorem d_M_power_37 : decode b_M_power 37 = .ok (.lrem, 1) := by decide +kernel
theorem d_M_power_38 : decode b_M_power 38 = .ok (.lstore 4, 2) := by decide +kernel
theorem d_M_power_40 : decode b_M_power 40 = .ok (.lload 6, 2) := by decide +kernel
theorem d_M_power_42 : decode b_M_power 42 = .ok (.lload 6, 2) := by decide +kernel
theorem d_M_power_44 : decode b_M_power 44 = .ok (.lmul, 1) := by decide +kernel
theorem d_M_power_45 : decode b_M_power 45 = .ok (.ldc2_w 130, 3) := by decide +kernel
theorem d_M_power_48 : decode b_M_power 48 = .ok (.lrem, 1) := by decide +kernel
theorem d_M_power_49 : decode b_M_power 49 = .ok (.lstore 6, 2) := by decide +kernel
theorem d_M_power_51 : decode b_M_power 51 = .ok (.lload 8, 2) := by decide +kernel
theorem d_M_power_53 : decode b_M_power 53 = .ok (.iconst 1, 1) := by decide +kernel
theorem d_M_power_54 : decode b_M_power 54 = .ok (.lshr, 1) := by decide +kernel
theorem d_M_power_55 : decode b_M_power 55 = .ok (.lstore 8, 2) := by decide +kernel
theorem d_M_power_57 : decode b_M_power 57 = .ok (.goto (-44), 3) := by decide +kernel
theorem d_M_power_60 : decode b_M_power 60 = .ok (.lload 4, 2) := by decide +kernel
theorem d_M_power_62 : decode b_M_power 62 = .ok (.lreturn, 1) := by decide +kernel
theorem xw1137 : (Cond.constantLong "SecurePairModel" (130 : Nat) (2147483647 : Int64)) ∈ xa := xa_t 1137 (by decide +kernel) (by decide +kernel)
def g_power (x0 : Int64) (x1 : Int64) : Int64 := f_pw 63 1 (xb_lrem x0 (2147483647 : Int64)) x1
set_option maxHeartbeats 4000000 in
set_option maxRecDepth 100000 in
theorem c_M_power (l : Launch) (x0 x1 : Int64) : Met l y_M_power w_M_power ({ frames := 0, cells := 0, slots := 0, locals := 0 }) (fun av_ _ => av_ = ([.long x0, .long x1] : List Value).toArray) (vp_Sl (fun r => r = g_power x0 x1)) 0 0 (fun _ => False) := by
  refine Met.ofW (cc := b_M_power) (maxL := 10) (ret := (some .long)) (by decide) rfl ?_
  intro p e s m args below meth c s₁ B hml hv
  subst hv
  have hx := B.exec
  have hb := B.bytes
  have hr := B.returns
  have hts := atoms_spec (ws := w_M_power) B.pre
  have ht : ∀ w ∈ xa, w.before _ s = true := fun w h => hts w (List.mem_cons_of_mem _ h)
  have hown : s.vm.findClass "SecurePairModel" = some m.cls := findClass_of_methodNamed B.named
  have hlocks := B.notSynchronized
  have loop : ∀ (n : Nat), ∀ (r_ q_ e_ : Int64) (ls : Array Slot), lv_has ls 10 [(8, .long e_), (6, .long q_), (4, .long r_), (0, .long x0), (2, .long x1)] → (hlt : e_.toInt < 2 ^ n) → f_pw n r_ q_ e_ = g_power x0 x1 → W p l e (headSpec w_M_power ({ frames := 0, cells := 0, slots := 0, locals := 0 })).room s m ([.long x0, .long x1] : List Value).toArray below meth c s.heap [] 0 0 (MQ below (vp_Sl (fun r => r = g_power x0 x1)) ([.long x0, .long x1] : List Value).toArray s 0 0 (fun _ => False)) (F0 m 13 ls []) := by
    intro n
    induction n with
    | zero =>
      intro r_ q_ e_ ls hl hlt hF
      have h0 : e_ ≤ 0 := by rw [Int64.le_iff_toInt_le]; show e_.toInt ≤ 0; omega
      refine lv_lload hx hb d_M_power_13 (lv_at hl 0 rfl) ?_
      refine lv_lconst (v := 0) hx hb d_M_power_15 (by decide) ?_
      refine xb_lle (tgt := 60) hx hb d_M_power_16 d_M_power_17 (by decide) (fun _ => ?_) (fun h_ => absurd h0 h_)
      refine lv_lload hx hb d_M_power_60 (lv_at hl 2 rfl) ?_
      exact W.lret (v := r_) hx hb hr (fun t ht_ hW => ⟨_, rfl, hF, ht_⟩) (fun _ h_ => nomatch h_) d_M_power_62
    | succ n ih =>
      intro r_ q_ e_ ls hl hlt hF
      rw [f_pw_s] at hF
      refine lv_lload hx hb d_M_power_13 (lv_at hl 0 rfl) ?_
      refine lv_lconst (v := 0) hx hb d_M_power_15 (by decide) ?_
      refine xb_lle (tgt := 60) hx hb d_M_power_16 d_M_power_17 (by decide) (fun c1 => ?_) (fun c1 => ?_)
      · skip
        refine lv_lload hx hb d_M_power_60 (lv_at hl 2 rfl) ?_
        exact W.lret (v := r_) hx hb hr (fun t ht_ hW => ⟨_, rfl, (((if_pos c1)).symm.trans hF), ht_⟩) (fun _ h_ => nomatch h_) d_M_power_62
      · skip
        refine lv_lload hx hb d_M_power_20 (lv_at hl 0 rfl) ?_
        refine lv_lconst (v := 1) hx hb d_M_power_22 (by decide) ?_
        refine lv_land hx hb d_M_power_23 ?_
        refine lv_lconst (v := 1) hx hb d_M_power_24 (by decide) ?_
        refine xb_lne (tgt := 40) hx hb d_M_power_25 d_M_power_26 (by decide) (fun c2 => ?_) (fun c2 => ?_)
        · skip
          refine lv_lload hx hb d_M_power_40 (lv_at hl 1 rfl) ?_
          refine lv_lload hx hb d_M_power_42 (lv_at hl 1 rfl) ?_
          refine lv_lmul hx hb d_M_power_44 ?_
          refine lv_ldc2 hx hb hown (ht _ xw1137) d_M_power_45 ?_
          refine lv_lrem hx hb d_M_power_48 (by decide) ?_
          refine lv_lstore (lv' := [(6, .long (xb_lrem (q_ * q_) (2147483647 : Int64))), (8, .long e_), (4, .long r_), (0, .long x0), (2, .long x1)]) hx hb d_M_power_49 hl (by decide) rfl (fun ls hl => ?_)
          refine lv_lload hx hb d_M_power_51 (lv_at hl 1 rfl) ?_
          refine lv_iconst (v := 1) hx hb d_M_power_53 (by decide) ?_
          refine lv_lshr (v := (xb_lshr e_ (1 : Int32))) hx hb d_M_power_54 rfl ?_
          refine lv_lstore (lv' := [(8, .long (xb_lshr e_ (1 : Int32))), (6, .long (xb_lrem (q_ * q_) (2147483647 : Int64))), (4, .long r_), (0, .long x0), (2, .long x1)]) hx hb d_M_power_55 hl (by decide) rfl (fun ls hl => ?_)
          refine lv_goto (tgt := 13) hx hb d_M_power_57 (by decide) ?_
          exact ih _ _ _ ls hl (xb_half c1 hlt) (((if_neg c1).trans ((if_neg c2))).symm.trans hF)
        · skip
          refine lv_lload hx hb d_M_power_29 (lv_at hl 2 rfl) ?_
          refine lv_lload hx hb d_M_power_31 (lv_at hl 1 rfl) ?_
          refine lv_lmul hx hb d_M_power_33 ?_
          refine lv_ldc2 hx hb hown (ht _ xw1137) d_M_power_34 ?_
          refine lv_lrem hx hb d_M_power_37 (by decide) ?_
          refine lv_lstore (lv' := [(4, .long (xb_lrem (r_ * q_) (2147483647 : Int64))), (8, .long e_), (6, .long q_), (0, .long x0), (2, .long x1)]) hx hb d_M_power_38 hl (by decide) rfl (fun ls hl => ?_)
          refine lv_lload hx hb d_M_power_40 (lv_at hl 2 rfl) ?_
          refine lv_lload hx hb d_M_power_42 (lv_at hl 2 rfl) ?_
          refine lv_lmul hx hb d_M_power_44 ?_
          refine lv_ldc2 hx hb hown (ht _ xw1137) d_M_power_45 ?_
          refine lv_lrem hx hb d_M_power_48 (by decide) ?_
          refine lv_lstore (lv' := [(6, .long (xb_lrem (q_ * q_) (2147483647 : Int64))), (4, .long (xb_lrem (r_ * q_) (2147483647 : Int64))), (8, .long e_), (0, .long x0), (2, .long x1)]) hx hb d_M_power_49 hl (by decide) rfl (fun ls hl => ?_)
          refine lv_lload hx hb d_M_power_51 (lv_at hl 2 rfl) ?_
          refine lv_iconst (v := 1) hx hb d_M_power_53 (by decide) ?_
          refine lv_lshr (v := (xb_lshr e_ (1 : Int32))) hx hb d_M_power_54 rfl ?_
          refine lv_lstore (lv' := [(8, .long (xb_lshr e_ (1 : Int32))), (6, .long (xb_lrem (q_ * q_) (2147483647 : Int64))), (4, .long (xb_lrem (r_ * q_) (2147483647 : Int64))), (0, .long x0), (2, .long x1)]) hx hb d_M_power_55 hl (by decide) rfl (fun ls hl => ?_)
          refine lv_goto (tgt := 13) hx hb d_M_power_57 (by decide) ?_
          exact ih _ _ _ ls hl (xb_half c1 hlt) (((if_neg c1).trans ((if_pos c2))).symm.trans hF)
  have hl := lv_entry ([.long x0, .long x1]) (n := 10) (Nat.le_of_ble_eq_true rfl)
  rw [lg_entry_eq]
  generalize (lg_sl ([.long x0, .long x1]) ++ List.replicate (10 - (lg_sl ([.long x0, .long x1])).length) Slot.unset).toArray = ls at hl ⊢
  have hl : lv_has ls 10 [(0, .long x0), (2, .long x1)] := hl
  refine lv_lconst (v := 1) hx hb d_M_power_0 (by decide) ?_
  refine lv_lstore (lv' := [(4, .long (1 : Int64)), (0, .long x0), (2, .long x1)]) hx hb d_M_power_1 hl (by decide) rfl (fun ls hl => ?_)
  refine lv_lload_n hx hb d_M_power_3 rfl (lv_at hl 1 rfl) ?_
  refine lv_ldc2 hx hb hown (ht _ xw1137) d_M_power_4 ?_
  refine lv_lrem hx hb d_M_power_7 (by decide) ?_
  refine lv_lstore (lv' := [(6, .long (xb_lrem x0 (2147483647 : Int64))), (4, .long (1 : Int64)), (0, .long x0), (2, .long x1)]) hx hb d_M_power_8 hl (by decide) rfl (fun ls hl => ?_)
  refine lv_lload_n hx hb d_M_power_10 rfl (lv_at hl 3 rfl) ?_
  refine lv_lstore (lv' := [(8, .long x1), (6, .long (xb_lrem x0 (2147483647 : Int64))), (4, .long (1 : Int64)), (0, .long x0), (2, .long x1)]) hx hb d_M_power_11 hl (by decide) rfl (fun ls hl => ?_)
  exact loop 63 _ _ _ ls hl (xb_lt63 x1) rfl
abbrev b_M_verifies : ByteArray := prog_12_method_9_code
def y_M_verifies : MethodName := ⟨"SecurePairModel", "verifies", "(JJJJ)Z"⟩
abbrev w_M_verifies : List Cond := .code y_M_verifies b_M_verifies 10 (some .boolean) :: xa
theorem d_M_verifies_0 : decode b_M_verifies 0 = .ok (.lload_n 0, 1) := by decide +kernel
theorem d_M_verifies_1 : decode b_M_verifies 1 = .ok (.invokestatic 138, 3) := by decide +kernel
theorem d_M_verifies_4 : decode b_M_verifies 4 = .ok (.ifCond .eq 18, 3) := by decide +kernel
theorem d_M_verifies_7 : decode b_M_verifies 7 = .ok (.lload_n 2, 1) := by decide +kernel
theorem d_M_verifies_8 : decode b_M_verifies 8 = .ok (.invokestatic 138, 3) := by decide +kernel
theorem d_M_verifies_11 : decode b_M_verifies 11 = .ok (.ifCond .eq 11, 3) := by decide +kernel
theorem d_M_verifies_14 : decode b_M_verifies 14 = .ok (.lload 4, 2) := by decide +kernel
theorem d_M_verifies_16 : decode b_M_verifies 16 = .ok (.invokestatic 138, 3) := by decide +kernel
theorem d_M_verifies_19 : decode b_M_verifies 19 = .ok (.ifCond .ne 5, 3) := by decide +kernel
theorem d_M_verifies_22 : decode b_M_verifies 22 = .ok (.iconst 0, 1) := by decide +kernel
theorem d_M_verifies_23 : decode b_M_verifies 23 = .ok (.ireturn, 1) := by decide +kernel
theorem d_M_verifies_24 : decode b_M_verifies 24 = .ok (.lconst 0, 1) := by decide +kernel
theorem d_M_verifies_25 : decode b_M_verifies 25 = .ok (.lload_n 2, 1) := by decide +kernel
theorem d_M_verifies_26 : decode b_M_verifies 26 = .ok (.invokestatic 142, 3) := by decide +kernel
theorem d_M_verifies_29 : decode b_M_verifies 29 = .ok (.lload 6, 2) := by decide +kernel
theorem d_M_verifies_31 : decode b_M_verifies 31 = .ok (.invokestatic 142, 3) := by decide +kernel
theorem d_M_verifies_34 : decode b_M_verifies 34 = .ok (.bipush 34, 2) := by decide +kernel
theorem d_M_verifies_36 : decode b_M_verifies 36 = .ok (.lushr, 1) := by decide +kernel
theorem d_M_verifies_37 : decode b_M_verifies 37 = .ok (.lstore 8, 2) := by decide +kernel
theorem d_M_verifies_39 : decode b_M_verifies 39 = .ok (.ldc2_w 146, 3) := by decide +kernel
theorem d_M_verifies_42 : decode b_M_verifies 42 = .ok (.lload 4, 2) := by decide +kernel
theorem d_M_verifies_44 : decode b_M_verifies 44 = .ok (.invokestatic 148, 3) := by decide +kernel
theorem d_M_verifies_47 : decode b_M_verifies 47 = .ok (.lload_n 2, 1) := by decide +kernel
theorem d_M_verifies_48 : decode b_M_verifies 48 = .ok (.lload_n 0, 1) := by decide +kernel
theorem d_M_verifies_49 : decode b_M_verifies 49 = .ok (.lload 8, 2) := by decide +kernel
theorem d_M_verifies_51 : decode b_M_verifies 51 = .ok (.invokestatic 148, 3) := by decide +kernel
theorem d_M_verifies_54 : decode b_M_verifies 54 = .ok (.lmul, 1) := by decide +kernel
theorem d_M_verifies_55 : decode b_M_verifies 55 = .ok (.ldc2_w 130, 3) := by decide +kernel
theorem d_M_verifies_58 : decode b_M_verifies 58 = .ok (.lrem, 1) := by decide +kernel
theorem d_M_verifies_59 : decode b_M_verifies 59 = .ok (.lcmp, 1) := by decide +kernel
theorem d_M_verifies_60 : decode b_M_verifies 60 = .ok (.ifCond .ne 7, 3) := by decide +kernel
theorem d_M_verifies_63 : decode b_M_verifies 63 = .ok (.iconst 1, 1) := by decide +kernel
theorem d_M_verifies_64 : decode b_M_verifies 64 = .ok (.goto 4, 3) := by decide +kernel
theorem d_M_verifies_67 : decode b_M_verifies 67 = .ok (.iconst 0, 1) := by decide +kernel
theorem d_M_verifies_68 : decode b_M_verifies 68 = .ok (.ireturn, 1) := by decide +kernel
theorem xw1133 : (Cond.constantLong "SecurePairModel" (146 : Nat) (7 : Int64)) ∈ xa := xa_t 1133 (by decide +kernel) (by decide +kernel)
theorem xw1134 : (Cond.methodLink "SecurePairModel" (148 : Nat) ({ cls := "SecurePairModel", name := "power", desc := "(JJ)J" } : MethodName)) ∈ xa := xa_t 1134 (by decide +kernel) (by decide +kernel)
theorem xw1135 : (Cond.static ({ cls := "SecurePairModel", name := "power", desc := "(JJ)J" } : MethodName)) ∈ xa := xa_t 1135 (by decide +kernel) (by decide +kernel)
theorem xw1136 : (Cond.code ({ cls := "SecurePairModel", name := "power", desc := "(JJ)J" } : MethodName) prog_12_method_6_code (10 : Nat) (Option.some ClassFile.FieldType.long)) ∈ xa := xa_t 1136 (by decide +kernel) (by decide +kernel)
theorem xw1172 : (Cond.methodLink "SecurePairModel" (138 : Nat) ({ cls := "SecurePairModel", name := "isPart", desc := "(J)Z" } : MethodName)) ∈ xa := xa_t 1172 (by decide +kernel) (by decide +kernel)
theorem xw1173 : (Cond.static ({ cls := "SecurePairModel", name := "isPart", desc := "(J)Z" } : MethodName)) ∈ xa := xa_t 1173 (by decide +kernel) (by decide +kernel)
theorem xw1174 : (Cond.code ({ cls := "SecurePairModel", name := "isPart", desc := "(J)Z" } : MethodName) prog_12_method_7_code (2 : Nat) (Option.some ClassFile.FieldType.boolean)) ∈ xa := xa_t 1174 (by decide +kernel) (by decide +kernel)
def g_verifies (x0 : Int64) (x1 : Int64) (x2 : Int64) (x3 : Int64) : Int32 := (if (g_isPart x0) = 0 then (0 : Int32) else (if (g_isPart x1) = 0 then (0 : Int32) else (if (g_isPart x2) = 0 then (0 : Int32) else (if (g_power (7 : Int64) x2) = (xb_lrem (x1 * (g_power x0 (xb_lushr (g_mix (g_mix (0 : Int64) x1) x3) (34 : Int32)))) (2147483647 : Int64)) then (1 : Int32) else (0 : Int32)))))
set_option maxHeartbeats 4000000 in
set_option maxRecDepth 100000 in
theorem c_M_verifies (l : Launch) (x0 : Int64) (x1 : Int64) (x2 : Int64) (x3 : Int64) : Met l y_M_verifies w_M_verifies ({ frames := 1, cells := 0, slots := 0, locals := 29 }) (fun av_ _ => av_ = ([.long x0, .long x1, .long x2, .long x3] : List Value).toArray) (vp_Si (fun r => r = g_verifies x0 x1 x2 x3)) 0 0 (fun _ => False) := by
  refine Met.ofW (cc := b_M_verifies) (maxL := 10) (ret := (some .boolean)) (by decide) rfl ?_
  intro p e s m args below meth c s₁ B hml hv
  subst hv
  have hx := B.exec
  have hb := B.bytes
  have hr := B.returns
  have hts := atoms_spec (ws := w_M_verifies) B.pre
  have ht : ∀ w ∈ xa, w.before _ s = true := fun w h => hts w (List.mem_cons_of_mem _ h)
  have hown : s.vm.findClass "SecurePairModel" = some m.cls := findClass_of_methodNamed B.named
  have hlocks := B.notSynchronized
  have hl := lv_entry ([.long x0, .long x1, .long x2, .long x3]) (n := 10) (Nat.le_of_ble_eq_true rfl)
  rw [lg_entry_eq]
  generalize (lg_sl ([.long x0, .long x1, .long x2, .long x3]) ++ List.replicate (10 - (lg_sl ([.long x0, .long x1, .long x2, .long x3])).length) Slot.unset).toArray = ls at hl ⊢
  have hl : lv_has ls 10 [(0, .long x0), (2, .long x1), (4, .long x2), (6, .long x3)] := hl
  refine lv_lload_n hx hb d_M_verifies_0 rfl (lv_at hl 0 rfl) ?_
  refine vp_callSi (W.runS (As := [.long x0]) (rest := []) ⟨hx, hb, hml, hown, hts⟩ (c_M_isPart l x0) (cwS 1 hts (xa_S xw1172 xw1173 xw11 xw1174) rfl rfl rfl (by decide +kernel) ⟨Nat.le_of_ble_eq_true rfl, Nat.le_of_ble_eq_true rfl⟩) preEq rfl rfl hl.1 rfl (lv_room (Nat.le_of_ble_eq_true rfl)) d_M_verifies_1 ⟨Nat.le_of_ble_eq_true rfl, Nat.le_of_ble_eq_true rfl⟩) (fun r_ e_ => ?_)
  subst e_
  refine lv_if_eq (tgt := 22) hx hb d_M_verifies_4 (by decide) (fun c1 => ?_) (fun c1 => ?_)
  · skip
    refine lv_iconst (v := 0) hx hb d_M_verifies_22 (by decide) ?_
    exact W.zret (v := (0 : Int32)) hx hb hr rfl (fun t ht_ hW => ⟨_, rfl, ((if_pos c1)).symm, ht_⟩) (fun _ h_ => nomatch h_) d_M_verifies_23
  · skip
    refine lv_lload_n hx hb d_M_verifies_7 rfl (lv_at hl 1 rfl) ?_
    refine vp_callSi (W.runS (As := [.long x1]) (rest := []) ⟨hx, hb, hml, hown, hts⟩ (c_M_isPart l x1) (cwS 1 hts (xa_S xw1172 xw1173 xw11 xw1174) rfl rfl rfl (by decide +kernel) ⟨Nat.le_of_ble_eq_true rfl, Nat.le_of_ble_eq_true rfl⟩) preEq rfl rfl hl.1 rfl (lv_room (Nat.le_of_ble_eq_true rfl)) d_M_verifies_8 ⟨Nat.le_of_ble_eq_true rfl, Nat.le_of_ble_eq_true rfl⟩) (fun r_ e_ => ?_)
    subst e_
    refine lv_if_eq (tgt := 22) hx hb d_M_verifies_11 (by decide) (fun c2 => ?_) (fun c2 => ?_)
    · skip
      refine lv_iconst (v := 0) hx hb d_M_verifies_22 (by decide) ?_
      exact W.zret (v := (0 : Int32)) hx hb hr rfl (fun t ht_ hW => ⟨_, rfl, ((if_neg c1).trans ((if_pos c2))).symm, ht_⟩) (fun _ h_ => nomatch h_) d_M_verifies_23
    · skip
      refine lv_lload hx hb d_M_verifies_14 (lv_at hl 2 rfl) ?_
      refine vp_callSi (W.runS (As := [.long x2]) (rest := []) ⟨hx, hb, hml, hown, hts⟩ (c_M_isPart l x2) (cwS 1 hts (xa_S xw1172 xw1173 xw11 xw1174) rfl rfl rfl (by decide +kernel) ⟨Nat.le_of_ble_eq_true rfl, Nat.le_of_ble_eq_true rfl⟩) preEq rfl rfl hl.1 rfl (lv_room (Nat.le_of_ble_eq_true rfl)) d_M_verifies_16 ⟨Nat.le_of_ble_eq_true rfl, Nat.le_of_ble_eq_true rfl⟩) (fun r_ e_ => ?_)
      subst e_
      refine lv_if_ne (tgt := 24) hx hb d_M_verifies_19 (by decide) (fun c3 => ?_) (fun c3 => ?_)
      · skip
        refine lv_lconst (v := 0) hx hb d_M_verifies_24 (by decide) ?_
        refine lv_lload_n hx hb d_M_verifies_25 rfl (lv_at hl 1 rfl) ?_
        refine vp_callSl (W.runS (As := [.long (0 : Int64), .long x1]) (rest := []) ⟨hx, hb, hml, hown, hts⟩ (c_M_mix l (0 : Int64) x1) (cwS 2 hts (xa_S xw1091 xw1092 xw11 xw1093) rfl rfl rfl (by decide +kernel) ⟨Nat.le_of_ble_eq_true rfl, Nat.le_of_ble_eq_true rfl⟩) preEq rfl rfl hl.1 rfl (lv_room (Nat.le_of_ble_eq_true rfl)) d_M_verifies_26 ⟨Nat.le_of_ble_eq_true rfl, Nat.le_of_ble_eq_true rfl⟩) (fun r_ e_ => ?_)
        subst e_
        refine lv_lload hx hb d_M_verifies_29 (lv_at hl 3 rfl) ?_
        refine vp_callSl (W.runS (As := [.long (g_mix (0 : Int64) x1), .long x3]) (rest := []) ⟨hx, hb, hml, hown, hts⟩ (c_M_mix l (g_mix (0 : Int64) x1) x3) (cwS 2 hts (xa_S xw1091 xw1092 xw11 xw1093) rfl rfl rfl (by decide +kernel) ⟨Nat.le_of_ble_eq_true rfl, Nat.le_of_ble_eq_true rfl⟩) preEq rfl rfl hl.1 rfl (lv_room (Nat.le_of_ble_eq_true rfl)) d_M_verifies_31 ⟨Nat.le_of_ble_eq_true rfl, Nat.le_of_ble_eq_true rfl⟩) (fun r_ e_ => ?_)
        subst e_
        refine lv_bipush (v := 34) hx hb d_M_verifies_34 (by decide) ?_
        refine lv_lushr (v := (xb_lushr (g_mix (g_mix (0 : Int64) x1) x3) (34 : Int32))) hx hb d_M_verifies_36 rfl ?_
        refine lv_lstore (lv' := [(8, .long (xb_lushr (g_mix (g_mix (0 : Int64) x1) x3) (34 : Int32))), (0, .long x0), (2, .long x1), (4, .long x2), (6, .long x3)]) hx hb d_M_verifies_37 hl (by decide) rfl (fun ls hl => ?_)
        refine lv_ldc2 hx hb hown (ht _ xw1133) d_M_verifies_39 ?_
        refine lv_lload hx hb d_M_verifies_42 (lv_at hl 3 rfl) ?_
        refine vp_callSl (W.runS (As := [.long (7 : Int64), .long x2]) (rest := []) ⟨hx, hb, hml, hown, hts⟩ (c_M_power l (7 : Int64) x2) (cwS 2 hts (xa_S xw1134 xw1135 xw11 xw1136) rfl rfl rfl (by decide +kernel) ⟨Nat.le_of_ble_eq_true rfl, Nat.le_of_ble_eq_true rfl⟩) preEq rfl rfl hl.1 rfl (lv_room (Nat.le_of_ble_eq_true rfl)) d_M_verifies_44 ⟨Nat.le_of_ble_eq_true rfl, Nat.le_of_ble_eq_true rfl⟩) (fun r_ e_ => ?_)
        subst e_
        refine lv_lload_n hx hb d_M_verifies_47 rfl (lv_at hl 2 rfl) ?_
        refine lv_lload_n hx hb d_M_verifies_48 rfl (lv_at hl 1 rfl) ?_
        refine lv_lload hx hb d_M_verifies_49 (lv_at hl 0 rfl) ?_
        refine vp_callSl (W.runS (As := [.long x0, .long (xb_lushr (g_mix (g_mix (0 : Int64) x1) x3) (34 : Int32))]) (rest := [.long x1, .long (g_power (7 : Int64) x2)]) ⟨hx, hb, hml, hown, hts⟩ (c_M_power l x0 (xb_lushr (g_mix (g_mix (0 : Int64) x1) x3) (34 : Int32))) (cwS 2 hts (xa_S xw1134 xw1135 xw11 xw1136) rfl rfl rfl (by decide +kernel) ⟨Nat.le_of_ble_eq_true rfl, Nat.le_of_ble_eq_true rfl⟩) preEq rfl rfl hl.1 rfl (lv_room (Nat.le_of_ble_eq_true rfl)) d_M_verifies_51 ⟨Nat.le_of_ble_eq_true rfl, Nat.le_of_ble_eq_true rfl⟩) (fun r_ e_ => ?_)
        subst e_
        refine lv_lmul hx hb d_M_verifies_54 ?_
        refine lv_ldc2 hx hb hown (ht _ xw1137) d_M_verifies_55 ?_
        refine lv_lrem hx hb d_M_verifies_58 (by decide) ?_
        refine xb_lne (tgt := 67) hx hb d_M_verifies_59 d_M_verifies_60 (by decide) (fun c4 => ?_) (fun c4 => ?_)
        · skip
          refine lv_iconst (v := 0) hx hb d_M_verifies_67 (by decide) ?_
          exact W.zret (v := (0 : Int32)) hx hb hr rfl (fun t ht_ hW => ⟨_, rfl, ((if_neg c1).trans ((if_neg c2).trans ((if_neg c3).trans ((if_neg c4))))).symm, ht_⟩) (fun _ h_ => nomatch h_) d_M_verifies_68
        · skip
          refine lv_iconst (v := 1) hx hb d_M_verifies_63 (by decide) ?_
          refine lv_goto (tgt := 68) hx hb d_M_verifies_64 (by decide) ?_
          exact W.zret (v := (1 : Int32)) hx hb hr rfl (fun t ht_ hW => ⟨_, rfl, ((if_neg c1).trans ((if_neg c2).trans ((if_neg c3).trans ((if_pos c4))))).symm, ht_⟩) (fun _ h_ => nomatch h_) d_M_verifies_68
      · skip
        refine lv_iconst (v := 0) hx hb d_M_verifies_22 (by decide) ?_
        exact W.zret (v := (0 : Int32)) hx hb hr rfl (fun t ht_ hW => ⟨_, rfl, ((if_neg c1).trans ((if_neg c2).trans ((if_pos c3)))).symm, ht_⟩) (fun _ h_ => nomatch h_) d_M_verifies_23
