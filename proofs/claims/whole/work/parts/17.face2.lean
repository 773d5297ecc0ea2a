theorem sp_nn {x : Int32} (h : ¬ x < 0) : x = nI x.toNatClampNeg ∧ x.toNatClampNeg < 2 ^ 31 := by
  obtain ⟨n, hn, rfl⟩ := nI_of h
  rw [nI_clamp hn]
  exact ⟨rfl, hn⟩
theorem sp_part {x : Int32} (h : ¬ f_isPart x = 0) : x = nI x.toNatClampNeg ∧ x.toNatClampNeg < 6 := by
  unfold f_isPart at h
  split at h
  · exact absurd rfl h
  · rename_i h1
    split at h
    · exact absurd rfl h
    · rename_i h2
      have e := sp_nn h1
      refine ⟨e.1, ?_⟩
      have := mt (xb_leN (xb_lit (x := (6 : Int32)) 6 rfl) e.1 (by decide) e.2).mpr h2
      omega
abbrev b_P_channel : ByteArray := prog_1_method_21_code
def y_P_channel : MethodName := ⟨"SecurePair", "channel", "(II)J"⟩
abbrev w_P_channel : List Cond := .code y_P_channel b_P_channel 5 (some .long) :: xa
theorem d_P_channel_0 : decode b_P_channel 0 = .ok (.aload_n 0, 1) := by decide +kernel
theorem d_P_channel_1 : decode b_P_channel 1 = .ok (.iload_n 1, 1) := by decide +kernel
theorem d_P_channel_2 : decode b_P_channel 2 = .ok (.invokevirtual 28, 3) := by decide +kernel
theorem d_P_channel_5 : decode b_P_channel 5 = .ok (.astore_n 3, 1) := by decide +kernel
theorem d_P_channel_6 : decode b_P_channel 6 = .ok (.aload_n 3, 1) := by decide +kernel
theorem d_P_channel_7 : decode b_P_channel 7 = .ok (.ifnonnull 7, 3) := by decide +kernel
theorem d_P_channel_10 : decode b_P_channel 10 = .ok (.aconst_null, 1) := by decide +kernel
theorem d_P_channel_11 : decode b_P_channel 11 = .ok (.goto 9, 3) := by decide +kernel
theorem d_P_channel_14 : decode b_P_channel 14 = .ok (.aload_n 3, 1) := by decide +kernel
theorem d_P_channel_15 : decode b_P_channel 15 = .ok (.iload_n 2, 1) := by decide +kernel
theorem d_P_channel_16 : decode b_P_channel 16 = .ok (.i2l, 1) := by decide +kernel
theorem d_P_channel_17 : decode b_P_channel 17 = .ok (.invokevirtual 201, 3) := by decide +kernel
theorem d_P_channel_20 : decode b_P_channel 20 = .ok (.astore 4, 2) := by decide +kernel
theorem d_P_channel_22 : decode b_P_channel 22 = .ok (.aload 4, 2) := by decide +kernel
theorem d_P_channel_24 : decode b_P_channel 24 = .ok (.ifnonnull 9, 3) := by decide +kernel
theorem d_P_channel_27 : decode b_P_channel 27 = .ok (.ldc2_w 172, 3) := by decide +kernel
theorem d_P_channel_30 : decode b_P_channel 30 = .ok (.goto 8, 3) := by decide +kernel
theorem d_P_channel_33 : decode b_P_channel 33 = .ok (.aload 4, 2) := by decide +kernel
theorem d_P_channel_35 : decode b_P_channel 35 = .ok (.invokevirtual 205, 3) := by decide +kernel
theorem d_P_channel_38 : decode b_P_channel 38 = .ok (.lreturn, 1) := by decide +kernel
theorem xw477 : (Cond.methodLink "SecurePair" (201 : Nat) ({ cls := "SecurePair$Endpoint", name := "channelAt", desc := "(J)LSecurePair$Channel;" } : MethodName)) ∈ xa := xa_t 477 (by decide +kernel) (by decide +kernel)
theorem xw484 : (Cond.methodLink "SecurePair" (205 : Nat) ({ cls := "SecurePair$Channel", name := "summary", desc := "()J" } : MethodName)) ∈ xa := xa_t 484 (by decide +kernel) (by decide +kernel)
theorem xw485 : (Cond.instanceMethod ({ cls := "SecurePair$Channel", name := "summary", desc := "()J" } : MethodName)) ∈ xa := xa_t 485 (by decide +kernel) (by decide +kernel)
theorem xw486 : (Cond.selects "SecurePair$Channel" ({ cls := "SecurePair$Channel", name := "summary", desc := "()J" } : MethodName) ({ cls := "SecurePair$Channel", name := "summary", desc := "()J" } : MethodName)) ∈ xa := xa_t 486 (by decide +kernel) (by decide +kernel)
theorem xw487 : (Cond.code ({ cls := "SecurePair$Channel", name := "summary", desc := "()J" } : MethodName) prog_2_method_12_code (1 : Nat) (Option.some ClassFile.FieldType.long)) ∈ xa := xa_t 487 (by decide +kernel) (by decide +kernel)
def p_channel (Z : Nat) (x1 : Int32) (x2 : Int32) (σ : xb_St) : Int64 := (xb_om (p_endpointOf Z x1 σ) (-1 : Int64) (fun K1 => (xb_om (p_channelAt K1 x2.toInt64 σ) (-1 : Int64) (fun K2 => (p_Ch_summary K2 σ)))))
set_option maxHeartbeats 4000000 in
set_option maxRecDepth 100000 in
theorem c_P_channel (l : Launch) (D : va_G) (α : Nat → Nat) (κ : Nat → ClassId) (hα : xb_inj α 35) (σ : xb_St) (Z : Nat) (x1 : Int32) (x2 : Int32) (iZ : sp_isP Z) : Met l y_P_channel w_P_channel ({ frames := 1, cells := 0, slots := 0, locals := 22 }) (va_Pc ([.ref (α Z), .int x1, .int x2]) (sp_Pre D α κ σ)) (va_Ql (fun r (u : xb_St) => r = p_channel Z x1 x2 σ ∧ u = σ) (sp_B D α κ) (xb_A α 35)) 0 0 (xb_A α 35) := by
  refine Met.ofW (cc := b_P_channel) (maxL := 5) (ret := (some .long)) (by decide) rfl ?_
  intro p e s m args below meth c s₁ B_ hml hv
  obtain ⟨rfl, hP, hK, hN⟩ := hv
  have hx := B_.exec
  have hb := B_.bytes
  have hr := B_.returns
  have hts := atoms_spec (ws := w_P_channel) B_.pre
  have ht : ∀ w ∈ xa, w.before _ s = true := fun w h => hts w (List.mem_cons_of_mem _ h)
  have hown : s.vm.findClass "SecurePair" = some m.cls := findClass_of_methodNamed B_.named
  have hlocks := B_.notSynchronized
  have hD := sp_D hα κ
  have hS : va_S (xb_A α 35) s.heap s.heap [] := va_S.rf
  have hl := lv_entry ([.ref (α Z), .int x1, .int x2]) (n := 5) (Nat.le_of_ble_eq_true rfl)
  rw [lg_entry_eq]
  generalize (lg_sl ([.ref (α Z), .int x1, .int x2]) ++ List.replicate (5 - (lg_sl ([.ref (α Z), .int x1, .int x2])).length) Slot.unset).toArray = ls at hl ⊢
  have hl : lv_has ls 5 [(0, .ref (α Z)), (1, .int x1), (2, .int x2)] := hl
  refine lv_aload_n hx hb d_P_channel_0 rfl (lv_at hl 0 rfl) ?_
  refine lv_iload_n hx hb d_P_channel_1 rfl (lv_at hl 1 rfl) ?_
  refine sp_cq (va_runV (As := [.int x1]) (rest := []) ⟨hx, hb, hml, hown, hts⟩ (c_P_endpointOf l D α κ hα σ Z x1 iZ) (cwV 1 hts (xa_V xw340 xw342 xs0 xw1 xw343) rfl rfl rfl (by decide +kernel) ⟨Nat.le_of_ble_eq_true rfl, Nat.le_of_ble_eq_true rfl⟩) ⟨sp_blind, va_recv hK hP rfl (sp_at_P iZ), sp_pre hP hK hN _⟩ rfl rfl hl.1 rfl (lv_room (Nat.le_of_ble_eq_true rfl)) d_P_channel_2 ⟨Nat.le_of_ble_eq_true rfl, Nat.le_of_ble_eq_true rfl⟩) hS (fun _ h_ => h_) (fun H locs hP hS => ?_)
  rcases c1 : (p_endpointOf Z x1 σ) with _ | K1
  · skip
    refine lv_astore_nN (lv' := [(3, .null), (0, .ref (α Z)), (1, .int x1), (2, .int x2)]) hx hb d_P_channel_5 rfl hl (by decide) rfl (fun ls hl => ?_)
    refine lv_aload_nN hx hb d_P_channel_6 rfl (lv_at hl 0 rfl) ?_
    refine lv_ifnonnullN hx hb d_P_channel_7 ?_
    refine lv_null hx hb d_P_channel_10 ?_
    refine lv_goto (tgt := 20) hx hb d_P_channel_11 (by decide) ?_
    refine lv_astoreN (lv' := [(4, .null), (3, .null), (0, .ref (α Z)), (1, .int x1), (2, .int x2)]) hx hb d_P_channel_20 hl (by decide) rfl (fun ls hl => ?_)
    refine lv_aloadN hx hb d_P_channel_22 (lv_at hl 0 rfl) ?_
    refine lv_ifnonnullN hx hb d_P_channel_24 ?_
    refine lv_ldc2 hx hb hown (ht _ xw463) d_P_channel_27 ?_
    refine lv_goto (tgt := 38) hx hb d_P_channel_30 (by decide) ?_
    exact W.lret (v := (-1 : Int64)) hx hb hr (fun t ht_ hW => ⟨⟨(-1 : Int64), σ, rfl, ⟨(by unfold p_channel; rw [xb_om_none c1]), rfl⟩, by rw [sp_B, ht_]; exact hP⟩, hS.F ht_⟩) hS.2.2 d_P_channel_38
  · skip
    have iK1 := p_endpointOf_is iZ c1; have hlAK1 := sp_lnA_is iK1; have hlDK1 := sp_lnD_is iK1; have hlnK1 := sp_ln_ne iK1
    refine lv_astore_n (lv' := [(3, .ref (α K1)), (0, .ref (α Z)), (1, .int x1), (2, .int x2)]) hx hb d_P_channel_5 rfl hl (by decide) rfl (fun ls hl => ?_)
    refine lv_aload_n hx hb d_P_channel_6 rfl (lv_at hl 0 rfl) ?_
    refine lv_ifnonnull (tgt := 14) hx hb d_P_channel_7 (by decide) ?_
    refine lv_aload_n hx hb d_P_channel_14 rfl (lv_at hl 0 rfl) ?_
    refine lv_iload_n hx hb d_P_channel_15 rfl (lv_at hl 3 rfl) ?_
    refine lv_i2l (v := x2.toInt64) hx hb d_P_channel_16 (by rfl) ?_
    refine sp_cq (sp_runE (n := 1) (As := [.long x2.toInt64]) (rest := []) ⟨hx, hb, hml, hown, hts⟩ (c_Endpoint_channelAt l D α κ hα σ K1 x2.toInt64 iK1) iK1 xw477 xw479 xw480 xw481 xw478 xw3 xw482 rfl rfl rfl (by decide +kernel) ⟨Nat.le_of_ble_eq_true rfl, Nat.le_of_ble_eq_true rfl⟩ hP hK hN rfl rfl hl.1 rfl (lv_room (Nat.le_of_ble_eq_true rfl)) d_P_channel_17 ⟨Nat.le_of_ble_eq_true rfl, Nat.le_of_ble_eq_true rfl⟩) hS (fun _ h_ => h_) (fun H locs hP hS => ?_)
    rcases c2 : (p_channelAt K1 x2.toInt64 σ) with _ | K2
    · skip
      refine lv_astoreN (lv' := [(4, .null), (3, .ref (α K1)), (0, .ref (α Z)), (1, .int x1), (2, .int x2)]) hx hb d_P_channel_20 hl (by decide) rfl (fun ls hl => ?_)
      refine lv_aloadN hx hb d_P_channel_22 (lv_at hl 0 rfl) ?_
      refine lv_ifnonnullN hx hb d_P_channel_24 ?_
      refine lv_ldc2 hx hb hown (ht _ xw463) d_P_channel_27 ?_
      refine lv_goto (tgt := 38) hx hb d_P_channel_30 (by decide) ?_
      exact W.lret (v := (-1 : Int64)) hx hb hr (fun t ht_ hW => ⟨⟨(-1 : Int64), σ, rfl, ⟨(by unfold p_channel; rw [xb_om_some c1, xb_om_none c2]), rfl⟩, by rw [sp_B, ht_]; exact hP⟩, hS.F ht_⟩) hS.2.2 d_P_channel_38
    · skip
      have iK2 := p_channelAt_is iK1 c2
      refine lv_astore (lv' := [(4, .ref (α K2)), (3, .ref (α K1)), (0, .ref (α Z)), (1, .int x1), (2, .int x2)]) hx hb d_P_channel_20 hl (by decide) rfl (fun ls hl => ?_)
      refine lv_aload hx hb d_P_channel_22 (lv_at hl 0 rfl) ?_
      refine lv_ifnonnull (tgt := 33) hx hb d_P_channel_24 (by decide) ?_
      refine lv_aload hx hb d_P_channel_33 (lv_at hl 0 rfl) ?_
      refine sp_cl (va_runV (As := []) (rest := []) ⟨hx, hb, hml, hown, hts⟩ (c_Channel_summary l D α κ hα σ K2 iK2) (cwV 0 hts (xa_V xw484 xw485 xw486 xw9 xw487) rfl rfl rfl (by decide +kernel) ⟨Nat.le_of_ble_eq_true rfl, Nat.le_of_ble_eq_true rfl⟩) ⟨sp_blind, va_recv hK hP rfl (sp_at_Channel iK2), sp_pre hP hK hN _⟩ rfl rfl hl.1 rfl (lv_room (Nat.le_of_ble_eq_true rfl)) d_P_channel_35 ⟨Nat.le_of_ble_eq_true rfl, Nat.le_of_ble_eq_true rfl⟩) hS (fun _ h_ => h_) (fun H locs hP hS => ?_)
      exact W.lret (v := (p_Ch_summary K2 σ)) hx hb hr (fun t ht_ hW => ⟨⟨(p_Ch_summary K2 σ), σ, rfl, ⟨(by unfold p_channel; rw [xb_om_some c1, xb_om_some c2]), rfl⟩, by rw [sp_B, ht_]; exact hP⟩, hS.F ht_⟩) hS.2.2 d_P_channel_38
abbrev b_P_alter : ByteArray := prog_1_method_17_code
def y_P_alter : MethodName := ⟨"SecurePair", "alter", "(III)Z"⟩
abbrev w_P_alter : List Cond := .code y_P_alter b_P_alter 5 (some .boolean) :: xa
theorem d_P_alter_0 : decode b_P_alter 0 = .ok (.aload_n 0, 1) := by decide +kernel
theorem d_P_alter_1 : decode b_P_alter 1 = .ok (.iload_n 1, 1) := by decide +kernel
theorem d_P_alter_2 : decode b_P_alter 2 = .ok (.invokevirtual 151, 3) := by decide +kernel
theorem d_P_alter_5 : decode b_P_alter 5 = .ok (.astore 4, 2) := by decide +kernel
theorem d_P_alter_7 : decode b_P_alter 7 = .ok (.aload 4, 2) := by decide +kernel
theorem d_P_alter_9 : decode b_P_alter 9 = .ok (.ifnull 18, 3) := by decide +kernel
theorem d_P_alter_12 : decode b_P_alter 12 = .ok (.aload 4, 2) := by decide +kernel
theorem d_P_alter_14 : decode b_P_alter 14 = .ok (.getfield 88, 3) := by decide +kernel
theorem d_P_alter_17 : decode b_P_alter 17 = .ok (.ifCond .eq 10, 3) := by decide +kernel
theorem d_P_alter_20 : decode b_P_alter 20 = .ok (.iload_n 2, 1) := by decide +kernel
theorem d_P_alter_21 : decode b_P_alter 21 = .ok (.invokestatic 165, 3) := by decide +kernel
theorem d_P_alter_24 : decode b_P_alter 24 = .ok (.ifCond .ne 5, 3) := by decide +kernel
theorem d_P_alter_27 : decode b_P_alter 27 = .ok (.iconst 0, 1) := by decide +kernel
theorem d_P_alter_28 : decode b_P_alter 28 = .ok (.ireturn, 1) := by decide +kernel
theorem d_P_alter_29 : decode b_P_alter 29 = .ok (.aload 4, 2) := by decide +kernel
theorem d_P_alter_31 : decode b_P_alter 31 = .ok (.getfield 168, 3) := by decide +kernel
theorem d_P_alter_34 : decode b_P_alter 34 = .ok (.iload_n 2, 1) := by decide +kernel
theorem d_P_alter_35 : decode b_P_alter 35 = .ok (.dup2, 1) := by decide +kernel
theorem d_P_alter_36 : decode b_P_alter 36 = .ok (.laload, 1) := by decide +kernel
theorem d_P_alter_37 : decode b_P_alter 37 = .ok (.iload_n 3, 1) := by decide +kernel
theorem d_P_alter_38 : decode b_P_alter 38 = .ok (.i2l, 1) := by decide +kernel
theorem d_P_alter_39 : decode b_P_alter 39 = .ok (.lxor, 1) := by decide +kernel
theorem d_P_alter_40 : decode b_P_alter 40 = .ok (.lastore, 1) := by decide +kernel
theorem d_P_alter_41 : decode b_P_alter 41 = .ok (.iconst 1, 1) := by decide +kernel
theorem d_P_alter_42 : decode b_P_alter 42 = .ok (.ireturn, 1) := by decide +kernel
theorem xw36 : (Cond.fieldLink "SecurePair" (168 : Nat) "SecurePair$Line" "rows" "[J") ∈ xa := xa_t 36 (by decide +kernel) (by decide +kernel)
theorem xw456 : (Cond.methodLink "SecurePair" (165 : Nat) ({ cls := "SecurePair", name := "isPart", desc := "(I)Z" } : MethodName)) ∈ xa := xa_t 456 (by decide +kernel) (by decide +kernel)
theorem xw457 : (Cond.static ({ cls := "SecurePair", name := "isPart", desc := "(I)Z" } : MethodName)) ∈ xa := xa_t 457 (by decide +kernel) (by decide +kernel)
theorem xw458 : (Cond.code ({ cls := "SecurePair", name := "isPart", desc := "(I)Z" } : MethodName) prog_1_method_29_code (1 : Nat) (Option.some ClassFile.FieldType.boolean)) ∈ xa := xa_t 458 (by decide +kernel) (by decide +kernel)
def p_alter (Z : Nat) (x1 : Int32) (x2 : Int32) (x3 : Int32) (σ : xb_St) : Int32 × xb_St := (xb_om (p_lineTo Z x1 σ) ((0 : Int32), σ) (fun K1 => (if (σ.1 K1 1) = 0 then ((0 : Int32), σ) else (if (f_isPart x2) = 0 then ((0 : Int32), σ) else ((1 : Int32), (xb_sl σ (K1 + 2) x2.toNatClampNeg ((σ.2 (K1 + 2) x2.toNatClampNeg) ^^^ x3.toInt64)))))))
set_option maxHeartbeats 4000000 in
set_option maxRecDepth 100000 in
theorem c_P_alter (l : Launch) (D : va_G) (α : Nat → Nat) (κ : Nat → ClassId) (hα : xb_inj α 35) (σ : xb_St) (Z : Nat) (x1 : Int32) (x2 : Int32) (x3 : Int32) (iZ : sp_isP Z) : Met l y_P_alter w_P_alter ({ frames := 2, cells := 0, slots := 0, locals := 43 }) (va_Pc ([.ref (α Z), .int x1, .int x2, .int x3]) (sp_Pre D α κ σ)) (va_Qi (fun r (u : xb_St) => r = (p_alter Z x1 x2 x3 σ).1 ∧ u = (p_alter Z x1 x2 x3 σ).2) (sp_B D α κ) (xb_A α 35)) 0 0 (xb_A α 35) := by
  refine Met.ofW (cc := b_P_alter) (maxL := 5) (ret := (some .boolean)) (by decide) rfl ?_
  intro p e s m args below meth c s₁ B_ hml hv
  obtain ⟨rfl, hP, hK, hN⟩ := hv
  have hx := B_.exec
  have hb := B_.bytes
  have hr := B_.returns
  have hts := atoms_spec (ws := w_P_alter) B_.pre
  have ht : ∀ w ∈ xa, w.before _ s = true := fun w h => hts w (List.mem_cons_of_mem _ h)
  have hown : s.vm.findClass "SecurePair" = some m.cls := findClass_of_methodNamed B_.named
  have hlocks := B_.notSynchronized
  have hD := sp_D hα κ
  have hS : va_S (xb_A α 35) s.heap s.heap [] := va_S.rf
  have hl := lv_entry ([.ref (α Z), .int x1, .int x2, .int x3]) (n := 5) (Nat.le_of_ble_eq_true rfl)
  rw [lg_entry_eq]
  generalize (lg_sl ([.ref (α Z), .int x1, .int x2, .int x3]) ++ List.replicate (5 - (lg_sl ([.ref (α Z), .int x1, .int x2, .int x3])).length) Slot.unset).toArray = ls at hl ⊢
  have hl : lv_has ls 5 [(0, .ref (α Z)), (1, .int x1), (2, .int x2), (3, .int x3)] := hl
  refine lv_aload_n hx hb d_P_alter_0 rfl (lv_at hl 0 rfl) ?_
  refine lv_iload_n hx hb d_P_alter_1 rfl (lv_at hl 1 rfl) ?_
  refine sp_cq (va_runV (As := [.int x1]) (rest := []) ⟨hx, hb, hml, hown, hts⟩ (c_P_lineTo l D α κ hα σ Z x1 iZ) (cwV 1 hts (xa_V xw416 xw418 xs1 xw1 xw419) rfl rfl rfl (by decide +kernel) ⟨Nat.le_of_ble_eq_true rfl, Nat.le_of_ble_eq_true rfl⟩) ⟨sp_blind, va_recv hK hP rfl (sp_at_P iZ), sp_pre hP hK hN _⟩ rfl rfl hl.1 rfl (lv_room (Nat.le_of_ble_eq_true rfl)) d_P_alter_2 ⟨Nat.le_of_ble_eq_true rfl, Nat.le_of_ble_eq_true rfl⟩) hS (fun _ h_ => h_) (fun H locs hP hS => ?_)
  rcases c1 : (p_lineTo Z x1 σ) with _ | K1
  · skip
    refine lv_astoreN (lv' := [(4, .null), (0, .ref (α Z)), (1, .int x1), (2, .int x2), (3, .int x3)]) hx hb d_P_alter_5 hl (by decide) rfl (fun ls hl => ?_)
    refine lv_aloadN hx hb d_P_alter_7 (lv_at hl 0 rfl) ?_
    refine lv_ifnullN (tgt := 27) hx hb d_P_alter_9 (by decide) ?_
    refine lv_iconst (v := 0) hx hb d_P_alter_27 (by decide) ?_
    exact W.zret (v := (0 : Int32)) hx hb hr rfl (fun t ht_ hW => ⟨⟨(0 : Int32), σ, rfl, ⟨congrArg Prod.fst (((by unfold p_alter; rw [xb_om_none c1])) : ((0 : Int32), σ) = p_alter Z x1 x2 x3 σ), congrArg Prod.snd (((by unfold p_alter; rw [xb_om_none c1])) : ((0 : Int32), σ) = p_alter Z x1 x2 x3 σ)⟩, by rw [sp_B, ht_]; exact hP⟩, hS.F ht_⟩) hS.2.2 d_P_alter_28
  · skip
    have iK1 := p_lineTo_is iZ c1
    refine lv_astore (lv' := [(4, .ref (α K1)), (0, .ref (α Z)), (1, .int x1), (2, .int x2), (3, .int x3)]) hx hb d_P_alter_5 hl (by decide) rfl (fun ls hl => ?_)
    refine lv_aload hx hb d_P_alter_7 (lv_at hl 0 rfl) ?_
    refine lv_ifnull hx hb d_P_alter_9 ?_
    refine lv_aload hx hb d_P_alter_12 (lv_at hl 0 rfl) ?_
    refine sp_g_Line (v := .int (σ.1 K1 1)) hx hb ht hown hK hP iK1 1 (by decide) (ht _ xw38) (fun _ h_ => h_) rfl d_P_alter_14 ?_
    refine lv_if_eq (tgt := 27) hx hb d_P_alter_17 (by decide) (fun c2 => ?_) (fun c2 => ?_)
    · skip
      refine lv_iconst (v := 0) hx hb d_P_alter_27 (by decide) ?_
      exact W.zret (v := (0 : Int32)) hx hb hr rfl (fun t ht_ hW => ⟨⟨(0 : Int32), σ, rfl, ⟨congrArg Prod.fst (((by unfold p_alter; rw [xb_om_some c1, if_pos c2])) : ((0 : Int32), σ) = p_alter Z x1 x2 x3 σ), congrArg Prod.snd (((by unfold p_alter; rw [xb_om_some c1, if_pos c2])) : ((0 : Int32), σ) = p_alter Z x1 x2 x3 σ)⟩, by rw [sp_B, ht_]; exact hP⟩, hS.F ht_⟩) hS.2.2 d_P_alter_28
    · skip
      refine lv_iload_n hx hb d_P_alter_20 rfl (lv_at hl 3 rfl) ?_
      refine vp_callSi (W.runS (As := [.int x2]) (rest := []) ⟨hx, hb, hml, hown, hts⟩ (c_P_isPart l x2) (cwS 1 hts (xa_S xw456 xw457 xw1 xw458) rfl rfl rfl (by decide +kernel) ⟨Nat.le_of_ble_eq_true rfl, Nat.le_of_ble_eq_true rfl⟩) preEq rfl rfl hl.1 rfl (lv_room (Nat.le_of_ble_eq_true rfl)) d_P_alter_21 ⟨Nat.le_of_ble_eq_true rfl, Nat.le_of_ble_eq_true rfl⟩) (fun r_ e_ => ?_)
      subst e_
      refine lv_if_ne (tgt := 29) hx hb d_P_alter_24 (by decide) (fun c3 => ?_) (fun c3 => ?_)
      · skip
        have hz := sp_part c3
        refine lv_aload hx hb d_P_alter_29 (lv_at hl 0 rfl) ?_
        refine sp_g_Line (v := .ref (α (K1 + 2))) hx hb ht hown hK hP iK1 0 (by decide) (ht _ xw36) (fun _ h_ => h_) rfl d_P_alter_31 ?_
        refine lv_iload_n hx hb d_P_alter_34 rfl (lv_at hl 3 rfl) ?_
        refine lv_dup2_11 hx hb d_P_alter_35 rfl rfl ?_
        refine sp_ga_rows (n := x2.toNatClampNeg) (v := (σ.2 (K1 + 2) x2.toNatClampNeg)) hx hb hK hP (by omega) (xb_in hz.1 (by omega) (by decide)) (xb_cl hz.1 (by omega)) rfl d_P_alter_36 ?_
        refine lv_iload_n hx hb d_P_alter_37 rfl (lv_at hl 4 rfl) ?_
        refine lv_i2l (v := x3.toInt64) hx hb d_P_alter_38 (by rfl) ?_
        refine lv_lxor hx hb d_P_alter_39 ?_
        refine sp_pa_rows (n := x2.toNatClampNeg) (x := ((σ.2 (K1 + 2) x2.toNatClampNeg) ^^^ x3.toInt64)) hx hb hK hP (by omega) hD hS (xb_in hz.1 (by omega) (by decide)) (xb_cl hz.1 (by omega)) d_P_alter_40 (fun H locs hP hS => ?_)
        refine lv_iconst (v := 1) hx hb d_P_alter_41 (by decide) ?_
        exact W.zret (v := (1 : Int32)) hx hb hr rfl (fun t ht_ hW => ⟨⟨(1 : Int32), (xb_sl σ (K1 + 2) x2.toNatClampNeg ((σ.2 (K1 + 2) x2.toNatClampNeg) ^^^ x3.toInt64)), rfl, ⟨congrArg Prod.fst (((by unfold p_alter; rw [xb_om_some c1, if_neg c2, if_neg c3])) : ((1 : Int32), (xb_sl σ (K1 + 2) x2.toNatClampNeg ((σ.2 (K1 + 2) x2.toNatClampNeg) ^^^ x3.toInt64))) = p_alter Z x1 x2 x3 σ), congrArg Prod.snd (((by unfold p_alter; rw [xb_om_some c1, if_neg c2, if_neg c3])) : ((1 : Int32), (xb_sl σ (K1 + 2) x2.toNatClampNeg ((σ.2 (K1 + 2) x2.toNatClampNeg) ^^^ x3.toInt64))) = p_alter Z x1 x2 x3 σ)⟩, by rw [sp_B, ht_]; exact hP⟩, hS.F ht_⟩) hS.2.2 d_P_alter_42
      · skip
        refine lv_iconst (v := 0) hx hb d_P_alter_27 (by decide) ?_
        exact W.zret (v := (0 : Int32)) hx hb hr rfl (fun t ht_ hW => ⟨⟨(0 : Int32), σ, rfl, ⟨congrArg Prod.fst (((by unfold p_alter; rw [xb_om_some c1, if_neg c2, if_pos c3])) : ((0 : Int32), σ) = p_alter Z x1 x2 x3 σ), congrArg Prod.snd (((by unfold p_alter; rw [xb_om_some c1, if_neg c2, if_pos c3])) : ((0 : Int32), σ) = p_alter Z x1 x2 x3 σ)⟩, by rw [sp_B, ht_]; exact hP⟩, hS.F ht_⟩) hS.2.2 d_P_alter_28
theorem ok_p_alter {σ : xb_St} (Z : Nat) (x1 : Int32) (x2 : Int32) (x3 : Int32) (iZ : sp_isP Z) (ok : sp_ok σ) : sp_ok (p_alter Z x1 x2 x3 σ).2 := by
  unfold p_alter
  rcases c1 : (p_lineTo Z x1 σ) with _ | K1
  · dsimp only [xb_om]
    exact ok
  · dsimp only [xb_om]
    have iK1 := p_lineTo_is iZ c1
    by_cases c2 : (σ.1 K1 1) = 0
    · rw [if_pos c2]
      exact ok
    · rw [if_neg c2]
      by_cases c3 : (f_isPart x2) = 0
      · rw [if_pos c3]
        exact ok
      · rw [if_neg c3]
        exact (ok_sl ok)
abbrev b_P_packet : ByteArray := prog_1_method_22_code
def y_P_packet : MethodName := ⟨"SecurePair", "packet", "(III)J"⟩
abbrev w_P_packet : List Cond := .code y_P_packet b_P_packet 5 (some .long) :: xa
theorem d_P_packet_0 : decode b_P_packet 0 = .ok (.aload_n 0, 1) := by decide +kernel
theorem d_P_packet_1 : decode b_P_packet 1 = .ok (.iload_n 1, 1) := by decide +kernel
theorem d_P_packet_2 : decode b_P_packet 2 = .ok (.invokevirtual 151, 3) := by decide +kernel
theorem d_P_packet_5 : decode b_P_packet 5 = .ok (.astore 4, 2) := by decide +kernel
theorem d_P_packet_7 : decode b_P_packet 7 = .ok (.aload 4, 2) := by decide +kernel
theorem d_P_packet_9 : decode b_P_packet 9 = .ok (.ifnull 23, 3) := by decide +kernel
theorem d_P_packet_12 : decode b_P_packet 12 = .ok (.iload_n 2, 1) := by decide +kernel
theorem d_P_packet_13 : decode b_P_packet 13 = .ok (.ifCond .lt 19, 3) := by decide +kernel
theorem d_P_packet_16 : decode b_P_packet 16 = .ok (.iload_n 2, 1) := by decide +kernel
theorem d_P_packet_17 : decode b_P_packet 17 = .ok (.aload 4, 2) := by decide +kernel
theorem d_P_packet_19 : decode b_P_packet 19 = .ok (.getfield 88, 3) := by decide +kernel
theorem d_P_packet_22 : decode b_P_packet 22 = .ok (.if_icmp .ge 10, 3) := by decide +kernel
theorem d_P_packet_25 : decode b_P_packet 25 = .ok (.iload_n 3, 1) := by decide +kernel
theorem d_P_packet_26 : decode b_P_packet 26 = .ok (.invokestatic 165, 3) := by decide +kernel
theorem d_P_packet_29 : decode b_P_packet 29 = .ok (.ifCond .ne 5, 3) := by decide +kernel
theorem d_P_packet_32 : decode b_P_packet 32 = .ok (.lconst 0, 1) := by decide +kernel
theorem d_P_packet_33 : decode b_P_packet 33 = .ok (.lreturn, 1) := by decide +kernel
theorem d_P_packet_34 : decode b_P_packet 34 = .ok (.aload 4, 2) := by decide +kernel
theorem d_P_packet_36 : decode b_P_packet 36 = .ok (.getfield 168, 3) := by decide +kernel
theorem d_P_packet_39 : decode b_P_packet 39 = .ok (.iload_n 2, 1) := by decide +kernel
theorem d_P_packet_40 : decode b_P_packet 40 = .ok (.bipush 6, 2) := by decide +kernel
theorem d_P_packet_42 : decode b_P_packet 42 = .ok (.imul, 1) := by decide +kernel
theorem d_P_packet_43 : decode b_P_packet 43 = .ok (.iload_n 3, 1) := by decide +kernel
theorem d_P_packet_44 : decode b_P_packet 44 = .ok (.iadd, 1) := by decide +kernel
theorem d_P_packet_45 : decode b_P_packet 45 = .ok (.laload, 1) := by decide +kernel
theorem d_P_packet_46 : decode b_P_packet 46 = .ok (.lreturn, 1) := by decide +kernel
def p_packet (Z : Nat) (x1 : Int32) (x2 : Int32) (x3 : Int32) (σ : xb_St) : Int64 := (xb_om (p_lineTo Z x1 σ) (0 : Int64) (fun K1 => (if x2 < 0 then (0 : Int64) else (if (σ.1 K1 1) ≤ x2 then (0 : Int64) else (if (f_isPart x3) = 0 then (0 : Int64) else (σ.2 (K1 + 2) ((x2.toNatClampNeg * 6) + x3.toNatClampNeg)))))))
set_option maxHeartbeats 4000000 in
set_option maxRecDepth 100000 in
theorem c_P_packet (l : Launch) (D : va_G) (α : Nat → Nat) (κ : Nat → ClassId) (hα : xb_inj α 35) (σ : xb_St) (Z : Nat) (x1 : Int32) (x2 : Int32) (x3 : Int32) (iZ : sp_isP Z) (ok : sp_ok σ) : Met l y_P_packet w_P_packet ({ frames := 2, cells := 0, slots := 0, locals := 43 }) (va_Pc ([.ref (α Z), .int x1, .int x2, .int x3]) (sp_Pre D α κ σ)) (va_Ql (fun r (u : xb_St) => r = p_packet Z x1 x2 x3 σ ∧ u = σ) (sp_B D α κ) (xb_A α 35)) 0 0 (xb_A α 35) := by
  refine Met.ofW (cc := b_P_packet) (maxL := 5) (ret := (some .long)) (by decide) rfl ?_
  intro p e s m args below meth c s₁ B_ hml hv
  obtain ⟨rfl, hP, hK, hN⟩ := hv
  have hx := B_.exec
  have hb := B_.bytes
  have hr := B_.returns
  have hts := atoms_spec (ws := w_P_packet) B_.pre
  have ht : ∀ w ∈ xa, w.before _ s = true := fun w h => hts w (List.mem_cons_of_mem _ h)
  have hown : s.vm.findClass "SecurePair" = some m.cls := findClass_of_methodNamed B_.named
  have hlocks := B_.notSynchronized
  have hD := sp_D hα κ
  have hS : va_S (xb_A α 35) s.heap s.heap [] := va_S.rf
  have hl := lv_entry ([.ref (α Z), .int x1, .int x2, .int x3]) (n := 5) (Nat.le_of_ble_eq_true rfl)
  rw [lg_entry_eq]
  generalize (lg_sl ([.ref (α Z), .int x1, .int x2, .int x3]) ++ List.replicate (5 - (lg_sl ([.ref (α Z), .int x1, .int x2, .int x3])).length) Slot.unset).toArray = ls at hl ⊢
  have hl : lv_has ls 5 [(0, .ref (α Z)), (1, .int x1), (2, .int x2), (3, .int x3)] := hl
  refine lv_aload_n hx hb d_P_packet_0 rfl (lv_at hl 0 rfl) ?_
  refine lv_iload_n hx hb d_P_packet_1 rfl (lv_at hl 1 rfl) ?_
  refine sp_cq (va_runV (As := [.int x1]) (rest := []) ⟨hx, hb, hml, hown, hts⟩ (c_P_lineTo l D α κ hα σ Z x1 iZ) (cwV 1 hts (xa_V xw416 xw418 xs1 xw1 xw419) rfl rfl rfl (by decide +kernel) ⟨Nat.le_of_ble_eq_true rfl, Nat.le_of_ble_eq_true rfl⟩) ⟨sp_blind, va_recv hK hP rfl (sp_at_P iZ), sp_pre hP hK hN _⟩ rfl rfl hl.1 rfl (lv_room (Nat.le_of_ble_eq_true rfl)) d_P_packet_2 ⟨Nat.le_of_ble_eq_true rfl, Nat.le_of_ble_eq_true rfl⟩) hS (fun _ h_ => h_) (fun H locs hP hS => ?_)
  rcases c1 : (p_lineTo Z x1 σ) with _ | K1
  · skip
    refine lv_astoreN (lv' := [(4, .null), (0, .ref (α Z)), (1, .int x1), (2, .int x2), (3, .int x3)]) hx hb d_P_packet_5 hl (by decide) rfl (fun ls hl => ?_)
    refine lv_aloadN hx hb d_P_packet_7 (lv_at hl 0 rfl) ?_
    refine lv_ifnullN (tgt := 32) hx hb d_P_packet_9 (by decide) ?_
    refine lv_lconst (v := 0) hx hb d_P_packet_32 (by decide) ?_
    exact W.lret (v := (0 : Int64)) hx hb hr (fun t ht_ hW => ⟨⟨(0 : Int64), σ, rfl, ⟨(by unfold p_packet; rw [xb_om_none c1]), rfl⟩, by rw [sp_B, ht_]; exact hP⟩, hS.F ht_⟩) hS.2.2 d_P_packet_33
  · skip
    have iK1 := p_lineTo_is iZ c1
    refine lv_astore (lv' := [(4, .ref (α K1)), (0, .ref (α Z)), (1, .int x1), (2, .int x2), (3, .int x3)]) hx hb d_P_packet_5 hl (by decide) rfl (fun ls hl => ?_)
    refine lv_aload hx hb d_P_packet_7 (lv_at hl 0 rfl) ?_
    refine lv_ifnull hx hb d_P_packet_9 ?_
    refine lv_iload_n hx hb d_P_packet_12 rfl (lv_at hl 3 rfl) ?_
    refine lv_if_lt (tgt := 32) hx hb d_P_packet_13 (by decide) (fun c2 => ?_) (fun c2 => ?_)
    · skip
      refine lv_lconst (v := 0) hx hb d_P_packet_32 (by decide) ?_
      exact W.lret (v := (0 : Int64)) hx hb hr (fun t ht_ hW => ⟨⟨(0 : Int64), σ, rfl, ⟨(by unfold p_packet; rw [xb_om_some c1, if_pos c2]), rfl⟩, by rw [sp_B, ht_]; exact hP⟩, hS.F ht_⟩) hS.2.2 d_P_packet_33
    · skip
      have hk := sp_nn c2
      obtain ⟨n0, hn0, en0⟩ := ok.1 K1 iK1
      have hz := xb_nb en0 (by omega)
      have hz0 : (σ.1 K1 1).toNatClampNeg ≤ 16 := by rw [hz.2]; exact hn0
      refine lv_iload_n hx hb d_P_packet_16 rfl (lv_at hl 3 rfl) ?_
      refine lv_aload hx hb d_P_packet_17 (lv_at hl 0 rfl) ?_
      refine sp_g_Line (v := .int (σ.1 K1 1)) hx hb ht hown hK hP iK1 1 (by decide) (ht _ xw38) (fun _ h_ => h_) rfl d_P_packet_19 ?_
      refine lv_icmp_ge (tgt := 32) hx hb d_P_packet_22 (by decide) (fun c3 => ?_) (fun c3 => ?_)
      · skip
        have nc3 := (xb_leN hz.1 hk.1 (by omega) (by omega)).mp c3
        refine lv_lconst (v := 0) hx hb d_P_packet_32 (by decide) ?_
        exact W.lret (v := (0 : Int64)) hx hb hr (fun t ht_ hW => ⟨⟨(0 : Int64), σ, rfl, ⟨(by unfold p_packet; rw [xb_om_some c1, if_neg c2, if_pos c3]), rfl⟩, by rw [sp_B, ht_]; exact hP⟩, hS.F ht_⟩) hS.2.2 d_P_packet_33
      · skip
        have nc3 := mt (xb_leN hz.1 hk.1 (by omega) (by omega)).mpr c3
        refine lv_iload_n hx hb d_P_packet_25 rfl (lv_at hl 4 rfl) ?_
        refine vp_callSi (W.runS (As := [.int x3]) (rest := []) ⟨hx, hb, hml, hown, hts⟩ (c_P_isPart l x3) (cwS 1 hts (xa_S xw456 xw457 xw1 xw458) rfl rfl rfl (by decide +kernel) ⟨Nat.le_of_ble_eq_true rfl, Nat.le_of_ble_eq_true rfl⟩) preEq rfl rfl hl.1 rfl (lv_room (Nat.le_of_ble_eq_true rfl)) d_P_packet_26 ⟨Nat.le_of_ble_eq_true rfl, Nat.le_of_ble_eq_true rfl⟩) (fun r_ e_ => ?_)
        subst e_
        refine lv_if_ne (tgt := 34) hx hb d_P_packet_29 (by decide) (fun c4 => ?_) (fun c4 => ?_)
        · skip
          have hp := sp_part c4
          refine lv_aload hx hb d_P_packet_34 (lv_at hl 0 rfl) ?_
          refine sp_g_Line (v := .ref (α (K1 + 2))) hx hb ht hown hK hP iK1 0 (by decide) (ht _ xw36) (fun _ h_ => h_) rfl d_P_packet_36 ?_
          refine lv_iload_n hx hb d_P_packet_39 rfl (lv_at hl 3 rfl) ?_
          refine lv_bipush (v := 6) hx hb d_P_packet_40 (by decide) ?_
          refine lv_imul hx hb d_P_packet_42 ?_
          refine lv_iload_n hx hb d_P_packet_43 rfl (lv_at hl 4 rfl) ?_
          refine lv_iadd hx hb d_P_packet_44 ?_
          refine sp_ga_rows (n := ((x2.toNatClampNeg * 6) + x3.toNatClampNeg)) (v := (σ.2 (K1 + 2) ((x2.toNatClampNeg * 6) + x3.toNatClampNeg))) hx hb hK hP (by omega) (xb_in (xb_na (xb_nm hk.1 (xb_lit (x := (6 : Int32)) 6 rfl)) hp.1) (by omega) (by decide)) (xb_cl (xb_na (xb_nm hk.1 (xb_lit (x := (6 : Int32)) 6 rfl)) hp.1) (by omega)) rfl d_P_packet_45 ?_
          exact W.lret (v := (σ.2 (K1 + 2) ((x2.toNatClampNeg * 6) + x3.toNatClampNeg))) hx hb hr (fun t ht_ hW => ⟨⟨(σ.2 (K1 + 2) ((x2.toNatClampNeg * 6) + x3.toNatClampNeg)), σ, rfl, ⟨(by unfold p_packet; rw [xb_om_some c1, if_neg c2, if_neg c3, if_neg c4]), rfl⟩, by rw [sp_B, ht_]; exact hP⟩, hS.F ht_⟩) hS.2.2 d_P_packet_46
        · skip
          refine lv_lconst (v := 0) hx hb d_P_packet_32 (by decide) ?_
          exact W.lret (v := (0 : Int64)) hx hb hr (fun t ht_ hW => ⟨⟨(0 : Int64), σ, rfl, ⟨(by unfold p_packet; rw [xb_om_some c1, if_neg c2, if_neg c3, if_pos c4]), rfl⟩, by rw [sp_B, ht_]; exact hP⟩, hS.F ht_⟩) hS.2.2 d_P_packet_33
