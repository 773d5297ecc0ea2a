abbrev b_P_usableOrThrow : ByteArray := prog_1_method_28_code
def y_P_usableOrThrow : MethodName := ⟨"SecurePair", "usableOrThrow", "(LSecurePair$Endpoint;I)LSecurePair$Channel;"⟩
abbrev w_P_usableOrThrow : List Cond := .code y_P_usableOrThrow b_P_usableOrThrow 3 (some (.object "SecurePair$Channel")) :: xa
theorem d_P_usableOrThrow_0 : decode b_P_usableOrThrow 0 = .ok (.aload_n 0, 1) := by decide +kernel
theorem d_P_usableOrThrow_1 : decode b_P_usableOrThrow 1 = .ok (.iload_n 1, 1) := by decide +kernel
theorem d_P_usableOrThrow_2 : decode b_P_usableOrThrow 2 = .ok (.invokestatic 134, 3) := by decide +kernel
theorem d_P_usableOrThrow_5 : decode b_P_usableOrThrow 5 = .ok (.astore_n 2, 1) := by decide +kernel
theorem d_P_usableOrThrow_6 : decode b_P_usableOrThrow 6 = .ok (.aload_n 0, 1) := by decide +kernel
theorem d_P_usableOrThrow_7 : decode b_P_usableOrThrow 7 = .ok (.aload_n 2, 1) := by decide +kernel
theorem d_P_usableOrThrow_8 : decode b_P_usableOrThrow 8 = .ok (.invokevirtual 216, 3) := by decide +kernel
theorem d_P_usableOrThrow_11 : decode b_P_usableOrThrow 11 = .ok (.ifCond .ne 13, 3) := by decide +kernel
theorem d_P_usableOrThrow_14 : decode b_P_usableOrThrow 14 = .ok (.new 71, 3) := by decide +kernel
theorem d_P_usableOrThrow_17 : decode b_P_usableOrThrow 17 = .ok (.dup, 1) := by decide +kernel
theorem d_P_usableOrThrow_18 : decode b_P_usableOrThrow 18 = .ok (.ldc 220, 2) := by decide +kernel
theorem d_P_usableOrThrow_20 : decode b_P_usableOrThrow 20 = .ok (.invokespecial 75, 3) := by decide +kernel
theorem d_P_usableOrThrow_23 : decode b_P_usableOrThrow 23 = .ok (.athrow, 1) := by decide +kernel
theorem d_P_usableOrThrow_24 : decode b_P_usableOrThrow 24 = .ok (.aload_n 2, 1) := by decide +kernel
theorem d_P_usableOrThrow_25 : decode b_P_usableOrThrow 25 = .ok (.areturn, 1) := by decide +kernel
theorem xw16 : (Cond.initialized "java/lang/IllegalStateException") ∈ xa := xa_t 16 (by decide +kernel) (by decide +kernel)
theorem xw588 : (Cond.classLink "SecurePair" (71 : Nat) "java/lang/IllegalStateException") ∈ xa := xa_t 588 (by decide +kernel) (by decide +kernel)
theorem xw877 : (Cond.methodLink "SecurePair" (134 : Nat) ({ cls := "SecurePair", name := "channelOrThrow", desc := "(LSecurePair$Endpoint;I)LSecurePair$Channel;" } : MethodName)) ∈ xa := xa_t 877 (by decide +kernel) (by decide +kernel)
theorem xw878 : (Cond.static ({ cls := "SecurePair", name := "channelOrThrow", desc := "(LSecurePair$Endpoint;I)LSecurePair$Channel;" } : MethodName)) ∈ xa := xa_t 878 (by decide +kernel) (by decide +kernel)
theorem xw879 : (Cond.code ({ cls := "SecurePair", name := "channelOrThrow", desc := "(LSecurePair$Endpoint;I)LSecurePair$Channel;" } : MethodName) prog_1_method_27_code (3 : Nat) (Option.some (ClassFile.FieldType.object "SecurePair$Channel"))) ∈ xa := xa_t 879 (by decide +kernel) (by decide +kernel)
theorem xw881 : (Cond.methodLink "SecurePair" (216 : Nat) ({ cls := "SecurePair$Endpoint", name := "mayUse", desc := "(LSecurePair$Channel;)Z" } : MethodName)) ∈ xa := xa_t 881 (by decide +kernel) (by decide +kernel)
def th_P_usableOrThrow (B : Nat) (x1 : Int32) (σ : xb_St) : Nat := (if (th_P_channelOrThrow B x1 σ) = 0 then (xb_om (p_cot B x1 σ) 0 (fun K1 => (if (p_mayUse B K1 σ) = 0 then 2 else 0))) else (th_P_channelOrThrow B x1 σ))
theorem th_P_usableOrThrow_v3 (B : Nat) (x1 : Int32) (σ : xb_St) (iB : sp_isEndpoint B) : ¬ th_P_usableOrThrow B x1 σ = 3 := by
  unfold th_P_usableOrThrow
  by_cases h : th_P_channelOrThrow B x1 σ = 0
  · rw [if_pos h]
    unfold xb_om
    split
    · simp
    · simp only []
      split <;> simp
  · rw [if_neg h]
    exact th_P_channelOrThrow_v3 B x1 σ iB
def p_uot (B : Nat) (x1 : Int32) (σ : xb_St) : Option Nat := (xb_om (p_cot B x1 σ) none (fun K1 => (if (p_mayUse B K1 σ) = 0 then none else (some K1))))
set_option maxHeartbeats 4000000 in
set_option maxRecDepth 100000 in
theorem n_P_usableOrThrow (l : Launch) (D : va_G) (α : Nat → Nat) (κ : Nat → ClassId) (hα : xb_inj α 35) (σ : xb_St) (B : Nat) (x1 : Int32) (iB : sp_isEndpoint B) (hnt : th_P_usableOrThrow B x1 σ = 0) : Met l y_P_usableOrThrow w_P_usableOrThrow ({ frames := 2, cells := 0, slots := 0, locals := 44 }) (va_Pc ([.ref (α B), .int x1]) (sp_Pre D α κ σ)) (va_Qq (fun r (u : xb_St) => r = (p_uot B x1 σ).map α ∧ u = σ) (sp_B D α κ) (fun _ => False)) 0 0 (fun _ => False) := by
  unfold th_P_usableOrThrow at hnt
  refine Met.ofW (cc := b_P_usableOrThrow) (maxL := 3) (ret := (some (.object "SecurePair$Channel"))) (by decide) rfl ?_
  intro p e s m args below meth c s₁ B_ hml hv
  obtain ⟨rfl, hP, hK, hN⟩ := hv
  have hx := B_.exec
  have hb := B_.bytes
  have hr := B_.returns
  have hts := atoms_spec (ws := w_P_usableOrThrow) B_.pre
  have ht : ∀ w ∈ xa, w.before _ s = true := fun w h => hts w (List.mem_cons_of_mem _ h)
  have hown : s.vm.findClass "SecurePair" = some m.cls := findClass_of_methodNamed B_.named
  have hlocks := B_.notSynchronized
  have hD := sp_D hα κ
  have hS : va_S (fun _ => False) s.heap s.heap [] := va_S.rf
  have hlA := sp_lnA_is iB
  have hlD := sp_lnD_is iB
  have hln := sp_ln_ne iB
  have hl := lv_entry ([.ref (α B), .int x1]) (n := 3) (Nat.le_of_ble_eq_true rfl)
  rw [lg_entry_eq]
  generalize (lg_sl ([.ref (α B), .int x1]) ++ List.replicate (3 - (lg_sl ([.ref (α B), .int x1])).length) Slot.unset).toArray = ls at hl ⊢
  have hl : lv_has ls 3 [(0, .ref (α B)), (1, .int x1)] := hl
  refine lv_aload_n hx hb d_P_usableOrThrow_0 rfl (lv_at hl 0 rfl) ?_
  refine lv_iload_n hx hb d_P_usableOrThrow_1 rfl (lv_at hl 1 rfl) ?_
  have hq1 := xb_th0 hnt
  rw [if_pos hq1] at hnt
  refine xn_cq (va_runS (As := [.ref (α B), .int x1]) (rest := []) ⟨hx, hb, hml, hown, hts⟩ (n_P_channelOrThrow l D α κ hα σ B x1 iB hq1) (cwS 2 hts (xa_S xw877 xw878 xw1 xw879) rfl rfl rfl (by decide +kernel) ⟨Nat.le_of_ble_eq_true rfl, Nat.le_of_ble_eq_true rfl⟩) ⟨sp_blind, sp_pre hP hK hN _⟩ rfl rfl hl.1 rfl (lv_room (Nat.le_of_ble_eq_true rfl)) d_P_usableOrThrow_2 ⟨Nat.le_of_ble_eq_true rfl, Nat.le_of_ble_eq_true rfl⟩) hS (fun H locs hP hS => ?_)
  obtain rfl := xn_nil hS
  rcases c1 : (p_cot B x1 σ) with _ | K1
  · exact absurd c1 (p_cot_nn hq1)
  · skip
    have iK1 := p_cot_is iB c1
    rw [xb_om_some c1] at hnt
    refine lv_astore_n (lv' := [(2, .ref (α K1)), (0, .ref (α B)), (1, .int x1)]) hx hb d_P_usableOrThrow_5 rfl hl (by decide) rfl (fun ls hl => ?_)
    refine lv_aload_n hx hb d_P_usableOrThrow_6 rfl (lv_at hl 1 rfl) ?_
    refine lv_aload_n hx hb d_P_usableOrThrow_7 rfl (lv_at hl 0 rfl) ?_
    refine xn_ci (sp_runE (n := 1) (As := [.ref (α K1)]) (rest := []) ⟨hx, hb, hml, hown, hts⟩ (n_Endpoint_mayUse l D α κ hα σ B K1 iB iK1) iB xw881 xw883 xw884 xw885 xw882 xw3 xw886 rfl rfl rfl (by decide +kernel) ⟨Nat.le_of_ble_eq_true rfl, Nat.le_of_ble_eq_true rfl⟩ hP hK hN rfl rfl hl.1 rfl (lv_room (Nat.le_of_ble_eq_true rfl)) d_P_usableOrThrow_8 ⟨Nat.le_of_ble_eq_true rfl, Nat.le_of_ble_eq_true rfl⟩) hS (fun H locs hP hS => ?_)
    obtain rfl := xn_nil hS
    refine lv_if_ne (tgt := 24) hx hb d_P_usableOrThrow_11 (by decide) (fun c2 => ?_) (fun c2 => ?_)
    · skip
      rw [if_neg c2] at hnt
      refine lv_aload_n hx hb d_P_usableOrThrow_24 rfl (lv_at hl 0 rfl) ?_
      exact W.aret (v := .ref (α K1)) hx hb hr (Or.inl ⟨_, rfl⟩) (Or.inr ⟨_, rfl⟩) (fun t ht_ hW => ⟨⟨some (α K1), σ, rfl, ⟨(congrArg (Option.map α) (((by unfold p_uot; rw [xb_om_some c1, if_neg c2])) : (some K1) = p_uot B x1 σ)), rfl⟩, by rw [sp_B, ht_]; exact hP⟩, hS.F ht_⟩) hS.2.2 d_P_usableOrThrow_25
    · skip
      rw [if_pos c2] at hnt
      exact absurd hnt (by decide)
set_option maxHeartbeats 4000000 in
set_option maxRecDepth 100000 in
theorem t_P_usableOrThrow_1 (l : Launch) (D : va_G) (α : Nat → Nat) (κ : Nat → ClassId) (hα : xb_inj α 35) (htr : l.stackTraces = false) (σ : xb_St) (B : Nat) (x1 : Int32) (iB : sp_isEndpoint B) (hnt : th_P_usableOrThrow B x1 σ = 1) : xt_Met l y_P_usableOrThrow w_P_usableOrThrow ({ frames := 7, cells := 1, slots := 6, locals := 112 }) (va_Pc ([.ref (α B), .int x1]) (st_Pre D α κ σ)) "java/lang/IndexOutOfBoundsException" 1 6 := by
  unfold th_P_usableOrThrow at hnt
  refine xt_ofW (cc := b_P_usableOrThrow) (maxL := 3) (ret := (some (.object "SecurePair$Channel"))) (by decide) rfl ?_
  intro p e s m args below meth c s₁ B_ hml hte hv
  obtain ⟨rfl, ⟨hP, hK, hN⟩, hG⟩ := hv
  have hx := B_.exec
  have hb := B_.bytes
  have hr := B_.returns
  have hts := atoms_spec (ws := w_P_usableOrThrow) B_.pre
  have ht : ∀ w ∈ xa, w.before _ s = true := fun w h => hts w (List.mem_cons_of_mem _ h)
  have hown : s.vm.findClass "SecurePair" = some m.cls := findClass_of_methodNamed B_.named
  have hlocks := B_.notSynchronized
  have hD := sp_D hα κ
  have hS : va_S (fun _ => False) s.heap s.heap [] := va_S.rf
  have hlA := sp_lnA_is iB
  have hlD := sp_lnD_is iB
  have hln := sp_ln_ne iB
  have hl := lv_entry ([.ref (α B), .int x1]) (n := 3) (Nat.le_of_ble_eq_true rfl)
  rw [lg_entry_eq]
  generalize (lg_sl ([.ref (α B), .int x1]) ++ List.replicate (3 - (lg_sl ([.ref (α B), .int x1])).length) Slot.unset).toArray = ls at hl ⊢
  have hl : lv_has ls 3 [(0, .ref (α B)), (1, .int x1)] := hl
  refine lv_aload_n hx hb d_P_usableOrThrow_0 rfl (lv_at hl 0 rfl) ?_
  refine lv_iload_n hx hb d_P_usableOrThrow_1 rfl (lv_at hl 1 rfl) ?_
  by_cases hq1 : (th_P_channelOrThrow B x1 σ) = 0
  · skip
    rw [if_pos hq1] at hnt
    refine xn_cq (va_runS (As := [.ref (α B), .int x1]) (rest := []) ⟨hx, hb, hml, hown, hts⟩ (n_P_channelOrThrow l D α κ hα σ B x1 iB hq1) (cwS 2 hts (xa_S xw877 xw878 xw1 xw879) rfl rfl rfl (by decide +kernel) ⟨Nat.le_of_ble_eq_true rfl, Nat.le_of_ble_eq_true rfl⟩) ⟨sp_blind, sp_pre hP hK hN _⟩ rfl rfl hl.1 rfl (lv_room (Nat.le_of_ble_eq_true rfl)) d_P_usableOrThrow_2 ⟨Nat.le_of_ble_eq_true rfl, Nat.le_of_ble_eq_true rfl⟩) hS (fun H locs hP hS => ?_)
    obtain rfl := xn_nil hS
    rcases c1 : (p_cot B x1 σ) with _ | K1
    · exact absurd c1 (p_cot_nn hq1)
    · skip
      have iK1 := p_cot_is iB c1
      rw [xb_om_some c1] at hnt
      refine lv_astore_n (lv' := [(2, .ref (α K1)), (0, .ref (α B)), (1, .int x1)]) hx hb d_P_usableOrThrow_5 rfl hl (by decide) rfl (fun ls hl => ?_)
      refine lv_aload_n hx hb d_P_usableOrThrow_6 rfl (lv_at hl 1 rfl) ?_
      refine lv_aload_n hx hb d_P_usableOrThrow_7 rfl (lv_at hl 0 rfl) ?_
      refine xn_ci (sp_runE (n := 1) (As := [.ref (α K1)]) (rest := []) ⟨hx, hb, hml, hown, hts⟩ (n_Endpoint_mayUse l D α κ hα σ B K1 iB iK1) iB xw881 xw883 xw884 xw885 xw882 xw3 xw886 rfl rfl rfl (by decide +kernel) ⟨Nat.le_of_ble_eq_true rfl, Nat.le_of_ble_eq_true rfl⟩ hP hK hN rfl rfl hl.1 rfl (lv_room (Nat.le_of_ble_eq_true rfl)) d_P_usableOrThrow_8 ⟨Nat.le_of_ble_eq_true rfl, Nat.le_of_ble_eq_true rfl⟩) hS (fun H locs hP hS => ?_)
      obtain rfl := xn_nil hS
      refine lv_if_ne (tgt := 24) hx hb d_P_usableOrThrow_11 (by decide) (fun c2 => ?_) (fun c2 => ?_)
      · skip
        rw [if_neg c2] at hnt
        exact absurd hnt (by decide)
      · skip
        rw [if_pos c2] at hnt
        exact absurd hnt (by decide)
  · skip
    rw [if_neg hq1] at hnt
    exact xt_leave (xt_runS (As := [.ref (α B), .int x1]) (rest := []) ⟨hx, hb, hml, hown, hts⟩ (t_P_channelOrThrow_1 l D α κ hα htr σ B x1 iB hnt) (cwS 2 hts (xa_S xw877 xw878 xw1 xw879) rfl rfl rfl (by decide +kernel) ⟨Nat.le_of_ble_eq_true rfl, Nat.le_of_ble_eq_true rfl⟩) ⟨st_blind, st_pre hP hK hN hG hS _⟩ rfl rfl hl.1 rfl (lv_room (Nat.le_of_ble_eq_true rfl)) d_P_usableOrThrow_2 ⟨by decide, by decide⟩) hte hlocks (by decide) (by decide)
set_option maxHeartbeats 4000000 in
set_option maxRecDepth 100000 in
theorem t_P_usableOrThrow_2 (l : Launch) (D : va_G) (α : Nat → Nat) (κ : Nat → ClassId) (hα : xb_inj α 35) (htr : l.stackTraces = false) (σ : xb_St) (B : Nat) (x1 : Int32) (iB : sp_isEndpoint B) (hnt : th_P_usableOrThrow B x1 σ = 2) : xt_Met l y_P_usableOrThrow w_P_usableOrThrow ({ frames := 7, cells := 1, slots := 6, locals := 112 }) (va_Pc ([.ref (α B), .int x1]) (st_Pre D α κ σ)) "java/lang/IllegalStateException" 1 6 := by
  unfold th_P_usableOrThrow at hnt
  refine xt_ofW (cc := b_P_usableOrThrow) (maxL := 3) (ret := (some (.object "SecurePair$Channel"))) (by decide) rfl ?_
  intro p e s m args below meth c s₁ B_ hml hte hv
  obtain ⟨rfl, ⟨hP, hK, hN⟩, hG⟩ := hv
  have hx := B_.exec
  have hb := B_.bytes
  have hr := B_.returns
  have hts := atoms_spec (ws := w_P_usableOrThrow) B_.pre
  have ht : ∀ w ∈ xa, w.before _ s = true := fun w h => hts w (List.mem_cons_of_mem _ h)
  have hown : s.vm.findClass "SecurePair" = some m.cls := findClass_of_methodNamed B_.named
  have hlocks := B_.notSynchronized
  have hD := sp_D hα κ
  have hS : va_S (fun _ => False) s.heap s.heap [] := va_S.rf
  have hlA := sp_lnA_is iB
  have hlD := sp_lnD_is iB
  have hln := sp_ln_ne iB
  have hl := lv_entry ([.ref (α B), .int x1]) (n := 3) (Nat.le_of_ble_eq_true rfl)
  rw [lg_entry_eq]
  generalize (lg_sl ([.ref (α B), .int x1]) ++ List.replicate (3 - (lg_sl ([.ref (α B), .int x1])).length) Slot.unset).toArray = ls at hl ⊢
  have hl : lv_has ls 3 [(0, .ref (α B)), (1, .int x1)] := hl
  refine lv_aload_n hx hb d_P_usableOrThrow_0 rfl (lv_at hl 0 rfl) ?_
  refine lv_iload_n hx hb d_P_usableOrThrow_1 rfl (lv_at hl 1 rfl) ?_
  by_cases hq1 : (th_P_channelOrThrow B x1 σ) = 0
  · skip
    rw [if_pos hq1] at hnt
    refine xn_cq (va_runS (As := [.ref (α B), .int x1]) (rest := []) ⟨hx, hb, hml, hown, hts⟩ (n_P_channelOrThrow l D α κ hα σ B x1 iB hq1) (cwS 2 hts (xa_S xw877 xw878 xw1 xw879) rfl rfl rfl (by decide +kernel) ⟨Nat.le_of_ble_eq_true rfl, Nat.le_of_ble_eq_true rfl⟩) ⟨sp_blind, sp_pre hP hK hN _⟩ rfl rfl hl.1 rfl (lv_room (Nat.le_of_ble_eq_true rfl)) d_P_usableOrThrow_2 ⟨Nat.le_of_ble_eq_true rfl, Nat.le_of_ble_eq_true rfl⟩) hS (fun H locs hP hS => ?_)
    obtain rfl := xn_nil hS
    rcases c1 : (p_cot B x1 σ) with _ | K1
    · exact absurd c1 (p_cot_nn hq1)
    · skip
      have iK1 := p_cot_is iB c1
      rw [xb_om_some c1] at hnt
      refine lv_astore_n (lv' := [(2, .ref (α K1)), (0, .ref (α B)), (1, .int x1)]) hx hb d_P_usableOrThrow_5 rfl hl (by decide) rfl (fun ls hl => ?_)
      refine lv_aload_n hx hb d_P_usableOrThrow_6 rfl (lv_at hl 1 rfl) ?_
      refine lv_aload_n hx hb d_P_usableOrThrow_7 rfl (lv_at hl 0 rfl) ?_
      refine xn_ci (sp_runE (n := 1) (As := [.ref (α K1)]) (rest := []) ⟨hx, hb, hml, hown, hts⟩ (n_Endpoint_mayUse l D α κ hα σ B K1 iB iK1) iB xw881 xw883 xw884 xw885 xw882 xw3 xw886 rfl rfl rfl (by decide +kernel) ⟨Nat.le_of_ble_eq_true rfl, Nat.le_of_ble_eq_true rfl⟩ hP hK hN rfl rfl hl.1 rfl (lv_room (Nat.le_of_ble_eq_true rfl)) d_P_usableOrThrow_8 ⟨Nat.le_of_ble_eq_true rfl, Nat.le_of_ble_eq_true rfl⟩) hS (fun H locs hP hS => ?_)
      obtain rfl := xn_nil hS
      refine lv_if_ne (tgt := 24) hx hb d_P_usableOrThrow_11 (by decide) (fun c2 => ?_) (fun c2 => ?_)
      · skip
        rw [if_neg c2] at hnt
        exact absurd hnt (by decide)
      · skip
        rw [if_pos c2] at hnt
        obtain ⟨sa, hsa⟩ := hG.2.2.1 (220, "not ready, or the channel is not open") (by decide)
        exact xt_throw hx hb htr (own := "SecurePair") (text := "not ready, or the channel is not open") hown (by decide +kernel) (by decide +kernel) (ht _ xw588) (ht _ xw16) hsa.1 hsa.2 (xt_atoms [12, 535, 544, 549, 552, 554, 536, 537, 27, 28, 538, 543, 550, 570, 525, 571, 527, 572, 529, 539, 541, 531, 566, 567, 569, 531, 599, 600, 601, 560, 560, 561, 562, 563, 563, 564, 565, 566, 598, 589, 591, 547, 592, 593, 594, 595, 534, 533, 596] xt_g75 xt_b75 (by decide) ht hG) (hl.1.trans hml.symm) hte d_P_usableOrThrow_14 d_P_usableOrThrow_17 d_P_usableOrThrow_18 d_P_usableOrThrow_20 d_P_usableOrThrow_23 (by decide) (by decide) (by decide) (by decide) hlocks (by decide) (by decide) hS.1
  · skip
    rw [if_neg hq1] at hnt
    exact absurd hnt (th_P_channelOrThrow_v2 B x1 σ iB)
theorem p_uot_nn {B : Nat} {x : Int32} {σ : xb_St} (h : th_P_usableOrThrow B x σ = 0) : p_uot B x σ ≠ none := by
  unfold th_P_usableOrThrow at h
  have h0 := xb_th0 h
  rw [if_pos h0] at h
  rcases e : p_cot B x σ with _ | K
  · exact absurd e (p_cot_nn h0)
  · rw [xb_om_some e] at h
    unfold p_uot
    rw [xb_om_some e]
    by_cases c : p_mayUse B K σ = 0
    · rw [if_pos c] at h; exact absurd h (by decide)
    · rw [if_neg c]; exact nofun
theorem p_uot_is {B K : Nat} {x : Int32} {σ : xb_St} (iB : sp_isEndpoint B) (h : p_uot B x σ = some K) : sp_isChannel K := by
  unfold p_uot at h
  rcases e : p_cot B x σ with _ | K1
  · rw [xb_om_none e] at h; exact nomatch h
  · rw [xb_om_some e] at h
    by_cases c : p_mayUse B K1 σ = 0
    · rw [if_pos c] at h; exact nomatch h
    · rw [if_neg c] at h; exact p_cot_is iB (e.trans h)
