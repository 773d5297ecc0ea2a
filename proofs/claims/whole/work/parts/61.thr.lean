set_option maxHeartbeats 4000000 in
set_option maxRecDepth 100000 in
theorem n_P_endpointOf (l : Launch) (D : va_G) (α : Nat → Nat) (κ : Nat → ClassId) (hα : xb_inj α 35) (σ : xb_St) (Z : Nat) (x1 : Int32) (iZ : sp_isP Z) : Met l y_P_endpointOf w_P_endpointOf ({ frames := 0, cells := 0, slots := 0, locals := 0 }) (va_Pc ([.ref (α Z), .int x1]) (sp_Pre D α κ σ)) (va_Qq (fun r (u : xb_St) => r = (p_endpointOf Z x1 σ).map α ∧ u = σ) (sp_B D α κ) (fun _ => False)) 0 0 (fun _ => False) := by
  refine Met.ofW (cc := b_P_endpointOf) (maxL := 2) (ret := (some (.object "SecurePair$Endpoint"))) (by decide) rfl ?_
  intro p e s m args below meth c s₁ B_ hml hv
  obtain ⟨rfl, hP, hK, hN⟩ := hv
  have hx := B_.exec
  have hb := B_.bytes
  have hr := B_.returns
  have hts := atoms_spec (ws := w_P_endpointOf) B_.pre
  have ht : ∀ w ∈ xa, w.before _ s = true := fun w h => hts w (List.mem_cons_of_mem _ h)
  have hown : s.vm.findClass "SecurePair" = some m.cls := findClass_of_methodNamed B_.named
  have hlocks := B_.notSynchronized
  have hD := sp_D hα κ
  have hS : va_S (fun _ => False) s.heap s.heap [] := va_S.rf
  have hl := lv_entry ([.ref (α Z), .int x1]) (n := 2) (Nat.le_of_ble_eq_true rfl)
  rw [lg_entry_eq]
  generalize (lg_sl ([.ref (α Z), .int x1]) ++ List.replicate (2 - (lg_sl ([.ref (α Z), .int x1])).length) Slot.unset).toArray = ls at hl ⊢
  have hl : lv_has ls 2 [(0, .ref (α Z)), (1, .int x1)] := hl
  refine lv_iload_n hx hb d_P_endpointOf_0 rfl (lv_at hl 1 rfl) ?_
  refine lv_if_ne (tgt := 9) hx hb d_P_endpointOf_1 (by decide) (fun c1 => ?_) (fun c1 => ?_)
  · skip
    refine lv_iload_n hx hb d_P_endpointOf_9 rfl (lv_at hl 1 rfl) ?_
    refine lv_iconst (v := 1) hx hb d_P_endpointOf_10 (by decide) ?_
    refine lv_icmp_ne (tgt := 21) hx hb d_P_endpointOf_11 (by decide) (fun c2 => ?_) (fun c2 => ?_)
    · skip
      refine lv_null hx hb d_P_endpointOf_21 ?_
      exact W.aret (v := .null) hx hb hr (Or.inl ⟨_, rfl⟩) (Or.inl rfl) (fun t ht_ hW => ⟨⟨none, σ, rfl, ⟨(congrArg (Option.map α) ((((if_neg c1).trans ((if_neg c2))).symm) : none = p_endpointOf Z x1 σ)), rfl⟩, by rw [sp_B, ht_]; exact hP⟩, hS.F ht_⟩) hS.2.2 d_P_endpointOf_22
    · skip
      refine lv_aload_n hx hb d_P_endpointOf_14 rfl (lv_at hl 0 rfl) ?_
      refine sp_g_P (v := .ref (α 20)) hx hb ht hown hK hP iZ 1 (by decide) (ht _ xw330) (fun _ h_ => h_) rfl d_P_endpointOf_15 ?_
      refine lv_goto (tgt := 22) hx hb d_P_endpointOf_18 (by decide) ?_
      exact W.aret (v := .ref (α 20)) hx hb hr (Or.inl ⟨_, rfl⟩) (Or.inr ⟨_, rfl⟩) (fun t ht_ hW => ⟨⟨some (α 20), σ, rfl, ⟨(congrArg (Option.map α) ((((if_neg c1).trans ((if_pos c2))).symm) : (some 20) = p_endpointOf Z x1 σ)), rfl⟩, by rw [sp_B, ht_]; exact hP⟩, hS.F ht_⟩) hS.2.2 d_P_endpointOf_22
  · skip
    refine lv_aload_n hx hb d_P_endpointOf_4 rfl (lv_at hl 0 rfl) ?_
    refine sp_g_P (v := .ref (α 5)) hx hb ht hown hK hP iZ 0 (by decide) (ht _ xw329) (fun _ h_ => h_) rfl d_P_endpointOf_5 ?_
    exact W.aret (v := .ref (α 5)) hx hb hr (Or.inl ⟨_, rfl⟩) (Or.inr ⟨_, rfl⟩) (fun t ht_ hW => ⟨⟨some (α 5), σ, rfl, ⟨(congrArg (Option.map α) ((((if_pos c1)).symm) : (some 5) = p_endpointOf Z x1 σ)), rfl⟩, by rw [sp_B, ht_]; exact hP⟩, hS.F ht_⟩) hS.2.2 d_P_endpointOf_8
set_option maxHeartbeats 4000000 in
set_option maxRecDepth 100000 in
theorem n_Endpoint_mayStart (l : Launch) (D : va_G) (α : Nat → Nat) (κ : Nat → ClassId) (hα : xb_inj α 35) (σ : xb_St) (B : Nat) (iB : sp_isEndpoint B) : Met l y_Endpoint_mayStart w_Endpoint_mayStart ({ frames := 0, cells := 0, slots := 0, locals := 0 }) (va_Pc ([.ref (α B)]) (sp_Pre D α κ σ)) (va_Qi (fun r (u : xb_St) => r = p_mayStart B σ ∧ u = σ) (sp_B D α κ) (fun _ => False)) 0 0 (fun _ => False) := by
  refine Met.ofW (cc := b_Endpoint_mayStart) (maxL := 1) (ret := (some .boolean)) (by decide) rfl ?_
  intro p e s m args below meth c s₁ B_ hml hv
  obtain ⟨rfl, hP, hK, hN⟩ := hv
  have hx := B_.exec
  have hb := B_.bytes
  have hr := B_.returns
  have hts := atoms_spec (ws := w_Endpoint_mayStart) B_.pre
  have ht : ∀ w ∈ xa, w.before _ s = true := fun w h => hts w (List.mem_cons_of_mem _ h)
  have hown : s.vm.findClass "SecurePair$Endpoint" = some m.cls := findClass_of_methodNamed B_.named
  have hlocks := B_.notSynchronized
  have hD := sp_D hα κ
  have hS : va_S (fun _ => False) s.heap s.heap [] := va_S.rf
  have hlA := sp_lnA_is iB
  have hlD := sp_lnD_is iB
  have hln := sp_ln_ne iB
  have hl := lv_entry ([.ref (α B)]) (n := 1) (Nat.le_of_ble_eq_true rfl)
  rw [lg_entry_eq]
  generalize (lg_sl ([.ref (α B)]) ++ List.replicate (1 - (lg_sl ([.ref (α B)])).length) Slot.unset).toArray = ls at hl ⊢
  have hl : lv_has ls 1 [(0, .ref (α B))] := hl
  refine lv_aload_n hx hb d_Endpoint_mayStart_0 rfl (lv_at hl 0 rfl) ?_
  refine sp_g_Endpoint (v := .int (σ.1 B 9)) hx hb ht hown hK hP iB 9 (by decide) (ht _ xw245) (fun _ h_ => h_) rfl d_Endpoint_mayStart_1 ?_
  refine lv_if_eq (tgt := 15) hx hb d_Endpoint_mayStart_4 (by decide) (fun c1 => ?_) (fun c1 => ?_)
  · skip
    refine lv_iconst (v := 1) hx hb d_Endpoint_mayStart_15 (by decide) ?_
    refine lv_goto (tgt := 20) hx hb d_Endpoint_mayStart_16 (by decide) ?_
    exact W.zret (v := (1 : Int32)) hx hb hr rfl (fun t ht_ hW => ⟨⟨(1 : Int32), σ, rfl, ⟨((if_pos c1)).symm, rfl⟩, by rw [sp_B, ht_]; exact hP⟩, hS.F ht_⟩) hS.2.2 d_Endpoint_mayStart_20
  · skip
    refine lv_aload_n hx hb d_Endpoint_mayStart_7 rfl (lv_at hl 0 rfl) ?_
    refine sp_g_Endpoint (v := .int (σ.1 B 9)) hx hb ht hown hK hP iB 9 (by decide) (ht _ xw245) (fun _ h_ => h_) rfl d_Endpoint_mayStart_8 ?_
    refine lv_iconst (v := 4) hx hb d_Endpoint_mayStart_11 (by decide) ?_
    refine lv_icmp_ne (tgt := 19) hx hb d_Endpoint_mayStart_12 (by decide) (fun c2 => ?_) (fun c2 => ?_)
    · skip
      refine lv_iconst (v := 0) hx hb d_Endpoint_mayStart_19 (by decide) ?_
      exact W.zret (v := (0 : Int32)) hx hb hr rfl (fun t ht_ hW => ⟨⟨(0 : Int32), σ, rfl, ⟨((if_neg c1).trans ((if_neg c2))).symm, rfl⟩, by rw [sp_B, ht_]; exact hP⟩, hS.F ht_⟩) hS.2.2 d_Endpoint_mayStart_20
    · skip
      refine lv_iconst (v := 1) hx hb d_Endpoint_mayStart_15 (by decide) ?_
      refine lv_goto (tgt := 20) hx hb d_Endpoint_mayStart_16 (by decide) ?_
      exact W.zret (v := (1 : Int32)) hx hb hr rfl (fun t ht_ hW => ⟨⟨(1 : Int32), σ, rfl, ⟨((if_neg c1).trans ((if_pos c2))).symm, rfl⟩, by rw [sp_B, ht_]; exact hP⟩, hS.F ht_⟩) hS.2.2 d_Endpoint_mayStart_20
set_option maxHeartbeats 4000000 in
set_option maxRecDepth 100000 in
theorem n_Endpoint_channelAt (l : Launch) (D : va_G) (α : Nat → Nat) (κ : Nat → ClassId) (hα : xb_inj α 35) (σ : xb_St) (B : Nat) (x1 : Int64) (iB : sp_isEndpoint B) : Met l y_Endpoint_channelAt w_Endpoint_channelAt ({ frames := 0, cells := 0, slots := 0, locals := 0 }) (va_Pc ([.ref (α B), .long x1]) (sp_Pre D α κ σ)) (va_Qq (fun r (u : xb_St) => r = (p_channelAt B x1 σ).map α ∧ u = σ) (sp_B D α κ) (fun _ => False)) 0 0 (fun _ => False) := by
  refine Met.ofW (cc := b_Endpoint_channelAt) (maxL := 3) (ret := (some (.object "SecurePair$Channel"))) (by decide) rfl ?_
  intro p e s m args below meth c s₁ B_ hml hv
  obtain ⟨rfl, hP, hK, hN⟩ := hv
  have hx := B_.exec
  have hb := B_.bytes
  have hr := B_.returns
  have hts := atoms_spec (ws := w_Endpoint_channelAt) B_.pre
  have ht : ∀ w ∈ xa, w.before _ s = true := fun w h => hts w (List.mem_cons_of_mem _ h)
  have hown : s.vm.findClass "SecurePair$Endpoint" = some m.cls := findClass_of_methodNamed B_.named
  have hlocks := B_.notSynchronized
  have hD := sp_D hα κ
  have hS : va_S (fun _ => False) s.heap s.heap [] := va_S.rf
  have hlA := sp_lnA_is iB
  have hlD := sp_lnD_is iB
  have hln := sp_ln_ne iB
  have hl := lv_entry ([.ref (α B), .long x1]) (n := 3) (Nat.le_of_ble_eq_true rfl)
  rw [lg_entry_eq]
  generalize (lg_sl ([.ref (α B), .long x1]) ++ List.replicate (3 - (lg_sl ([.ref (α B), .long x1])).length) Slot.unset).toArray = ls at hl ⊢
  have hl : lv_has ls 3 [(0, .ref (α B)), (1, .long x1)] := hl
  refine lv_lload_n hx hb d_Endpoint_channelAt_0 rfl (lv_at hl 1 rfl) ?_
  refine lv_lconst (v := 0) hx hb d_Endpoint_channelAt_1 (by decide) ?_
  refine xb_llt (tgt := 24) hx hb d_Endpoint_channelAt_2 d_Endpoint_channelAt_3 (by decide) (fun c1 => ?_) (fun c1 => ?_)
  · skip
    refine lv_null hx hb d_Endpoint_channelAt_24 ?_
    exact W.aret (v := .null) hx hb hr (Or.inl ⟨_, rfl⟩) (Or.inl rfl) (fun t ht_ hW => ⟨⟨none, σ, rfl, ⟨(congrArg (Option.map α) ((((if_pos c1)).symm) : none = p_channelAt B x1 σ)), rfl⟩, by rw [sp_B, ht_]; exact hP⟩, hS.F ht_⟩) hS.2.2 d_Endpoint_channelAt_25
  · skip
    refine lv_lload_n hx hb d_Endpoint_channelAt_6 rfl (lv_at hl 1 rfl) ?_
    refine lv_ldc2 hx hb hown (ht _ xw483) d_Endpoint_channelAt_7 ?_
    refine xb_lge (tgt := 24) hx hb d_Endpoint_channelAt_10 d_Endpoint_channelAt_11 (by decide) (fun c2 => ?_) (fun c2 => ?_)
    · skip
      refine lv_null hx hb d_Endpoint_channelAt_24 ?_
      exact W.aret (v := .null) hx hb hr (Or.inl ⟨_, rfl⟩) (Or.inl rfl) (fun t ht_ hW => ⟨⟨none, σ, rfl, ⟨(congrArg (Option.map α) ((((if_neg c1).trans ((if_pos c2))).symm) : none = p_channelAt B x1 σ)), rfl⟩, by rw [sp_B, ht_]; exact hP⟩, hS.F ht_⟩) hS.2.2 d_Endpoint_channelAt_25
    · skip
      have hz := sp_c3 c1 c2
      refine lv_aload_n hx hb d_Endpoint_channelAt_14 rfl (lv_at hl 0 rfl) ?_
      refine sp_g_Endpoint (v := .ref (α (B + 8))) hx hb ht hown hK hP iB 8 (by decide) (ht _ xw244) (fun _ h_ => h_) rfl d_Endpoint_channelAt_15 ?_
      refine lv_lload_n hx hb d_Endpoint_channelAt_18 rfl (lv_at hl 1 rfl) ?_
      refine lv_l2i (v := x1.toInt32) hx hb d_Endpoint_channelAt_19 (by rfl) ?_
      refine sp_ga_chArr (n := x1.toInt32.toNatClampNeg) hx hb hK hP (by omega) (xb_in hz.1 (by omega) (by decide)) (xb_cl hz.1 (by omega)) d_Endpoint_channelAt_20 ?_
      refine lv_goto (tgt := 25) hx hb d_Endpoint_channelAt_21 (by decide) ?_
      exact W.aret (v := .ref (α (B + 8 + 1 + x1.toInt32.toNatClampNeg))) hx hb hr (Or.inl ⟨_, rfl⟩) (Or.inr ⟨_, rfl⟩) (fun t ht_ hW => ⟨⟨some (α (B + 8 + 1 + x1.toInt32.toNatClampNeg)), σ, rfl, ⟨(congrArg (Option.map α) ((((if_neg c1).trans ((if_neg c2))).symm) : (some (B + 8 + 1 + x1.toInt32.toNatClampNeg)) = p_channelAt B x1 σ)), rfl⟩, by rw [sp_B, ht_]; exact hP⟩, hS.F ht_⟩) hS.2.2 d_Endpoint_channelAt_25
set_option maxHeartbeats 4000000 in
set_option maxRecDepth 100000 in
theorem n_Endpoint_leastFree (l : Launch) (D : va_G) (α : Nat → Nat) (κ : Nat → ClassId) (hα : xb_inj α 35) (σ : xb_St) (B : Nat) (iB : sp_isEndpoint B) : Met l y_Endpoint_leastFree w_Endpoint_leastFree ({ frames := 0, cells := 0, slots := 0, locals := 0 }) (va_Pc ([.ref (α B)]) (sp_Pre D α κ σ)) (va_Qq (fun r (u : xb_St) => r = (p_leastFree B σ).map α ∧ u = σ) (sp_B D α κ) (fun _ => False)) 0 0 (fun _ => False) := by
  refine Met.ofW (cc := b_Endpoint_leastFree) (maxL := 2) (ret := (some (.object "SecurePair$Channel"))) (by decide) rfl ?_
  intro p e s m args below meth c s₁ B_ hml hv
  obtain ⟨rfl, hP, hK, hN⟩ := hv
  have hx := B_.exec
  have hb := B_.bytes
  have hr := B_.returns
  have hts := atoms_spec (ws := w_Endpoint_leastFree) B_.pre
  have ht : ∀ w ∈ xa, w.before _ s = true := fun w h => hts w (List.mem_cons_of_mem _ h)
  have hown : s.vm.findClass "SecurePair$Endpoint" = some m.cls := findClass_of_methodNamed B_.named
  have hlocks := B_.notSynchronized
  have hD := sp_D hα κ
  have hS : va_S (fun _ => False) s.heap s.heap [] := va_S.rf
  have hlA := sp_lnA_is iB
  have hlD := sp_lnD_is iB
  have hln := sp_ln_ne iB
  have hl := lv_entry ([.ref (α B)]) (n := 2) (Nat.le_of_ble_eq_true rfl)
  rw [lg_entry_eq]
  generalize (lg_sl ([.ref (α B)]) ++ List.replicate (2 - (lg_sl ([.ref (α B)])).length) Slot.unset).toArray = ls at hl ⊢
  have hl : lv_has ls 2 [(0, .ref (α B))] := hl
  refine lv_iconst (v := 0) hx hb d_Endpoint_leastFree_0 (by decide) ?_
  refine lv_istore_n (lv' := [(1, .int (0 : Int32)), (0, .ref (α B))]) hx hb d_Endpoint_leastFree_1 rfl hl (by decide) rfl (fun ls hl => ?_)
  refine lv_iload_n hx hb d_Endpoint_leastFree_2 rfl (lv_at hl 0 rfl) ?_
  refine lv_iconst (v := 3) hx hb d_Endpoint_leastFree_3 (by decide) ?_
  refine lv_icmp_ge (tgt := 32) hx hb d_Endpoint_leastFree_4 (by decide) (fun h_ => absurd h_ (by decide)) (fun _ => ?_)
  refine lv_aload_n hx hb d_Endpoint_leastFree_7 rfl (lv_at hl 1 rfl) ?_
  refine sp_g_Endpoint (v := .ref (α (B + 8))) hx hb ht hown hK hP iB 8 (by decide) (ht _ xw244) (fun _ h_ => h_) rfl d_Endpoint_leastFree_8 ?_
  refine lv_iload_n hx hb d_Endpoint_leastFree_11 rfl (lv_at hl 0 rfl) ?_
  refine sp_ga_chArr (n := 0) hx hb hK hP (by omega) (xb_in (xb_lit (x := (0 : Int32)) 0 rfl) (by omega) (by decide)) (xb_cl (xb_lit (x := (0 : Int32)) 0 rfl) (by omega)) d_Endpoint_leastFree_12 ?_
  refine sp_g_Channel (v := .int (σ.1 (B + 8 + 1 + 0) 2)) hx hb ht hown hK hP (by omega) 2 (by decide) (ht _ xw195) (fun _ h_ => h_) rfl d_Endpoint_leastFree_13 ?_
  refine lv_if_ne (tgt := 26) hx hb d_Endpoint_leastFree_16 (by decide) (fun c1 => ?_) (fun c1 => ?_)
  · skip
    refine lv_iinc (v := (1 : Int32)) (k := 0) (lv' := [(1, .int (1 : Int32)), (0, .ref (α B))]) hx hb d_Endpoint_leastFree_26 hl rfl (by decide) (by decide) rfl (fun ls hl => ?_)
    refine lv_goto (tgt := 2) hx hb d_Endpoint_leastFree_29 (by decide) ?_
    refine lv_iload_n hx hb d_Endpoint_leastFree_2 rfl (lv_at hl 0 rfl) ?_
    refine lv_iconst (v := 3) hx hb d_Endpoint_leastFree_3 (by decide) ?_
    refine lv_icmp_ge (tgt := 32) hx hb d_Endpoint_leastFree_4 (by decide) (fun h_ => absurd h_ (by decide)) (fun _ => ?_)
    refine lv_aload_n hx hb d_Endpoint_leastFree_7 rfl (lv_at hl 1 rfl) ?_
    refine sp_g_Endpoint (v := .ref (α (B + 8))) hx hb ht hown hK hP iB 8 (by decide) (ht _ xw244) (fun _ h_ => h_) rfl d_Endpoint_leastFree_8 ?_
    refine lv_iload_n hx hb d_Endpoint_leastFree_11 rfl (lv_at hl 0 rfl) ?_
    refine sp_ga_chArr (n := 1) hx hb hK hP (by omega) (xb_in (xb_lit (x := (1 : Int32)) 1 rfl) (by omega) (by decide)) (xb_cl (xb_lit (x := (1 : Int32)) 1 rfl) (by omega)) d_Endpoint_leastFree_12 ?_
    refine sp_g_Channel (v := .int (σ.1 (B + 8 + 1 + 1) 2)) hx hb ht hown hK hP (by omega) 2 (by decide) (ht _ xw195) (fun _ h_ => h_) rfl d_Endpoint_leastFree_13 ?_
    refine lv_if_ne (tgt := 26) hx hb d_Endpoint_leastFree_16 (by decide) (fun c2 => ?_) (fun c2 => ?_)
    · skip
      refine lv_iinc (v := (2 : Int32)) (k := 0) (lv' := [(1, .int (2 : Int32)), (0, .ref (α B))]) hx hb d_Endpoint_leastFree_26 hl rfl (by decide) (by decide) rfl (fun ls hl => ?_)
      refine lv_goto (tgt := 2) hx hb d_Endpoint_leastFree_29 (by decide) ?_
      refine lv_iload_n hx hb d_Endpoint_leastFree_2 rfl (lv_at hl 0 rfl) ?_
      refine lv_iconst (v := 3) hx hb d_Endpoint_leastFree_3 (by decide) ?_
      refine lv_icmp_ge (tgt := 32) hx hb d_Endpoint_leastFree_4 (by decide) (fun h_ => absurd h_ (by decide)) (fun _ => ?_)
      refine lv_aload_n hx hb d_Endpoint_leastFree_7 rfl (lv_at hl 1 rfl) ?_
      refine sp_g_Endpoint (v := .ref (α (B + 8))) hx hb ht hown hK hP iB 8 (by decide) (ht _ xw244) (fun _ h_ => h_) rfl d_Endpoint_leastFree_8 ?_
      refine lv_iload_n hx hb d_Endpoint_leastFree_11 rfl (lv_at hl 0 rfl) ?_
      refine sp_ga_chArr (n := 2) hx hb hK hP (by omega) (xb_in (xb_lit (x := (2 : Int32)) 2 rfl) (by omega) (by decide)) (xb_cl (xb_lit (x := (2 : Int32)) 2 rfl) (by omega)) d_Endpoint_leastFree_12 ?_
      refine sp_g_Channel (v := .int (σ.1 (B + 8 + 1 + 2) 2)) hx hb ht hown hK hP (by omega) 2 (by decide) (ht _ xw195) (fun _ h_ => h_) rfl d_Endpoint_leastFree_13 ?_
      refine lv_if_ne (tgt := 26) hx hb d_Endpoint_leastFree_16 (by decide) (fun c3 => ?_) (fun c3 => ?_)
      · skip
        refine lv_iinc (v := (3 : Int32)) (k := 0) (lv' := [(1, .int (3 : Int32)), (0, .ref (α B))]) hx hb d_Endpoint_leastFree_26 hl rfl (by decide) (by decide) rfl (fun ls hl => ?_)
        refine lv_goto (tgt := 2) hx hb d_Endpoint_leastFree_29 (by decide) ?_
        refine lv_iload_n hx hb d_Endpoint_leastFree_2 rfl (lv_at hl 0 rfl) ?_
        refine lv_iconst (v := 3) hx hb d_Endpoint_leastFree_3 (by decide) ?_
        refine lv_icmp_ge (tgt := 32) hx hb d_Endpoint_leastFree_4 (by decide) (fun _ => ?_) (fun h_ => absurd h_ (by decide))
        refine lv_null hx hb d_Endpoint_leastFree_32 ?_
        exact W.aret (v := .null) hx hb hr (Or.inl ⟨_, rfl⟩) (Or.inl rfl) (fun t ht_ hW => ⟨⟨none, σ, rfl, ⟨(congrArg (Option.map α) ((((if_neg c1).trans ((if_neg c2).trans ((if_neg c3)))).symm) : none = p_leastFree B σ)), rfl⟩, by rw [sp_B, ht_]; exact hP⟩, hS.F ht_⟩) hS.2.2 d_Endpoint_leastFree_33
      · skip
        refine lv_aload_n hx hb d_Endpoint_leastFree_19 rfl (lv_at hl 1 rfl) ?_
        refine sp_g_Endpoint (v := .ref (α (B + 8))) hx hb ht hown hK hP iB 8 (by decide) (ht _ xw244) (fun _ h_ => h_) rfl d_Endpoint_leastFree_20 ?_
        refine lv_iload_n hx hb d_Endpoint_leastFree_23 rfl (lv_at hl 0 rfl) ?_
        refine sp_ga_chArr (n := 2) hx hb hK hP (by omega) (xb_in (xb_lit (x := (2 : Int32)) 2 rfl) (by omega) (by decide)) (xb_cl (xb_lit (x := (2 : Int32)) 2 rfl) (by omega)) d_Endpoint_leastFree_24 ?_
        exact W.aret (v := .ref (α (B + 8 + 1 + 2))) hx hb hr (Or.inl ⟨_, rfl⟩) (Or.inr ⟨_, rfl⟩) (fun t ht_ hW => ⟨⟨some (α (B + 8 + 1 + 2)), σ, rfl, ⟨(congrArg (Option.map α) ((((if_neg c1).trans ((if_neg c2).trans ((if_pos c3)))).symm) : (some (B + 8 + 1 + 2)) = p_leastFree B σ)), rfl⟩, by rw [sp_B, ht_]; exact hP⟩, hS.F ht_⟩) hS.2.2 d_Endpoint_leastFree_25
    · skip
      refine lv_aload_n hx hb d_Endpoint_leastFree_19 rfl (lv_at hl 1 rfl) ?_
      refine sp_g_Endpoint (v := .ref (α (B + 8))) hx hb ht hown hK hP iB 8 (by decide) (ht _ xw244) (fun _ h_ => h_) rfl d_Endpoint_leastFree_20 ?_
      refine lv_iload_n hx hb d_Endpoint_leastFree_23 rfl (lv_at hl 0 rfl) ?_
      refine sp_ga_chArr (n := 1) hx hb hK hP (by omega) (xb_in (xb_lit (x := (1 : Int32)) 1 rfl) (by omega) (by decide)) (xb_cl (xb_lit (x := (1 : Int32)) 1 rfl) (by omega)) d_Endpoint_leastFree_24 ?_
      exact W.aret (v := .ref (α (B + 8 + 1 + 1))) hx hb hr (Or.inl ⟨_, rfl⟩) (Or.inr ⟨_, rfl⟩) (fun t ht_ hW => ⟨⟨some (α (B + 8 + 1 + 1)), σ, rfl, ⟨(congrArg (Option.map α) ((((if_neg c1).trans ((if_pos c2))).symm) : (some (B + 8 + 1 + 1)) = p_leastFree B σ)), rfl⟩, by rw [sp_B, ht_]; exact hP⟩, hS.F ht_⟩) hS.2.2 d_Endpoint_leastFree_25
  · skip
    refine lv_aload_n hx hb d_Endpoint_leastFree_19 rfl (lv_at hl 1 rfl) ?_
    refine sp_g_Endpoint (v := .ref (α (B + 8))) hx hb ht hown hK hP iB 8 (by decide) (ht _ xw244) (fun _ h_ => h_) rfl d_Endpoint_leastFree_20 ?_
    refine lv_iload_n hx hb d_Endpoint_leastFree_23 rfl (lv_at hl 0 rfl) ?_
    refine sp_ga_chArr (n := 0) hx hb hK hP (by omega) (xb_in (xb_lit (x := (0 : Int32)) 0 rfl) (by omega) (by decide)) (xb_cl (xb_lit (x := (0 : Int32)) 0 rfl) (by omega)) d_Endpoint_leastFree_24 ?_
    exact W.aret (v := .ref (α (B + 8 + 1 + 0))) hx hb hr (Or.inl ⟨_, rfl⟩) (Or.inr ⟨_, rfl⟩) (fun t ht_ hW => ⟨⟨some (α (B + 8 + 1 + 0)), σ, rfl, ⟨(congrArg (Option.map α) ((((if_pos c1)).symm) : (some (B + 8 + 1 + 0)) = p_leastFree B σ)), rfl⟩, by rw [sp_B, ht_]; exact hP⟩, hS.F ht_⟩) hS.2.2 d_Endpoint_leastFree_25
set_option maxHeartbeats 4000000 in
set_option maxRecDepth 100000 in
theorem n_Endpoint_mayUse (l : Launch) (D : va_G) (α : Nat → Nat) (κ : Nat → ClassId) (hα : xb_inj α 35) (σ : xb_St) (B : Nat) (C : Nat) (iB : sp_isEndpoint B) (iC : sp_isChannel C) : Met l y_Endpoint_mayUse w_Endpoint_mayUse ({ frames := 0, cells := 0, slots := 0, locals := 0 }) (va_Pc ([.ref (α B), .ref (α C)]) (sp_Pre D α κ σ)) (va_Qi (fun r (u : xb_St) => r = p_mayUse B C σ ∧ u = σ) (sp_B D α κ) (fun _ => False)) 0 0 (fun _ => False) := by
  refine Met.ofW (cc := b_Endpoint_mayUse) (maxL := 2) (ret := (some .boolean)) (by decide) rfl ?_
  intro p e s m args below meth c s₁ B_ hml hv
  obtain ⟨rfl, hP, hK, hN⟩ := hv
  have hx := B_.exec
  have hb := B_.bytes
  have hr := B_.returns
  have hts := atoms_spec (ws := w_Endpoint_mayUse) B_.pre
  have ht : ∀ w ∈ xa, w.before _ s = true := fun w h => hts w (List.mem_cons_of_mem _ h)
  have hown : s.vm.findClass "SecurePair$Endpoint" = some m.cls := findClass_of_methodNamed B_.named
  have hlocks := B_.notSynchronized
  have hD := sp_D hα κ
  have hS : va_S (fun _ => False) s.heap s.heap [] := va_S.rf
  have hlA := sp_lnA_is iB
  have hlD := sp_lnD_is iB
  have hln := sp_ln_ne iB
  have hl := lv_entry ([.ref (α B), .ref (α C)]) (n := 2) (Nat.le_of_ble_eq_true rfl)
  rw [lg_entry_eq]
  generalize (lg_sl ([.ref (α B), .ref (α C)]) ++ List.replicate (2 - (lg_sl ([.ref (α B), .ref (α C)])).length) Slot.unset).toArray = ls at hl ⊢
  have hl : lv_has ls 2 [(0, .ref (α B)), (1, .ref (α C))] := hl
  refine lv_aload_n hx hb d_Endpoint_mayUse_0 rfl (lv_at hl 0 rfl) ?_
  refine sp_g_Endpoint (v := .int (σ.1 B 9)) hx hb ht hown hK hP iB 9 (by decide) (ht _ xw245) (fun _ h_ => h_) rfl d_Endpoint_mayUse_1 ?_
  refine lv_iconst (v := 4) hx hb d_Endpoint_mayUse_4 (by decide) ?_
  refine lv_icmp_ne (tgt := 20) hx hb d_Endpoint_mayUse_5 (by decide) (fun c1 => ?_) (fun c1 => ?_)
  · skip
    refine lv_iconst (v := 0) hx hb d_Endpoint_mayUse_20 (by decide) ?_
    exact W.zret (v := (0 : Int32)) hx hb hr rfl (fun t ht_ hW => ⟨⟨(0 : Int32), σ, rfl, ⟨((if_neg c1)).symm, rfl⟩, by rw [sp_B, ht_]; exact hP⟩, hS.F ht_⟩) hS.2.2 d_Endpoint_mayUse_21
  · skip
    refine lv_aload_n hx hb d_Endpoint_mayUse_8 rfl (lv_at hl 1 rfl) ?_
    refine sp_g_Channel (v := .int (σ.1 C 2)) hx hb ht hown hK hP iC 2 (by decide) (ht _ xw195) (fun _ h_ => h_) rfl d_Endpoint_mayUse_9 ?_
    refine lv_iconst (v := 2) hx hb d_Endpoint_mayUse_12 (by decide) ?_
    refine lv_icmp_ne (tgt := 20) hx hb d_Endpoint_mayUse_13 (by decide) (fun c2 => ?_) (fun c2 => ?_)
    · skip
      refine lv_iconst (v := 0) hx hb d_Endpoint_mayUse_20 (by decide) ?_
      exact W.zret (v := (0 : Int32)) hx hb hr rfl (fun t ht_ hW => ⟨⟨(0 : Int32), σ, rfl, ⟨((if_pos c1).trans ((if_neg c2))).symm, rfl⟩, by rw [sp_B, ht_]; exact hP⟩, hS.F ht_⟩) hS.2.2 d_Endpoint_mayUse_21
    · skip
      refine lv_iconst (v := 1) hx hb d_Endpoint_mayUse_16 (by decide) ?_
      refine lv_goto (tgt := 21) hx hb d_Endpoint_mayUse_17 (by decide) ?_
      exact W.zret (v := (1 : Int32)) hx hb hr rfl (fun t ht_ hW => ⟨⟨(1 : Int32), σ, rfl, ⟨((if_pos c1).trans ((if_pos c2))).symm, rfl⟩, by rw [sp_B, ht_]; exact hP⟩, hS.F ht_⟩) hS.2.2 d_Endpoint_mayUse_21
theorem om_nn {o : Option Nat} {k : Nat} (hk : ¬ k = 0) (h : xb_om o k (fun _ => 0) = 0) : ∃ K, o = some K := by
  cases o with
  | none => exact absurd h hk
  | some K => exact ⟨K, rfl⟩
abbrev b_P_endpointOrThrow : ByteArray := prog_1_method_26_code
def y_P_endpointOrThrow : MethodName := ⟨"SecurePair", "endpointOrThrow", "(I)LSecurePair$Endpoint;"⟩
abbrev w_P_endpointOrThrow : List Cond := .code y_P_endpointOrThrow b_P_endpointOrThrow 3 (some (.object "SecurePair$Endpoint")) :: xa
theorem d_P_endpointOrThrow_0 : decode b_P_endpointOrThrow 0 = .ok (.aload_n 0, 1) := by decide +kernel
theorem d_P_endpointOrThrow_1 : decode b_P_endpointOrThrow 1 = .ok (.iload_n 1, 1) := by decide +kernel
theorem d_P_endpointOrThrow_2 : decode b_P_endpointOrThrow 2 = .ok (.invokevirtual 28, 3) := by decide +kernel
theorem d_P_endpointOrThrow_5 : decode b_P_endpointOrThrow 5 = .ok (.astore_n 2, 1) := by decide +kernel
theorem d_P_endpointOrThrow_6 : decode b_P_endpointOrThrow 6 = .ok (.aload_n 2, 1) := by decide +kernel
theorem d_P_endpointOrThrow_7 : decode b_P_endpointOrThrow 7 = .ok (.ifnonnull 13, 3) := by decide +kernel
theorem d_P_endpointOrThrow_10 : decode b_P_endpointOrThrow 10 = .ok (.new 209, 3) := by decide +kernel
theorem d_P_endpointOrThrow_13 : decode b_P_endpointOrThrow 13 = .ok (.dup, 1) := by decide +kernel
theorem d_P_endpointOrThrow_14 : decode b_P_endpointOrThrow 14 = .ok (.ldc 211, 2) := by decide +kernel
theorem d_P_endpointOrThrow_16 : decode b_P_endpointOrThrow 16 = .ok (.invokespecial 213, 3) := by decide +kernel
theorem d_P_endpointOrThrow_19 : decode b_P_endpointOrThrow 19 = .ok (.athrow, 1) := by decide +kernel
theorem d_P_endpointOrThrow_20 : decode b_P_endpointOrThrow 20 = .ok (.aload_n 2, 1) := by decide +kernel
theorem d_P_endpointOrThrow_21 : decode b_P_endpointOrThrow 21 = .ok (.areturn, 1) := by decide +kernel
theorem xw15 : (Cond.initialized "java/lang/IndexOutOfBoundsException") ∈ xa := xa_t 15 (by decide +kernel) (by decide +kernel)
theorem xw513 : (Cond.classLink "SecurePair" (209 : Nat) "java/lang/IndexOutOfBoundsException") ∈ xa := xa_t 513 (by decide +kernel) (by decide +kernel)
def th_P_endpointOrThrow (Z : Nat) (x1 : Int32) (σ : xb_St) : Nat := (xb_om (p_endpointOf Z x1 σ) 1 (fun K1 => 0))
theorem th_P_endpointOrThrow_v2 (Z : Nat) (x1 : Int32) (σ : xb_St) (iZ : sp_isP Z) : ¬ th_P_endpointOrThrow Z x1 σ = 2 := by
  unfold th_P_endpointOrThrow xb_om
  split <;> simp
theorem th_P_endpointOrThrow_v3 (Z : Nat) (x1 : Int32) (σ : xb_St) (iZ : sp_isP Z) : ¬ th_P_endpointOrThrow Z x1 σ = 3 := by
  unfold th_P_endpointOrThrow xb_om
  split <;> simp
def p_eot (Z : Nat) (x1 : Int32) (σ : xb_St) : Option Nat := (xb_om (p_endpointOf Z x1 σ) none (fun K1 => (some K1)))
set_option maxHeartbeats 4000000 in
set_option maxRecDepth 100000 in
theorem n_P_endpointOrThrow (l : Launch) (D : va_G) (α : Nat → Nat) (κ : Nat → ClassId) (hα : xb_inj α 35) (σ : xb_St) (Z : Nat) (x1 : Int32) (iZ : sp_isP Z) (hnt : th_P_endpointOrThrow Z x1 σ = 0) : Met l y_P_endpointOrThrow w_P_endpointOrThrow ({ frames := 1, cells := 0, slots := 0, locals := 21 }) (va_Pc ([.ref (α Z), .int x1]) (sp_Pre D α κ σ)) (va_Qq (fun r (u : xb_St) => r = (p_eot Z x1 σ).map α ∧ u = σ) (sp_B D α κ) (fun _ => False)) 0 0 (fun _ => False) := by
  unfold th_P_endpointOrThrow at hnt
  refine Met.ofW (cc := b_P_endpointOrThrow) (maxL := 3) (ret := (some (.object "SecurePair$Endpoint"))) (by decide) rfl ?_
  intro p e s m args below meth c s₁ B_ hml hv
  obtain ⟨rfl, hP, hK, hN⟩ := hv
  have hx := B_.exec
  have hb := B_.bytes
  have hr := B_.returns
  have hts := atoms_spec (ws := w_P_endpointOrThrow) B_.pre
  have ht : ∀ w ∈ xa, w.before _ s = true := fun w h => hts w (List.mem_cons_of_mem _ h)
  have hown : s.vm.findClass "SecurePair" = some m.cls := findClass_of_methodNamed B_.named
  have hlocks := B_.notSynchronized
  have hD := sp_D hα κ
  have hS : va_S (fun _ => False) s.heap s.heap [] := va_S.rf
  have hl := lv_entry ([.ref (α Z), .int x1]) (n := 3) (Nat.le_of_ble_eq_true rfl)
  rw [lg_entry_eq]
  generalize (lg_sl ([.ref (α Z), .int x1]) ++ List.replicate (3 - (lg_sl ([.ref (α Z), .int x1])).length) Slot.unset).toArray = ls at hl ⊢
  have hl : lv_has ls 3 [(0, .ref (α Z)), (1, .int x1)] := hl
  refine lv_aload_n hx hb d_P_endpointOrThrow_0 rfl (lv_at hl 0 rfl) ?_
  refine lv_iload_n hx hb d_P_endpointOrThrow_1 rfl (lv_at hl 1 rfl) ?_
  refine xn_cq (va_runV (As := [.int x1]) (rest := []) ⟨hx, hb, hml, hown, hts⟩ (n_P_endpointOf l D α κ hα σ Z x1 iZ) (cwV 1 hts (xa_V xw340 xw342 xs0 xw1 xw343) rfl rfl rfl (by decide +kernel) ⟨Nat.le_of_ble_eq_true rfl, Nat.le_of_ble_eq_true rfl⟩) ⟨sp_blind, va_recv hK hP rfl (sp_at_P iZ), sp_pre hP hK hN _⟩ rfl rfl hl.1 rfl (lv_room (Nat.le_of_ble_eq_true rfl)) d_P_endpointOrThrow_2 ⟨Nat.le_of_ble_eq_true rfl, Nat.le_of_ble_eq_true rfl⟩) hS (fun H locs hP hS => ?_)
  obtain rfl := xn_nil hS
  rcases c1 : (p_endpointOf Z x1 σ) with _ | K1
  · skip
    rw [xb_om_none c1] at hnt
    refine lv_astore_nN (lv' := [(2, .null), (0, .ref (α Z)), (1, .int x1)]) hx hb d_P_endpointOrThrow_5 rfl hl (by decide) rfl (fun ls hl => ?_)
    refine lv_aload_nN hx hb d_P_endpointOrThrow_6 rfl (lv_at hl 0 rfl) ?_
    refine lv_ifnonnullN hx hb d_P_endpointOrThrow_7 ?_
    exact absurd hnt (by decide)
  · skip
    have iK1 := p_endpointOf_is iZ c1; have hlAK1 := sp_lnA_is iK1; have hlDK1 := sp_lnD_is iK1; have hlnK1 := sp_ln_ne iK1
    rw [xb_om_some c1] at hnt
    refine lv_astore_n (lv' := [(2, .ref (α K1)), (0, .ref (α Z)), (1, .int x1)]) hx hb d_P_endpointOrThrow_5 rfl hl (by decide) rfl (fun ls hl => ?_)
    refine lv_aload_n hx hb d_P_endpointOrThrow_6 rfl (lv_at hl 0 rfl) ?_
    refine lv_ifnonnull (tgt := 20) hx hb d_P_endpointOrThrow_7 (by decide) ?_
    refine lv_aload_n hx hb d_P_endpointOrThrow_20 rfl (lv_at hl 0 rfl) ?_
    exact W.aret (v := .ref (α K1)) hx hb hr (Or.inl ⟨_, rfl⟩) (Or.inr ⟨_, rfl⟩) (fun t ht_ hW => ⟨⟨some (α K1), σ, rfl, ⟨(congrArg (Option.map α) (((by unfold p_eot; rw [xb_om_some c1])) : (some K1) = p_eot Z x1 σ)), rfl⟩, by rw [sp_B, ht_]; exact hP⟩, hS.F ht_⟩) hS.2.2 d_P_endpointOrThrow_21
set_option maxHeartbeats 4000000 in
set_option maxRecDepth 100000 in
theorem t_P_endpointOrThrow_1 (l : Launch) (D : va_G) (α : Nat → Nat) (κ : Nat → ClassId) (hα : xb_inj α 35) (htr : l.stackTraces = false) (σ : xb_St) (Z : Nat) (x1 : Int32) (iZ : sp_isP Z) (hnt : th_P_endpointOrThrow Z x1 σ = 1) : xt_Met l y_P_endpointOrThrow w_P_endpointOrThrow ({ frames := 6, cells := 1, slots := 6, locals := 90 }) (va_Pc ([.ref (α Z), .int x1]) (st_Pre D α κ σ)) "java/lang/IndexOutOfBoundsException" 1 6 := by
  unfold th_P_endpointOrThrow at hnt
  refine xt_ofW (cc := b_P_endpointOrThrow) (maxL := 3) (ret := (some (.object "SecurePair$Endpoint"))) (by decide) rfl ?_
  intro p e s m args below meth c s₁ B_ hml hte hv
  obtain ⟨rfl, ⟨hP, hK, hN⟩, hG⟩ := hv
  have hx := B_.exec
  have hb := B_.bytes
  have hr := B_.returns
  have hts := atoms_spec (ws := w_P_endpointOrThrow) B_.pre
  have ht : ∀ w ∈ xa, w.before _ s = true := fun w h => hts w (List.mem_cons_of_mem _ h)
  have hown : s.vm.findClass "SecurePair" = some m.cls := findClass_of_methodNamed B_.named
  have hlocks := B_.notSynchronized
  have hD := sp_D hα κ
  have hS : va_S (fun _ => False) s.heap s.heap [] := va_S.rf
  have hl := lv_entry ([.ref (α Z), .int x1]) (n := 3) (Nat.le_of_ble_eq_true rfl)
  rw [lg_entry_eq]
  generalize (lg_sl ([.ref (α Z), .int x1]) ++ List.replicate (3 - (lg_sl ([.ref (α Z), .int x1])).length) Slot.unset).toArray = ls at hl ⊢
  have hl : lv_has ls 3 [(0, .ref (α Z)), (1, .int x1)] := hl
  refine lv_aload_n hx hb d_P_endpointOrThrow_0 rfl (lv_at hl 0 rfl) ?_
  refine lv_iload_n hx hb d_P_endpointOrThrow_1 rfl (lv_at hl 1 rfl) ?_
  refine xn_cq (va_runV (As := [.int x1]) (rest := []) ⟨hx, hb, hml, hown, hts⟩ (n_P_endpointOf l D α κ hα σ Z x1 iZ) (cwV 1 hts (xa_V xw340 xw342 xs0 xw1 xw343) rfl rfl rfl (by decide +kernel) ⟨Nat.le_of_ble_eq_true rfl, Nat.le_of_ble_eq_true rfl⟩) ⟨sp_blind, va_recv hK hP rfl (sp_at_P iZ), sp_pre hP hK hN _⟩ rfl rfl hl.1 rfl (lv_room (Nat.le_of_ble_eq_true rfl)) d_P_endpointOrThrow_2 ⟨Nat.le_of_ble_eq_true rfl, Nat.le_of_ble_eq_true rfl⟩) hS (fun H locs hP hS => ?_)
  obtain rfl := xn_nil hS
  rcases c1 : (p_endpointOf Z x1 σ) with _ | K1
  · skip
    rw [xb_om_none c1] at hnt
    refine lv_astore_nN (lv' := [(2, .null), (0, .ref (α Z)), (1, .int x1)]) hx hb d_P_endpointOrThrow_5 rfl hl (by decide) rfl (fun ls hl => ?_)
    refine lv_aload_nN hx hb d_P_endpointOrThrow_6 rfl (lv_at hl 0 rfl) ?_
    refine lv_ifnonnullN hx hb d_P_endpointOrThrow_7 ?_
    obtain ⟨sa, hsa⟩ := hG.2.2.1 (211, "no such endpoint") (by decide)
    exact xt_throw hx hb htr (own := "SecurePair") (text := "no such endpoint") hown (by decide +kernel) (by decide +kernel) (ht _ xw513) (ht _ xw15) hsa.1 hsa.2 (xt_atoms [12, 535, 544, 549, 552, 554, 536, 537, 27, 28, 538, 543, 550, 570, 525, 571, 527, 572, 529, 539, 541, 531, 566, 567, 569, 531, 557, 558, 559, 560, 560, 561, 562, 563, 563, 564, 565, 566, 556, 514, 522, 523, 524, 526, 528, 530, 534, 533, 532] xt_g213 xt_b213 (by decide) ht hG) (hl.1.trans hml.symm) hte d_P_endpointOrThrow_10 d_P_endpointOrThrow_13 d_P_endpointOrThrow_14 d_P_endpointOrThrow_16 d_P_endpointOrThrow_19 (by decide) (by decide) (by decide) (by decide) hlocks (by decide) (by decide) hS.1
  · skip
    have iK1 := p_endpointOf_is iZ c1; have hlAK1 := sp_lnA_is iK1; have hlDK1 := sp_lnD_is iK1; have hlnK1 := sp_ln_ne iK1
    rw [xb_om_some c1] at hnt
    exact absurd hnt (by decide)
theorem p_eot_nn {Z : Nat} {x : Int32} {σ : xb_St} (h : th_P_endpointOrThrow Z x σ = 0) : p_eot Z x σ ≠ none := by
  obtain ⟨K, e⟩ := om_nn (by decide) h
  unfold p_eot
  rw [xb_om_some e]
  exact nofun
theorem p_eot_is {Z K : Nat} {x : Int32} {σ : xb_St} (iZ : sp_isP Z) (h : p_eot Z x σ = some K) : sp_isEndpoint K := by
  unfold p_eot at h
  rcases e : p_endpointOf Z x σ with _ | K1
  · rw [xb_om_none e] at h; exact nomatch h
  · rw [xb_om_some e] at h
    exact p_endpointOf_is iZ (e.trans h)
abbrev b_P_channelOrThrow : ByteArray := prog_1_method_27_code
def y_P_channelOrThrow : MethodName := ⟨"SecurePair", "channelOrThrow", "(LSecurePair$Endpoint;I)LSecurePair$Channel;"⟩
abbrev w_P_channelOrThrow : List Cond := .code y_P_channelOrThrow b_P_channelOrThrow 3 (some (.object "SecurePair$Channel")) :: xa
theorem d_P_channelOrThrow_0 : decode b_P_channelOrThrow 0 = .ok (.aload_n 0, 1) := by decide +kernel
theorem d_P_channelOrThrow_1 : decode b_P_channelOrThrow 1 = .ok (.iload_n 1, 1) := by decide +kernel
theorem d_P_channelOrThrow_2 : decode b_P_channelOrThrow 2 = .ok (.i2l, 1) := by decide +kernel
theorem d_P_channelOrThrow_3 : decode b_P_channelOrThrow 3 = .ok (.invokevirtual 201, 3) := by decide +kernel
theorem d_P_channelOrThrow_6 : decode b_P_channelOrThrow 6 = .ok (.astore_n 2, 1) := by decide +kernel
theorem d_P_channelOrThrow_7 : decode b_P_channelOrThrow 7 = .ok (.aload_n 2, 1) := by decide +kernel
theorem d_P_channelOrThrow_8 : decode b_P_channelOrThrow 8 = .ok (.ifnonnull 13, 3) := by decide +kernel
theorem d_P_channelOrThrow_11 : decode b_P_channelOrThrow 11 = .ok (.new 209, 3) := by decide +kernel
theorem d_P_channelOrThrow_14 : decode b_P_channelOrThrow 14 = .ok (.dup, 1) := by decide +kernel
theorem d_P_channelOrThrow_15 : decode b_P_channelOrThrow 15 = .ok (.ldc 214, 2) := by decide +kernel
theorem d_P_channelOrThrow_17 : decode b_P_channelOrThrow 17 = .ok (.invokespecial 213, 3) := by decide +kernel
theorem d_P_channelOrThrow_20 : decode b_P_channelOrThrow 20 = .ok (.athrow, 1) := by decide +kernel
theorem d_P_channelOrThrow_21 : decode b_P_channelOrThrow 21 = .ok (.aload_n 2, 1) := by decide +kernel
theorem d_P_channelOrThrow_22 : decode b_P_channelOrThrow 22 = .ok (.areturn, 1) := by decide +kernel
def th_P_channelOrThrow (B : Nat) (x1 : Int32) (σ : xb_St) : Nat := (xb_om (p_channelAt B x1.toInt64 σ) 1 (fun K1 => 0))
theorem th_P_channelOrThrow_v2 (B : Nat) (x1 : Int32) (σ : xb_St) (iB : sp_isEndpoint B) : ¬ th_P_channelOrThrow B x1 σ = 2 := by
  unfold th_P_channelOrThrow xb_om
  split <;> simp
theorem th_P_channelOrThrow_v3 (B : Nat) (x1 : Int32) (σ : xb_St) (iB : sp_isEndpoint B) : ¬ th_P_channelOrThrow B x1 σ = 3 := by
  unfold th_P_channelOrThrow xb_om
  split <;> simp
def p_cot (B : Nat) (x1 : Int32) (σ : xb_St) : Option Nat := (xb_om (p_channelAt B x1.toInt64 σ) none (fun K1 => (some K1)))
set_option maxHeartbeats 4000000 in
set_option maxRecDepth 100000 in
theorem n_P_channelOrThrow (l : Launch) (D : va_G) (α : Nat → Nat) (κ : Nat → ClassId) (hα : xb_inj α 35) (σ : xb_St) (B : Nat) (x1 : Int32) (iB : sp_isEndpoint B) (hnt : th_P_channelOrThrow B x1 σ = 0) : Met l y_P_channelOrThrow w_P_channelOrThrow ({ frames := 1, cells := 0, slots := 0, locals := 22 }) (va_Pc ([.ref (α B), .int x1]) (sp_Pre D α κ σ)) (va_Qq (fun r (u : xb_St) => r = (p_cot B x1 σ).map α ∧ u = σ) (sp_B D α κ) (fun _ => False)) 0 0 (fun _ => False) := by
  unfold th_P_channelOrThrow at hnt
  refine Met.ofW (cc := b_P_channelOrThrow) (maxL := 3) (ret := (some (.object "SecurePair$Channel"))) (by decide) rfl ?_
  intro p e s m args below meth c s₁ B_ hml hv
  obtain ⟨rfl, hP, hK, hN⟩ := hv
  have hx := B_.exec
  have hb := B_.bytes
  have hr := B_.returns
  have hts := atoms_spec (ws := w_P_channelOrThrow) B_.pre
  have ht : ∀ w ∈ xa, w.before _ s = true := fun w h => hts w (List.mem_cons_of_mem _ h)
  have hown : s.vm.findClass "SecurePair" = some m.cls := findClass_of_methodNamed B_.named
  have hlocks := B_.notSynchronized
  have hD := sp_D hα κ
  have hS : va_S (fun _ => False) s.heap s.heap [] := va_S.rf
  have hlA := sp_lnA_is iB
  have hlD := sp_lnD_is iB
  have hln := sp_ln_ne iB
  have hl := lv_entry ([.ref (α B), .int x1]) (n := 3) (Nat.le_of_ble_eq_true rfl)
  rw [lg_entry_eq]
  generalize (lg_sl ([.ref (α B), .int x1]) ++ List.replicate (3 - (lg_sl ([.ref (α B), .int x1])).length) Slot.unset).toArray = ls at hl ⊢
  have hl : lv_has ls 3 [(0, .ref (α B)), (1, .int x1)] := hl
  refine lv_aload_n hx hb d_P_channelOrThrow_0 rfl (lv_at hl 0 rfl) ?_
  refine lv_iload_n hx hb d_P_channelOrThrow_1 rfl (lv_at hl 1 rfl) ?_
  refine lv_i2l (v := x1.toInt64) hx hb d_P_channelOrThrow_2 (by rfl) ?_
  refine xn_cq (sp_runE (n := 1) (As := [.long x1.toInt64]) (rest := []) ⟨hx, hb, hml, hown, hts⟩ (n_Endpoint_channelAt l D α κ hα σ B x1.toInt64 iB) iB xw477 xw479 xw480 xw481 xw478 xw3 xw482 rfl rfl rfl (by decide +kernel) ⟨Nat.le_of_ble_eq_true rfl, Nat.le_of_ble_eq_true rfl⟩ hP hK hN rfl rfl hl.1 rfl (lv_room (Nat.le_of_ble_eq_true rfl)) d_P_channelOrThrow_3 ⟨Nat.le_of_ble_eq_true rfl, Nat.le_of_ble_eq_true rfl⟩) hS (fun H locs hP hS => ?_)
  obtain rfl := xn_nil hS
  rcases c1 : (p_channelAt B x1.toInt64 σ) with _ | K1
  · skip
    rw [xb_om_none c1] at hnt
    refine lv_astore_nN (lv' := [(2, .null), (0, .ref (α B)), (1, .int x1)]) hx hb d_P_channelOrThrow_6 rfl hl (by decide) rfl (fun ls hl => ?_)
    refine lv_aload_nN hx hb d_P_channelOrThrow_7 rfl (lv_at hl 0 rfl) ?_
    refine lv_ifnonnullN hx hb d_P_channelOrThrow_8 ?_
    exact absurd hnt (by decide)
  · skip
    have iK1 := p_channelAt_is iB c1
    rw [xb_om_some c1] at hnt
    refine lv_astore_n (lv' := [(2, .ref (α K1)), (0, .ref (α B)), (1, .int x1)]) hx hb d_P_channelOrThrow_6 rfl hl (by decide) rfl (fun ls hl => ?_)
    refine lv_aload_n hx hb d_P_channelOrThrow_7 rfl (lv_at hl 0 rfl) ?_
    refine lv_ifnonnull (tgt := 21) hx hb d_P_channelOrThrow_8 (by decide) ?_
    refine lv_aload_n hx hb d_P_channelOrThrow_21 rfl (lv_at hl 0 rfl) ?_
    exact W.aret (v := .ref (α K1)) hx hb hr (Or.inl ⟨_, rfl⟩) (Or.inr ⟨_, rfl⟩) (fun t ht_ hW => ⟨⟨some (α K1), σ, rfl, ⟨(congrArg (Option.map α) (((by unfold p_cot; rw [xb_om_some c1])) : (some K1) = p_cot B x1 σ)), rfl⟩, by rw [sp_B, ht_]; exact hP⟩, hS.F ht_⟩) hS.2.2 d_P_channelOrThrow_22
set_option maxHeartbeats 4000000 in
set_option maxRecDepth 100000 in
theorem t_P_channelOrThrow_1 (l : Launch) (D : va_G) (α : Nat → Nat) (κ : Nat → ClassId) (hα : xb_inj α 35) (htr : l.stackTraces = false) (σ : xb_St) (B : Nat) (x1 : Int32) (iB : sp_isEndpoint B) (hnt : th_P_channelOrThrow B x1 σ = 1) : xt_Met l y_P_channelOrThrow w_P_channelOrThrow ({ frames := 6, cells := 1, slots := 6, locals := 90 }) (va_Pc ([.ref (α B), .int x1]) (st_Pre D α κ σ)) "java/lang/IndexOutOfBoundsException" 1 6 := by
  unfold th_P_channelOrThrow at hnt
  refine xt_ofW (cc := b_P_channelOrThrow) (maxL := 3) (ret := (some (.object "SecurePair$Channel"))) (by decide) rfl ?_
  intro p e s m args below meth c s₁ B_ hml hte hv
  obtain ⟨rfl, ⟨hP, hK, hN⟩, hG⟩ := hv
  have hx := B_.exec
  have hb := B_.bytes
  have hr := B_.returns
  have hts := atoms_spec (ws := w_P_channelOrThrow) B_.pre
  have ht : ∀ w ∈ xa, w.before _ s = true := fun w h => hts w (List.mem_cons_of_mem _ h)
  have hown : s.vm.findClass "SecurePair" = some m.cls := findClass_of_methodNamed B_.named
  have hlocks := B_.notSynchronized
  have hD := sp_D hα κ
  have hS : va_S (fun _ => False) s.heap s.heap [] := va_S.rf
  have hlA := sp_lnA_is iB
  have hlD := sp_lnD_is iB
  have hln := sp_ln_ne iB
  have hl := lv_entry ([.ref (α B), .int x1]) (n := 3) (Nat.le_of_ble_eq_true rfl)
  rw [lg_entry_eq]
  generalize (lg_sl ([.ref (α B), .int x1]) ++ List.replicate (3 - (lg_sl ([.ref (α B), .int x1])).length) Slot.unset).toArray = ls at hl ⊢
  have hl : lv_has ls 3 [(0, .ref (α B)), (1, .int x1)] := hl
  refine lv_aload_n hx hb d_P_channelOrThrow_0 rfl (lv_at hl 0 rfl) ?_
  refine lv_iload_n hx hb d_P_channelOrThrow_1 rfl (lv_at hl 1 rfl) ?_
  refine lv_i2l (v := x1.toInt64) hx hb d_P_channelOrThrow_2 (by rfl) ?_
  refine xn_cq (sp_runE (n := 1) (As := [.long x1.toInt64]) (rest := []) ⟨hx, hb, hml, hown, hts⟩ (n_Endpoint_channelAt l D α κ hα σ B x1.toInt64 iB) iB xw477 xw479 xw480 xw481 xw478 xw3 xw482 rfl rfl rfl (by decide +kernel) ⟨Nat.le_of_ble_eq_true rfl, Nat.le_of_ble_eq_true rfl⟩ hP hK hN rfl rfl hl.1 rfl (lv_room (Nat.le_of_ble_eq_true rfl)) d_P_channelOrThrow_3 ⟨Nat.le_of_ble_eq_true rfl, Nat.le_of_ble_eq_true rfl⟩) hS (fun H locs hP hS => ?_)
  obtain rfl := xn_nil hS
  rcases c1 : (p_channelAt B x1.toInt64 σ) with _ | K1
  · skip
    rw [xb_om_none c1] at hnt
    refine lv_astore_nN (lv' := [(2, .null), (0, .ref (α B)), (1, .int x1)]) hx hb d_P_channelOrThrow_6 rfl hl (by decide) rfl (fun ls hl => ?_)
    refine lv_aload_nN hx hb d_P_channelOrThrow_7 rfl (lv_at hl 0 rfl) ?_
    refine lv_ifnonnullN hx hb d_P_channelOrThrow_8 ?_
    obtain ⟨sa, hsa⟩ := hG.2.2.1 (214, "no such channel") (by decide)
    exact xt_throw hx hb htr (own := "SecurePair") (text := "no such channel") hown (by decide +kernel) (by decide +kernel) (ht _ xw513) (ht _ xw15) hsa.1 hsa.2 (xt_atoms [12, 535, 544, 549, 552, 554, 536, 537, 27, 28, 538, 543, 550, 570, 525, 571, 527, 572, 529, 539, 541, 531, 566, 567, 569, 531, 557, 558, 559, 560, 560, 561, 562, 563, 563, 564, 565, 566, 556, 514, 522, 523, 524, 526, 528, 530, 534, 533, 532] xt_g213 xt_b213 (by decide) ht hG) (hl.1.trans hml.symm) hte d_P_channelOrThrow_11 d_P_channelOrThrow_14 d_P_channelOrThrow_15 d_P_channelOrThrow_17 d_P_channelOrThrow_20 (by decide) (by decide) (by decide) (by decide) hlocks (by decide) (by decide) hS.1
  · skip
    have iK1 := p_channelAt_is iB c1
    rw [xb_om_some c1] at hnt
    exact absurd hnt (by decide)
theorem p_cot_nn {B : Nat} {x : Int32} {σ : xb_St} (h : th_P_channelOrThrow B x σ = 0) : p_cot B x σ ≠ none := by
  obtain ⟨K, e⟩ := om_nn (by decide) h
  unfold p_cot
  rw [xb_om_some e]
  exact nofun
theorem p_cot_is {B K : Nat} {x : Int32} {σ : xb_St} (iB : sp_isEndpoint B) (h : p_cot B x σ = some K) : sp_isChannel K := by
  unfold p_cot at h
  rcases e : p_channelAt B x.toInt64 σ with _ | K1
  · rw [xb_om_none e] at h; exact nomatch h
  · rw [xb_om_some e] at h
    exact p_channelAt_is iB (e.trans h)
