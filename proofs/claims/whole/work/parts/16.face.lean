abbrev b_P_endpointOf : ByteArray := prog_1_method_24_code
def y_P_endpointOf : MethodName := ⟨"SecurePair", "endpointOf", "(I)LSecurePair$Endpoint;"⟩
abbrev w_P_endpointOf : List Cond := .code y_P_endpointOf b_P_endpointOf 2 (some (.object "SecurePair$Endpoint")) :: xa
theorem d_P_endpointOf_0 : decode b_P_endpointOf 0 = .ok (.iload_n 1, 1) := by decide +kernel
theorem d_P_endpointOf_1 : decode b_P_endpointOf 1 = .ok (.ifCond .ne 8, 3) := by decide +kernel
theorem d_P_endpointOf_4 : decode b_P_endpointOf 4 = .ok (.aload_n 0, 1) := by decide +kernel
theorem d_P_endpointOf_5 : decode b_P_endpointOf 5 = .ok (.getfield 15, 3) := by decide +kernel
theorem d_P_endpointOf_8 : decode b_P_endpointOf 8 = .ok (.areturn, 1) := by decide +kernel
theorem d_P_endpointOf_9 : decode b_P_endpointOf 9 = .ok (.iload_n 1, 1) := by decide +kernel
theorem d_P_endpointOf_10 : decode b_P_endpointOf 10 = .ok (.iconst 1, 1) := by decide +kernel
theorem d_P_endpointOf_11 : decode b_P_endpointOf 11 = .ok (.if_icmp .ne 10, 3) := by decide +kernel
theorem d_P_endpointOf_14 : decode b_P_endpointOf 14 = .ok (.aload_n 0, 1) := by decide +kernel
theorem d_P_endpointOf_15 : decode b_P_endpointOf 15 = .ok (.getfield 24, 3) := by decide +kernel
theorem d_P_endpointOf_18 : decode b_P_endpointOf 18 = .ok (.goto 4, 3) := by decide +kernel
theorem d_P_endpointOf_21 : decode b_P_endpointOf 21 = .ok (.aconst_null, 1) := by decide +kernel
theorem d_P_endpointOf_22 : decode b_P_endpointOf 22 = .ok (.areturn, 1) := by decide +kernel
theorem xw329 : (Cond.fieldLink "SecurePair" (15 : Nat) "SecurePair" "client" "LSecurePair$Client;") ∈ xa := xa_t 329 (by decide +kernel) (by decide +kernel)
theorem xw330 : (Cond.fieldLink "SecurePair" (24 : Nat) "SecurePair" "server" "LSecurePair$Server;") ∈ xa := xa_t 330 (by decide +kernel) (by decide +kernel)
def p_endpointOf (Z : Nat) (x1 : Int32) (σ : xb_St) : Option Nat := (if x1 = 0 then (some 5) else (if x1 = (1 : Int32) then (some 20) else none))
set_option maxHeartbeats 4000000 in
set_option maxRecDepth 100000 in
theorem c_P_endpointOf (l : Launch) (D : va_G) (α : Nat → Nat) (κ : Nat → ClassId) (hα : xb_inj α 35) (σ : xb_St) (Z : Nat) (x1 : Int32) (iZ : sp_isP Z) : Met l y_P_endpointOf w_P_endpointOf ({ frames := 0, cells := 0, slots := 0, locals := 0 }) (va_Pc ([.ref (α Z), .int x1]) (sp_Pre D α κ σ)) (va_Qq (fun r (u : xb_St) => r = (p_endpointOf Z x1 σ).map α ∧ u = σ) (sp_B D α κ) (xb_A α 35)) 0 0 (xb_A α 35) := by
  refine Met.ofW (cc := b_P_endpointOf) (maxL := 2) (ret := (some (.object "SecurePair$Endpoint"))) (by decide) rfl ?_
  intro p e s m args below meth c s₁ B_ hml hv
  obtain ⟨rfl, hP, hK, hN⟩ := hv
  have hx := B_.exec
  have hb := B_.bytes
  have hr := B_.returns
  have hts := atoms_spec (ws := w_P_endpointOf) B_.pre
  have ht : ∀ w ∈ xa, w.before _ s = true := fun w h => hts w (List.mem_cons_of_mem _ h)
  have hown : s.vm.findClass "SecurePair" = some m.cls := findClass_of_methodNamed B_.named
  have hlocks := B_.notSynchronized
  have hD := sp_D hα κ
  have hS : va_S (xb_A α 35) s.heap s.heap [] := va_S.rf
  have hl := lv_entry ([.ref (α Z), .int x1]) (n := 2) (Nat.le_of_ble_eq_true rfl)
  rw [lg_entry_eq]
  generalize (lg_sl ([.ref (α Z), .int x1]) ++ List.replicate (2 - (lg_sl ([.ref (α Z), .int x1])).length) Slot.unset).toArray = ls at hl ⊢
  have hl : lv_has ls 2 [(0, .ref (α Z)), (1, .int x1)] := hl
  refine lv_iload_n hx hb d_P_endpointOf_0 rfl (lv_at hl 1 rfl) ?_
  refine lv_if_ne (tgt := 9) hx hb d_P_endpointOf_1 (by decide) (fun c1 => ?_) (fun c1 => ?_)
  · skip
    refine lv_iload_n hx hb d_P_endpointOf_9 rfl (lv_at hl 1 rfl) ?_
    refine lv_iconst (v := 1) hx hb d_P_endpointOf_10 (by decide) ?_
    refine lv_icmp_ne (tgt := 21) hx hb d_P_endpointOf_11 (by decide) (fun c2 => ?_) (fun c2 => ?_)
    · skip
      refine lv_null hx hb d_P_endpointOf_21 ?_
      exact W.aret (v := .null) hx hb hr (Or.inl ⟨_, rfl⟩) (Or.inl rfl) (fun t ht_ hW => ⟨⟨none, σ, rfl, ⟨(congrArg (Option.map α) ((((if_neg c1).trans ((if_neg c2))).symm) : none = p_endpointOf Z x1 σ)), rfl⟩, by rw [sp_B, ht_]; exact hP⟩, hS.F ht_⟩) hS.2.2 d_P_endpointOf_22
    · skip
      refine lv_aload_n hx hb d_P_endpointOf_14 rfl (lv_at hl 0 rfl) ?_
      refine sp_g_P (v := .ref (α 20)) hx hb ht hown hK hP iZ 1 (by decide) (ht _ xw330) (fun _ h_ => h_) rfl d_P_endpointOf_15 ?_
      refine lv_goto (tgt := 22) hx hb d_P_endpointOf_18 (by decide) ?_
      exact W.aret (v := .ref (α 20)) hx hb hr (Or.inl ⟨_, rfl⟩) (Or.inr ⟨_, rfl⟩) (fun t ht_ hW => ⟨⟨some (α 20), σ, rfl, ⟨(congrArg (Option.map α) ((((if_neg c1).trans ((if_pos c2))).symm) : (some 20) = p_endpointOf Z x1 σ)), rfl⟩, by rw [sp_B, ht_]; exact hP⟩, hS.F ht_⟩) hS.2.2 d_P_endpointOf_22
  · skip
    refine lv_aload_n hx hb d_P_endpointOf_4 rfl (lv_at hl 0 rfl) ?_
    refine sp_g_P (v := .ref (α 5)) hx hb ht hown hK hP iZ 0 (by decide) (ht _ xw329) (fun _ h_ => h_) rfl d_P_endpointOf_5 ?_
    exact W.aret (v := .ref (α 5)) hx hb hr (Or.inl ⟨_, rfl⟩) (Or.inr ⟨_, rfl⟩) (fun t ht_ hW => ⟨⟨some (α 5), σ, rfl, ⟨(congrArg (Option.map α) ((((if_pos c1)).symm) : (some 5) = p_endpointOf Z x1 σ)), rfl⟩, by rw [sp_B, ht_]; exact hP⟩, hS.F ht_⟩) hS.2.2 d_P_endpointOf_8
theorem p_endpointOf_is {Z K : Nat} {x : Int32} {σ : xb_St} (_ : sp_isP Z) (h : p_endpointOf Z x σ = some K) : sp_isEndpoint K := by
  unfold p_endpointOf at h
  split at h
  · have e := Option.some.inj h; omega
  · split at h
    · have e := Option.some.inj h; omega
    · exact nomatch h
abbrev b_P_lineTo : ByteArray := prog_1_method_25_code
def y_P_lineTo : MethodName := ⟨"SecurePair", "lineTo", "(I)LSecurePair$Line;"⟩
abbrev w_P_lineTo : List Cond := .code y_P_lineTo b_P_lineTo 3 (some (.object "SecurePair$Line")) :: xa
theorem d_P_lineTo_0 : decode b_P_lineTo 0 = .ok (.aload_n 0, 1) := by decide +kernel
theorem d_P_lineTo_1 : decode b_P_lineTo 1 = .ok (.iload_n 1, 1) := by decide +kernel
theorem d_P_lineTo_2 : decode b_P_lineTo 2 = .ok (.invokevirtual 28, 3) := by decide +kernel
theorem d_P_lineTo_5 : decode b_P_lineTo 5 = .ok (.astore_n 2, 1) := by decide +kernel
theorem d_P_lineTo_6 : decode b_P_lineTo 6 = .ok (.aload_n 2, 1) := by decide +kernel
theorem d_P_lineTo_7 : decode b_P_lineTo 7 = .ok (.ifnonnull 7, 3) := by decide +kernel
theorem d_P_lineTo_10 : decode b_P_lineTo 10 = .ok (.aconst_null, 1) := by decide +kernel
theorem d_P_lineTo_11 : decode b_P_lineTo 11 = .ok (.goto 7, 3) := by decide +kernel
theorem d_P_lineTo_14 : decode b_P_lineTo 14 = .ok (.aload_n 2, 1) := by decide +kernel
theorem d_P_lineTo_15 : decode b_P_lineTo 15 = .ok (.getfield 84, 3) := by decide +kernel
theorem d_P_lineTo_18 : decode b_P_lineTo 18 = .ok (.areturn, 1) := by decide +kernel
theorem xw230 : (Cond.fieldLink "SecurePair" (84 : Nat) "SecurePair$Endpoint" "arriving" "LSecurePair$Line;") ∈ xa := xa_t 230 (by decide +kernel) (by decide +kernel)
theorem xw340 : (Cond.methodLink "SecurePair" (28 : Nat) ({ cls := "SecurePair", name := "endpointOf", desc := "(I)LSecurePair$Endpoint;" } : MethodName)) ∈ xa := xa_t 340 (by decide +kernel) (by decide +kernel)
theorem xw342 : (Cond.instanceMethod ({ cls := "SecurePair", name := "endpointOf", desc := "(I)LSecurePair$Endpoint;" } : MethodName)) ∈ xa := xa_t 342 (by decide +kernel) (by decide +kernel)
theorem xw343 : (Cond.code ({ cls := "SecurePair", name := "endpointOf", desc := "(I)LSecurePair$Endpoint;" } : MethodName) prog_1_method_24_code (2 : Nat) (Option.some (ClassFile.FieldType.object "SecurePair$Endpoint"))) ∈ xa := xa_t 343 (by decide +kernel) (by decide +kernel)
theorem xs0 : (Cond.selects "SecurePair" ⟨"SecurePair", "endpointOf", "(I)LSecurePair$Endpoint;"⟩ ⟨"SecurePair", "endpointOf", "(I)LSecurePair$Endpoint;"⟩) ∈ xa := xa_s 0 (by decide +kernel) (by decide +kernel)
def p_lineTo (Z : Nat) (x1 : Int32) (σ : xb_St) : Option Nat := (xb_om (p_endpointOf Z x1 σ) none (fun K1 => (some (sp_lnA K1))))
set_option maxHeartbeats 4000000 in
set_option maxRecDepth 100000 in
theorem c_P_lineTo (l : Launch) (D : va_G) (α : Nat → Nat) (κ : Nat → ClassId) (hα : xb_inj α 35) (σ : xb_St) (Z : Nat) (x1 : Int32) (iZ : sp_isP Z) : Met l y_P_lineTo w_P_lineTo ({ frames := 1, cells := 0, slots := 0, locals := 21 }) (va_Pc ([.ref (α Z), .int x1]) (sp_Pre D α κ σ)) (va_Qq (fun r (u : xb_St) => r = (p_lineTo Z x1 σ).map α ∧ u = σ) (sp_B D α κ) (xb_A α 35)) 0 0 (xb_A α 35) := by
  refine Met.ofW (cc := b_P_lineTo) (maxL := 3) (ret := (some (.object "SecurePair$Line"))) (by decide) rfl ?_
  intro p e s m args below meth c s₁ B_ hml hv
  obtain ⟨rfl, hP, hK, hN⟩ := hv
  have hx := B_.exec
  have hb := B_.bytes
  have hr := B_.returns
  have hts := atoms_spec (ws := w_P_lineTo) B_.pre
  have ht : ∀ w ∈ xa, w.before _ s = true := fun w h => hts w (List.mem_cons_of_mem _ h)
  have hown : s.vm.findClass "SecurePair" = some m.cls := findClass_of_methodNamed B_.named
  have hlocks := B_.notSynchronized
  have hD := sp_D hα κ
  have hS : va_S (xb_A α 35) s.heap s.heap [] := va_S.rf
  have hl := lv_entry ([.ref (α Z), .int x1]) (n := 3) (Nat.le_of_ble_eq_true rfl)
  rw [lg_entry_eq]
  generalize (lg_sl ([.ref (α Z), .int x1]) ++ List.replicate (3 - (lg_sl ([.ref (α Z), .int x1])).length) Slot.unset).toArray = ls at hl ⊢
  have hl : lv_has ls 3 [(0, .ref (α Z)), (1, .int x1)] := hl
  refine lv_aload_n hx hb d_P_lineTo_0 rfl (lv_at hl 0 rfl) ?_
  refine lv_iload_n hx hb d_P_lineTo_1 rfl (lv_at hl 1 rfl) ?_
  refine sp_cq (va_runV (As := [.int x1]) (rest := []) ⟨hx, hb, hml, hown, hts⟩ (c_P_endpointOf l D α κ hα σ Z x1 iZ) (cwV 1 hts (xa_V xw340 xw342 xs0 xw1 xw343) rfl rfl rfl (by decide +kernel) ⟨Nat.le_of_ble_eq_true rfl, Nat.le_of_ble_eq_true rfl⟩) ⟨sp_blind, va_recv hK hP rfl (sp_at_P iZ), sp_pre hP hK hN _⟩ rfl rfl hl.1 rfl (lv_room (Nat.le_of_ble_eq_true rfl)) d_P_lineTo_2 ⟨Nat.le_of_ble_eq_true rfl, Nat.le_of_ble_eq_true rfl⟩) hS (fun _ h_ => h_) (fun H locs hP hS => ?_)
  rcases c1 : (p_endpointOf Z x1 σ) with _ | K1
  · skip
    refine lv_astore_nN (lv' := [(2, .null), (0, .ref (α Z)), (1, .int x1)]) hx hb d_P_lineTo_5 rfl hl (by decide) rfl (fun ls hl => ?_)
    refine lv_aload_nN hx hb d_P_lineTo_6 rfl (lv_at hl 0 rfl) ?_
    refine lv_ifnonnullN hx hb d_P_lineTo_7 ?_
    refine lv_null hx hb d_P_lineTo_10 ?_
    refine lv_goto (tgt := 18) hx hb d_P_lineTo_11 (by decide) ?_
    exact W.aret (v := .null) hx hb hr (Or.inl ⟨_, rfl⟩) (Or.inl rfl) (fun t ht_ hW => ⟨⟨none, σ, rfl, ⟨(congrArg (Option.map α) (((by unfold p_lineTo; rw [xb_om_none c1])) : none = p_lineTo Z x1 σ)), rfl⟩, by rw [sp_B, ht_]; exact hP⟩, hS.F ht_⟩) hS.2.2 d_P_lineTo_18
  · skip
    have iK1 := p_endpointOf_is iZ c1; have hlAK1 := sp_lnA_is iK1; have hlDK1 := sp_lnD_is iK1; have hlnK1 := sp_ln_ne iK1
    refine lv_astore_n (lv' := [(2, .ref (α K1)), (0, .ref (α Z)), (1, .int x1)]) hx hb d_P_lineTo_5 rfl hl (by decide) rfl (fun ls hl => ?_)
    refine lv_aload_n hx hb d_P_lineTo_6 rfl (lv_at hl 0 rfl) ?_
    refine lv_ifnonnull (tgt := 14) hx hb d_P_lineTo_7 (by decide) ?_
    refine lv_aload_n hx hb d_P_lineTo_14 rfl (lv_at hl 0 rfl) ?_
    refine sp_g_Endpoint (v := .ref (α (sp_lnA K1))) hx hb ht hown hK hP iK1 0 (by decide) (ht _ xw230) (fun _ h_ => h_) rfl d_P_lineTo_15 ?_
    exact W.aret (v := .ref (α (sp_lnA K1))) hx hb hr (Or.inl ⟨_, rfl⟩) (Or.inr ⟨_, rfl⟩) (fun t ht_ hW => ⟨⟨some (α (sp_lnA K1)), σ, rfl, ⟨(congrArg (Option.map α) (((by unfold p_lineTo; rw [xb_om_some c1])) : (some (sp_lnA K1)) = p_lineTo Z x1 σ)), rfl⟩, by rw [sp_B, ht_]; exact hP⟩, hS.F ht_⟩) hS.2.2 d_P_lineTo_18
theorem p_lineTo_is {Z K : Nat} {x : Int32} {σ : xb_St} (iZ : sp_isP Z) (h : p_lineTo Z x σ = some K) : sp_isLine K := by
  unfold p_lineTo at h
  rcases h1 : p_endpointOf Z x σ with _ | K1
  · rw [xb_om_none h1] at h; exact nomatch h
  · rw [xb_om_some h1] at h
    have e := Option.some.inj h
    rw [← e]
    exact sp_lnA_is (p_endpointOf_is iZ h1)
abbrev b_P_offer : ByteArray := prog_1_method_2_code
def y_P_offer : MethodName := ⟨"SecurePair", "offer", "(III)Z"⟩
abbrev w_P_offer : List Cond := .code y_P_offer b_P_offer 5 (some .boolean) :: xa
theorem d_P_offer_0 : decode b_P_offer 0 = .ok (.aload_n 0, 1) := by decide +kernel
theorem d_P_offer_1 : decode b_P_offer 1 = .ok (.iload_n 1, 1) := by decide +kernel
theorem d_P_offer_2 : decode b_P_offer 2 = .ok (.invokevirtual 28, 3) := by decide +kernel
theorem d_P_offer_5 : decode b_P_offer 5 = .ok (.astore 4, 2) := by decide +kernel
theorem d_P_offer_7 : decode b_P_offer 7 = .ok (.aload 4, 2) := by decide +kernel
theorem d_P_offer_9 : decode b_P_offer 9 = .ok (.ifnull 19, 3) := by decide +kernel
theorem d_P_offer_12 : decode b_P_offer 12 = .ok (.iload_n 2, 1) := by decide +kernel
theorem d_P_offer_13 : decode b_P_offer 13 = .ok (.i2l, 1) := by decide +kernel
theorem d_P_offer_14 : decode b_P_offer 14 = .ok (.invokestatic 32, 3) := by decide +kernel
theorem d_P_offer_17 : decode b_P_offer 17 = .ok (.ifCond .eq 11, 3) := by decide +kernel
theorem d_P_offer_20 : decode b_P_offer 20 = .ok (.iload_n 3, 1) := by decide +kernel
theorem d_P_offer_21 : decode b_P_offer 21 = .ok (.i2l, 1) := by decide +kernel
theorem d_P_offer_22 : decode b_P_offer 22 = .ok (.invokestatic 32, 3) := by decide +kernel
theorem d_P_offer_25 : decode b_P_offer 25 = .ok (.ifCond .ne 5, 3) := by decide +kernel
theorem d_P_offer_28 : decode b_P_offer 28 = .ok (.iconst 0, 1) := by decide +kernel
theorem d_P_offer_29 : decode b_P_offer 29 = .ok (.ireturn, 1) := by decide +kernel
theorem d_P_offer_30 : decode b_P_offer 30 = .ok (.aload 4, 2) := by decide +kernel
theorem d_P_offer_32 : decode b_P_offer 32 = .ok (.iload_n 2, 1) := by decide +kernel
theorem d_P_offer_33 : decode b_P_offer 33 = .ok (.putfield 36, 3) := by decide +kernel
theorem d_P_offer_36 : decode b_P_offer 36 = .ok (.aload 4, 2) := by decide +kernel
theorem d_P_offer_38 : decode b_P_offer 38 = .ok (.iload_n 3, 1) := by decide +kernel
theorem d_P_offer_39 : decode b_P_offer 39 = .ok (.putfield 42, 3) := by decide +kernel
theorem d_P_offer_42 : decode b_P_offer 42 = .ok (.iconst 1, 1) := by decide +kernel
theorem d_P_offer_43 : decode b_P_offer 43 = .ok (.ireturn, 1) := by decide +kernel
theorem xw254 : (Cond.fieldLink "SecurePair" (36 : Nat) "SecurePair$Endpoint" "ciphers" "I") ∈ xa := xa_t 254 (by decide +kernel) (by decide +kernel)
theorem xw256 : (Cond.fieldLink "SecurePair" (42 : Nat) "SecurePair$Endpoint" "tags" "I") ∈ xa := xa_t 256 (by decide +kernel) (by decide +kernel)
def p_offer (Z : Nat) (x1 : Int32) (x2 : Int32) (x3 : Int32) (σ : xb_St) : Int32 × xb_St := (xb_om (p_endpointOf Z x1 σ) ((0 : Int32), σ) (fun K1 => (if (f_isList x2.toInt64) = 0 then ((0 : Int32), σ) else (if (f_isList x3.toInt64) = 0 then ((0 : Int32), σ) else ((1 : Int32), (xb_si (xb_si σ K1 11 x2) K1 12 x3))))))
set_option maxHeartbeats 4000000 in
set_option maxRecDepth 100000 in
theorem c_P_offer (l : Launch) (D : va_G) (α : Nat → Nat) (κ : Nat → ClassId) (hα : xb_inj α 35) (σ : xb_St) (Z : Nat) (x1 : Int32) (x2 : Int32) (x3 : Int32) (iZ : sp_isP Z) : Met l y_P_offer w_P_offer ({ frames := 1, cells := 0, slots := 0, locals := 26 }) (va_Pc ([.ref (α Z), .int x1, .int x2, .int x3]) (sp_Pre D α κ σ)) (va_Qi (fun r (u : xb_St) => r = (p_offer Z x1 x2 x3 σ).1 ∧ u = (p_offer Z x1 x2 x3 σ).2) (sp_B D α κ) (xb_A α 35)) 0 0 (xb_A α 35) := by
  refine Met.ofW (cc := b_P_offer) (maxL := 5) (ret := (some .boolean)) (by decide) rfl ?_
  intro p e s m args below meth c s₁ B_ hml hv
  obtain ⟨rfl, hP, hK, hN⟩ := hv
  have hx := B_.exec
  have hb := B_.bytes
  have hr := B_.returns
  have hts := atoms_spec (ws := w_P_offer) B_.pre
  have ht : ∀ w ∈ xa, w.before _ s = true := fun w h => hts w (List.mem_cons_of_mem _ h)
  have hown : s.vm.findClass "SecurePair" = some m.cls := findClass_of_methodNamed B_.named
  have hlocks := B_.notSynchronized
  have hD := sp_D hα κ
  have hS : va_S (xb_A α 35) s.heap s.heap [] := va_S.rf
  have hl := lv_entry ([.ref (α Z), .int x1, .int x2, .int x3]) (n := 5) (Nat.le_of_ble_eq_true rfl)
  rw [lg_entry_eq]
  generalize (lg_sl ([.ref (α Z), .int x1, .int x2, .int x3]) ++ List.replicate (5 - (lg_sl ([.ref (α Z), .int x1, .int x2, .int x3])).length) Slot.unset).toArray = ls at hl ⊢
  have hl : lv_has ls 5 [(0, .ref (α Z)), (1, .int x1), (2, .int x2), (3, .int x3)] := hl
  refine lv_aload_n hx hb d_P_offer_0 rfl (lv_at hl 0 rfl) ?_
  refine lv_iload_n hx hb d_P_offer_1 rfl (lv_at hl 1 rfl) ?_
  refine sp_cq (va_runV (As := [.int x1]) (rest := []) ⟨hx, hb, hml, hown, hts⟩ (c_P_endpointOf l D α κ hα σ Z x1 iZ) (cwV 1 hts (xa_V xw340 xw342 xs0 xw1 xw343) rfl rfl rfl (by decide +kernel) ⟨Nat.le_of_ble_eq_true rfl, Nat.le_of_ble_eq_true rfl⟩) ⟨sp_blind, va_recv hK hP rfl (sp_at_P iZ), sp_pre hP hK hN _⟩ rfl rfl hl.1 rfl (lv_room (Nat.le_of_ble_eq_true rfl)) d_P_offer_2 ⟨Nat.le_of_ble_eq_true rfl, Nat.le_of_ble_eq_true rfl⟩) hS (fun _ h_ => h_) (fun H locs hP hS => ?_)
  rcases c1 : (p_endpointOf Z x1 σ) with _ | K1
  · skip
    refine lv_astoreN (lv' := [(4, .null), (0, .ref (α Z)), (1, .int x1), (2, .int x2), (3, .int x3)]) hx hb d_P_offer_5 hl (by decide) rfl (fun ls hl => ?_)
    refine lv_aloadN hx hb d_P_offer_7 (lv_at hl 0 rfl) ?_
    refine lv_ifnullN (tgt := 28) hx hb d_P_offer_9 (by decide) ?_
    refine lv_iconst (v := 0) hx hb d_P_offer_28 (by decide) ?_
    exact W.zret (v := (0 : Int32)) hx hb hr rfl (fun t ht_ hW => ⟨⟨(0 : Int32), σ, rfl, ⟨congrArg Prod.fst (((by unfold p_offer; rw [xb_om_none c1])) : ((0 : Int32), σ) = p_offer Z x1 x2 x3 σ), congrArg Prod.snd (((by unfold p_offer; rw [xb_om_none c1])) : ((0 : Int32), σ) = p_offer Z x1 x2 x3 σ)⟩, by rw [sp_B, ht_]; exact hP⟩, hS.F ht_⟩) hS.2.2 d_P_offer_29
  · skip
    have iK1 := p_endpointOf_is iZ c1; have hlAK1 := sp_lnA_is iK1; have hlDK1 := sp_lnD_is iK1; have hlnK1 := sp_ln_ne iK1
    refine lv_astore (lv' := [(4, .ref (α K1)), (0, .ref (α Z)), (1, .int x1), (2, .int x2), (3, .int x3)]) hx hb d_P_offer_5 hl (by decide) rfl (fun ls hl => ?_)
    refine lv_aload hx hb d_P_offer_7 (lv_at hl 0 rfl) ?_
    refine lv_ifnull hx hb d_P_offer_9 ?_
    refine lv_iload_n hx hb d_P_offer_12 rfl (lv_at hl 3 rfl) ?_
    refine lv_i2l (v := x2.toInt64) hx hb d_P_offer_13 (by rfl) ?_
    refine vp_callSi (W.runS (As := [.long x2.toInt64]) (rest := []) ⟨hx, hb, hml, hown, hts⟩ (c_P_isList l x2.toInt64) (cwS 1 hts (xa_S xw344 xw345 xw1 xw346) rfl rfl rfl (by decide +kernel) ⟨Nat.le_of_ble_eq_true rfl, Nat.le_of_ble_eq_true rfl⟩) preEq rfl rfl hl.1 rfl (lv_room (Nat.le_of_ble_eq_true rfl)) d_P_offer_14 ⟨Nat.le_of_ble_eq_true rfl, Nat.le_of_ble_eq_true rfl⟩) (fun r_ e_ => ?_)
    subst e_
    refine lv_if_eq (tgt := 28) hx hb d_P_offer_17 (by decide) (fun c2 => ?_) (fun c2 => ?_)
    · skip
      refine lv_iconst (v := 0) hx hb d_P_offer_28 (by decide) ?_
      exact W.zret (v := (0 : Int32)) hx hb hr rfl (fun t ht_ hW => ⟨⟨(0 : Int32), σ, rfl, ⟨congrArg Prod.fst (((by unfold p_offer; rw [xb_om_some c1, if_pos c2])) : ((0 : Int32), σ) = p_offer Z x1 x2 x3 σ), congrArg Prod.snd (((by unfold p_offer; rw [xb_om_some c1, if_pos c2])) : ((0 : Int32), σ) = p_offer Z x1 x2 x3 σ)⟩, by rw [sp_B, ht_]; exact hP⟩, hS.F ht_⟩) hS.2.2 d_P_offer_29
    · skip
      refine lv_iload_n hx hb d_P_offer_20 rfl (lv_at hl 4 rfl) ?_
      refine lv_i2l (v := x3.toInt64) hx hb d_P_offer_21 (by rfl) ?_
      refine vp_callSi (W.runS (As := [.long x3.toInt64]) (rest := []) ⟨hx, hb, hml, hown, hts⟩ (c_P_isList l x3.toInt64) (cwS 1 hts (xa_S xw344 xw345 xw1 xw346) rfl rfl rfl (by decide +kernel) ⟨Nat.le_of_ble_eq_true rfl, Nat.le_of_ble_eq_true rfl⟩) preEq rfl rfl hl.1 rfl (lv_room (Nat.le_of_ble_eq_true rfl)) d_P_offer_22 ⟨Nat.le_of_ble_eq_true rfl, Nat.le_of_ble_eq_true rfl⟩) (fun r_ e_ => ?_)
      subst e_
      refine lv_if_ne (tgt := 30) hx hb d_P_offer_25 (by decide) (fun c3 => ?_) (fun c3 => ?_)
      · skip
        refine lv_aload hx hb d_P_offer_30 (lv_at hl 0 rfl) ?_
        refine lv_iload_n hx hb d_P_offer_32 rfl (lv_at hl 3 rfl) ?_
        refine sp_pi_Endpoint (x := x2) (ty := .int) hx hb ht hown hK hP iK1 11 (by decide) (ht _ xw254) (fun _ h_ => h_) hD hS rfl (by decide +kernel) rfl rfl hf_Endpoint_11 d_P_offer_33 (fun H locs hP hS => ?_)
        refine lv_aload hx hb d_P_offer_36 (lv_at hl 0 rfl) ?_
        refine lv_iload_n hx hb d_P_offer_38 rfl (lv_at hl 4 rfl) ?_
        refine sp_pi_Endpoint (x := x3) (ty := .int) hx hb ht hown hK hP iK1 12 (by decide) (ht _ xw256) (fun _ h_ => h_) hD hS rfl (by decide +kernel) rfl rfl hf_Endpoint_12 d_P_offer_39 (fun H locs hP hS => ?_)
        refine lv_iconst (v := 1) hx hb d_P_offer_42 (by decide) ?_
        exact W.zret (v := (1 : Int32)) hx hb hr rfl (fun t ht_ hW => ⟨⟨(1 : Int32), (xb_si (xb_si σ K1 11 x2) K1 12 x3), rfl, ⟨congrArg Prod.fst (((by unfold p_offer; rw [xb_om_some c1, if_neg c2, if_neg c3])) : ((1 : Int32), (xb_si (xb_si σ K1 11 x2) K1 12 x3)) = p_offer Z x1 x2 x3 σ), congrArg Prod.snd (((by unfold p_offer; rw [xb_om_some c1, if_neg c2, if_neg c3])) : ((1 : Int32), (xb_si (xb_si σ K1 11 x2) K1 12 x3)) = p_offer Z x1 x2 x3 σ)⟩, by rw [sp_B, ht_]; exact hP⟩, hS.F ht_⟩) hS.2.2 d_P_offer_43
      · skip
        refine lv_iconst (v := 0) hx hb d_P_offer_28 (by decide) ?_
        exact W.zret (v := (0 : Int32)) hx hb hr rfl (fun t ht_ hW => ⟨⟨(0 : Int32), σ, rfl, ⟨congrArg Prod.fst (((by unfold p_offer; rw [xb_om_some c1, if_neg c2, if_pos c3])) : ((0 : Int32), σ) = p_offer Z x1 x2 x3 σ), congrArg Prod.snd (((by unfold p_offer; rw [xb_om_some c1, if_neg c2, if_pos c3])) : ((0 : Int32), σ) = p_offer Z x1 x2 x3 σ)⟩, by rw [sp_B, ht_]; exact hP⟩, hS.F ht_⟩) hS.2.2 d_P_offer_29
theorem ok_p_offer {σ : xb_St} (Z : Nat) (x1 : Int32) (x2 : Int32) (x3 : Int32) (iZ : sp_isP Z) (ok : sp_ok σ) : sp_ok (p_offer Z x1 x2 x3 σ).2 := by
  unfold p_offer
  rcases c1 : (p_endpointOf Z x1 σ) with _ | K1
  · dsimp only [xb_om]
    exact ok
  · dsimp only [xb_om]
    have iK1 := p_endpointOf_is iZ c1; have hlAK1 := sp_lnA_is iK1; have hlDK1 := sp_lnD_is iK1; have hlnK1 := sp_ln_ne iK1
    by_cases c2 : (f_isList x2.toInt64) = 0
    · rw [if_pos c2]
      exact ok
    · rw [if_neg c2]
      by_cases c3 : (f_isList x3.toInt64) = 0
      · rw [if_pos c3]
        exact ok
      · rw [if_neg c3]
        exact (ok_si (ok_si ok (by omega) (by omega)) (by omega) (by omega))
abbrev b_P_secret : ByteArray := prog_1_method_3_code
def y_P_secret : MethodName := ⟨"SecurePair", "secret", "(II)Z"⟩
abbrev w_P_secret : List Cond := .code y_P_secret b_P_secret 4 (some .boolean) :: xa
theorem d_P_secret_0 : decode b_P_secret 0 = .ok (.aload_n 0, 1) := by decide +kernel
theorem d_P_secret_1 : decode b_P_secret 1 = .ok (.iload_n 1, 1) := by decide +kernel
theorem d_P_secret_2 : decode b_P_secret 2 = .ok (.invokevirtual 28, 3) := by decide +kernel
theorem d_P_secret_5 : decode b_P_secret 5 = .ok (.astore_n 3, 1) := by decide +kernel
theorem d_P_secret_6 : decode b_P_secret 6 = .ok (.aload_n 3, 1) := by decide +kernel
theorem d_P_secret_7 : decode b_P_secret 7 = .ok (.ifnull 10, 3) := by decide +kernel
theorem d_P_secret_10 : decode b_P_secret 10 = .ok (.iload_n 2, 1) := by decide +kernel
theorem d_P_secret_11 : decode b_P_secret 11 = .ok (.invokestatic 45, 3) := by decide +kernel
theorem d_P_secret_14 : decode b_P_secret 14 = .ok (.ifCond .ne 5, 3) := by decide +kernel
theorem d_P_secret_17 : decode b_P_secret 17 = .ok (.iconst 0, 1) := by decide +kernel
theorem d_P_secret_18 : decode b_P_secret 18 = .ok (.ireturn, 1) := by decide +kernel
theorem d_P_secret_19 : decode b_P_secret 19 = .ok (.aload_n 3, 1) := by decide +kernel
theorem d_P_secret_20 : decode b_P_secret 20 = .ok (.iload_n 2, 1) := by decide +kernel
theorem d_P_secret_21 : decode b_P_secret 21 = .ok (.putfield 49, 3) := by decide +kernel
theorem d_P_secret_24 : decode b_P_secret 24 = .ok (.iconst 1, 1) := by decide +kernel
theorem d_P_secret_25 : decode b_P_secret 25 = .ok (.ireturn, 1) := by decide +kernel
theorem xw258 : (Cond.fieldLink "SecurePair" (49 : Nat) "SecurePair$Endpoint" "nextSecret" "I") ∈ xa := xa_t 258 (by decide +kernel) (by decide +kernel)
theorem xw353 : (Cond.methodLink "SecurePair" (45 : Nat) ({ cls := "SecurePair", name := "isSecret", desc := "(I)Z" } : MethodName)) ∈ xa := xa_t 353 (by decide +kernel) (by decide +kernel)
theorem xw354 : (Cond.static ({ cls := "SecurePair", name := "isSecret", desc := "(I)Z" } : MethodName)) ∈ xa := xa_t 354 (by decide +kernel) (by decide +kernel)
theorem xw355 : (Cond.code ({ cls := "SecurePair", name := "isSecret", desc := "(I)Z" } : MethodName) prog_1_method_30_code (1 : Nat) (Option.some ClassFile.FieldType.boolean)) ∈ xa := xa_t 355 (by decide +kernel) (by decide +kernel)
def p_secret (Z : Nat) (x1 : Int32) (x2 : Int32) (σ : xb_St) : Int32 × xb_St := (xb_om (p_endpointOf Z x1 σ) ((0 : Int32), σ) (fun K1 => (if (f_isSecret x2) = 0 then ((0 : Int32), σ) else ((1 : Int32), (xb_si σ K1 13 x2)))))
set_option maxHeartbeats 4000000 in
set_option maxRecDepth 100000 in
theorem c_P_secret (l : Launch) (D : va_G) (α : Nat → Nat) (κ : Nat → ClassId) (hα : xb_inj α 35) (σ : xb_St) (Z : Nat) (x1 : Int32) (x2 : Int32) (iZ : sp_isP Z) : Met l y_P_secret w_P_secret ({ frames := 1, cells := 0, slots := 0, locals := 21 }) (va_Pc ([.ref (α Z), .int x1, .int x2]) (sp_Pre D α κ σ)) (va_Qi (fun r (u : xb_St) => r = (p_secret Z x1 x2 σ).1 ∧ u = (p_secret Z x1 x2 σ).2) (sp_B D α κ) (xb_A α 35)) 0 0 (xb_A α 35) := by
  refine Met.ofW (cc := b_P_secret) (maxL := 4) (ret := (some .boolean)) (by decide) rfl ?_
  intro p e s m args below meth c s₁ B_ hml hv
  obtain ⟨rfl, hP, hK, hN⟩ := hv
  have hx := B_.exec
  have hb := B_.bytes
  have hr := B_.returns
  have hts := atoms_spec (ws := w_P_secret) B_.pre
  have ht : ∀ w ∈ xa, w.before _ s = true := fun w h => hts w (List.mem_cons_of_mem _ h)
  have hown : s.vm.findClass "SecurePair" = some m.cls := findClass_of_methodNamed B_.named
  have hlocks := B_.notSynchronized
  have hD := sp_D hα κ
  have hS : va_S (xb_A α 35) s.heap s.heap [] := va_S.rf
  have hl := lv_entry ([.ref (α Z), .int x1, .int x2]) (n := 4) (Nat.le_of_ble_eq_true rfl)
  rw [lg_entry_eq]
  generalize (lg_sl ([.ref (α Z), .int x1, .int x2]) ++ List.replicate (4 - (lg_sl ([.ref (α Z), .int x1, .int x2])).length) Slot.unset).toArray = ls at hl ⊢
  have hl : lv_has ls 4 [(0, .ref (α Z)), (1, .int x1), (2, .int x2)] := hl
  refine lv_aload_n hx hb d_P_secret_0 rfl (lv_at hl 0 rfl) ?_
  refine lv_iload_n hx hb d_P_secret_1 rfl (lv_at hl 1 rfl) ?_
  refine sp_cq (va_runV (As := [.int x1]) (rest := []) ⟨hx, hb, hml, hown, hts⟩ (c_P_endpointOf l D α κ hα σ Z x1 iZ) (cwV 1 hts (xa_V xw340 xw342 xs0 xw1 xw343) rfl rfl rfl (by decide +kernel) ⟨Nat.le_of_ble_eq_true rfl, Nat.le_of_ble_eq_true rfl⟩) ⟨sp_blind, va_recv hK hP rfl (sp_at_P iZ), sp_pre hP hK hN _⟩ rfl rfl hl.1 rfl (lv_room (Nat.le_of_ble_eq_true rfl)) d_P_secret_2 ⟨Nat.le_of_ble_eq_true rfl, Nat.le_of_ble_eq_true rfl⟩) hS (fun _ h_ => h_) (fun H locs hP hS => ?_)
  rcases c1 : (p_endpointOf Z x1 σ) with _ | K1
  · skip
    refine lv_astore_nN (lv' := [(3, .null), (0, .ref (α Z)), (1, .int x1), (2, .int x2)]) hx hb d_P_secret_5 rfl hl (by decide) rfl (fun ls hl => ?_)
    refine lv_aload_nN hx hb d_P_secret_6 rfl (lv_at hl 0 rfl) ?_
    refine lv_ifnullN (tgt := 17) hx hb d_P_secret_7 (by decide) ?_
    refine lv_iconst (v := 0) hx hb d_P_secret_17 (by decide) ?_
    exact W.zret (v := (0 : Int32)) hx hb hr rfl (fun t ht_ hW => ⟨⟨(0 : Int32), σ, rfl, ⟨congrArg Prod.fst (((by unfold p_secret; rw [xb_om_none c1])) : ((0 : Int32), σ) = p_secret Z x1 x2 σ), congrArg Prod.snd (((by unfold p_secret; rw [xb_om_none c1])) : ((0 : Int32), σ) = p_secret Z x1 x2 σ)⟩, by rw [sp_B, ht_]; exact hP⟩, hS.F ht_⟩) hS.2.2 d_P_secret_18
  · skip
    have iK1 := p_endpointOf_is iZ c1; have hlAK1 := sp_lnA_is iK1; have hlDK1 := sp_lnD_is iK1; have hlnK1 := sp_ln_ne iK1
    refine lv_astore_n (lv' := [(3, .ref (α K1)), (0, .ref (α Z)), (1, .int x1), (2, .int x2)]) hx hb d_P_secret_5 rfl hl (by decide) rfl (fun ls hl => ?_)
    refine lv_aload_n hx hb d_P_secret_6 rfl (lv_at hl 0 rfl) ?_
    refine lv_ifnull hx hb d_P_secret_7 ?_
    refine lv_iload_n hx hb d_P_secret_10 rfl (lv_at hl 3 rfl) ?_
    refine vp_callSi (W.runS (As := [.int x2]) (rest := []) ⟨hx, hb, hml, hown, hts⟩ (c_P_isSecret l x2) (cwS 1 hts (xa_S xw353 xw354 xw1 xw355) rfl rfl rfl (by decide +kernel) ⟨Nat.le_of_ble_eq_true rfl, Nat.le_of_ble_eq_true rfl⟩) preEq rfl rfl hl.1 rfl (lv_room (Nat.le_of_ble_eq_true rfl)) d_P_secret_11 ⟨Nat.le_of_ble_eq_true rfl, Nat.le_of_ble_eq_true rfl⟩) (fun r_ e_ => ?_)
    subst e_
    refine lv_if_ne (tgt := 19) hx hb d_P_secret_14 (by decide) (fun c2 => ?_) (fun c2 => ?_)
    · skip
      refine lv_aload_n hx hb d_P_secret_19 rfl (lv_at hl 0 rfl) ?_
      refine lv_iload_n hx hb d_P_secret_20 rfl (lv_at hl 3 rfl) ?_
      refine sp_pi_Endpoint (x := x2) (ty := .int) hx hb ht hown hK hP iK1 13 (by decide) (ht _ xw258) (fun _ h_ => h_) hD hS rfl (by decide +kernel) rfl rfl hf_Endpoint_13 d_P_secret_21 (fun H locs hP hS => ?_)
      refine lv_iconst (v := 1) hx hb d_P_secret_24 (by decide) ?_
      exact W.zret (v := (1 : Int32)) hx hb hr rfl (fun t ht_ hW => ⟨⟨(1 : Int32), (xb_si σ K1 13 x2), rfl, ⟨congrArg Prod.fst (((by unfold p_secret; rw [xb_om_some c1, if_neg c2])) : ((1 : Int32), (xb_si σ K1 13 x2)) = p_secret Z x1 x2 σ), congrArg Prod.snd (((by unfold p_secret; rw [xb_om_some c1, if_neg c2])) : ((1 : Int32), (xb_si σ K1 13 x2)) = p_secret Z x1 x2 σ)⟩, by rw [sp_B, ht_]; exact hP⟩, hS.F ht_⟩) hS.2.2 d_P_secret_25
    · skip
      refine lv_iconst (v := 0) hx hb d_P_secret_17 (by decide) ?_
      exact W.zret (v := (0 : Int32)) hx hb hr rfl (fun t ht_ hW => ⟨⟨(0 : Int32), σ, rfl, ⟨congrArg Prod.fst (((by unfold p_secret; rw [xb_om_some c1, if_pos c2])) : ((0 : Int32), σ) = p_secret Z x1 x2 σ), congrArg Prod.snd (((by unfold p_secret; rw [xb_om_some c1, if_pos c2])) : ((0 : Int32), σ) = p_secret Z x1 x2 σ)⟩, by rw [sp_B, ht_]; exact hP⟩, hS.F ht_⟩) hS.2.2 d_P_secret_18
theorem ok_p_secret {σ : xb_St} (Z : Nat) (x1 : Int32) (x2 : Int32) (iZ : sp_isP Z) (ok : sp_ok σ) : sp_ok (p_secret Z x1 x2 σ).2 := by
  unfold p_secret
  rcases c1 : (p_endpointOf Z x1 σ) with _ | K1
  · dsimp only [xb_om]
    exact ok
  · dsimp only [xb_om]
    have iK1 := p_endpointOf_is iZ c1; have hlAK1 := sp_lnA_is iK1; have hlDK1 := sp_lnD_is iK1; have hlnK1 := sp_ln_ne iK1
    by_cases c2 : (f_isSecret x2) = 0
    · rw [if_pos c2]
      exact ok
    · rw [if_neg c2]
      exact (ok_si ok (by omega) (by omega))
abbrev b_P_host : ByteArray := prog_1_method_4_code
def y_P_host : MethodName := ⟨"SecurePair", "host", "(I)I"⟩
abbrev w_P_host : List Cond := .code y_P_host b_P_host 2 (some .int) :: xa
theorem d_P_host_0 : decode b_P_host 0 = .ok (.iload_n 1, 1) := by decide +kernel
theorem d_P_host_1 : decode b_P_host 1 = .ok (.invokestatic 45, 3) := by decide +kernel
theorem d_P_host_4 : decode b_P_host 4 = .ok (.ifCond .ne 5, 3) := by decide +kernel
theorem d_P_host_7 : decode b_P_host 7 = .ok (.iconst 0, 1) := by decide +kernel
theorem d_P_host_8 : decode b_P_host 8 = .ok (.ireturn, 1) := by decide +kernel
theorem d_P_host_9 : decode b_P_host 9 = .ok (.aload_n 0, 1) := by decide +kernel
theorem d_P_host_10 : decode b_P_host 10 = .ok (.getfield 24, 3) := by decide +kernel
theorem d_P_host_13 : decode b_P_host 13 = .ok (.iload_n 1, 1) := by decide +kernel
theorem d_P_host_14 : decode b_P_host 14 = .ok (.putfield 52, 3) := by decide +kernel
theorem d_P_host_17 : decode b_P_host 17 = .ok (.ldc2_w 55, 3) := by decide +kernel
theorem d_P_host_20 : decode b_P_host 20 = .ok (.iload_n 1, 1) := by decide +kernel
theorem d_P_host_21 : decode b_P_host 21 = .ok (.i2l, 1) := by decide +kernel
theorem d_P_host_22 : decode b_P_host 22 = .ok (.invokestatic 57, 3) := by decide +kernel
theorem d_P_host_25 : decode b_P_host 25 = .ok (.l2i, 1) := by decide +kernel
theorem d_P_host_26 : decode b_P_host 26 = .ok (.ireturn, 1) := by decide +kernel
theorem xw308 : (Cond.fieldLink "SecurePair" (52 : Nat) "SecurePair$Server" "hostSecret" "I") ∈ xa := xa_t 308 (by decide +kernel) (by decide +kernel)
def p_host (Z : Nat) (x1 : Int32) (σ : xb_St) : Int32 × xb_St := (if (f_isSecret x1) = 0 then ((0 : Int32), σ) else ((f_power (7 : Int64) x1.toInt64).toInt32, (xb_si σ 20 17 x1)))
set_option maxHeartbeats 4000000 in
set_option maxRecDepth 100000 in
theorem c_P_host (l : Launch) (D : va_G) (α : Nat → Nat) (κ : Nat → ClassId) (hα : xb_inj α 35) (σ : xb_St) (Z : Nat) (x1 : Int32) (iZ : sp_isP Z) : Met l y_P_host w_P_host ({ frames := 1, cells := 0, slots := 0, locals := 30 }) (va_Pc ([.ref (α Z), .int x1]) (sp_Pre D α κ σ)) (va_Qi (fun r (u : xb_St) => r = (p_host Z x1 σ).1 ∧ u = (p_host Z x1 σ).2) (sp_B D α κ) (xb_A α 35)) 0 0 (xb_A α 35) := by
  refine Met.ofW (cc := b_P_host) (maxL := 2) (ret := (some .int)) (by decide) rfl ?_
  intro p e s m args below meth c s₁ B_ hml hv
  obtain ⟨rfl, hP, hK, hN⟩ := hv
  have hx := B_.exec
  have hb := B_.bytes
  have hr := B_.returns
  have hts := atoms_spec (ws := w_P_host) B_.pre
  have ht : ∀ w ∈ xa, w.before _ s = true := fun w h => hts w (List.mem_cons_of_mem _ h)
  have hown : s.vm.findClass "SecurePair" = some m.cls := findClass_of_methodNamed B_.named
  have hlocks := B_.notSynchronized
  have hD := sp_D hα κ
  have hS : va_S (xb_A α 35) s.heap s.heap [] := va_S.rf
  have hl := lv_entry ([.ref (α Z), .int x1]) (n := 2) (Nat.le_of_ble_eq_true rfl)
  rw [lg_entry_eq]
  generalize (lg_sl ([.ref (α Z), .int x1]) ++ List.replicate (2 - (lg_sl ([.ref (α Z), .int x1])).length) Slot.unset).toArray = ls at hl ⊢
  have hl : lv_has ls 2 [(0, .ref (α Z)), (1, .int x1)] := hl
  refine lv_iload_n hx hb d_P_host_0 rfl (lv_at hl 1 rfl) ?_
  refine vp_callSi (W.runS (As := [.int x1]) (rest := []) ⟨hx, hb, hml, hown, hts⟩ (c_P_isSecret l x1) (cwS 1 hts (xa_S xw353 xw354 xw1 xw355) rfl rfl rfl (by decide +kernel) ⟨Nat.le_of_ble_eq_true rfl, Nat.le_of_ble_eq_true rfl⟩) preEq rfl rfl hl.1 rfl (lv_room (Nat.le_of_ble_eq_true rfl)) d_P_host_1 ⟨Nat.le_of_ble_eq_true rfl, Nat.le_of_ble_eq_true rfl⟩) (fun r_ e_ => ?_)
  subst e_
  refine lv_if_ne (tgt := 9) hx hb d_P_host_4 (by decide) (fun c1 => ?_) (fun c1 => ?_)
  · skip
    refine lv_aload_n hx hb d_P_host_9 rfl (lv_at hl 0 rfl) ?_
    refine sp_g_P (v := .ref (α 20)) hx hb ht hown hK hP iZ 1 (by decide) (ht _ xw330) (fun _ h_ => h_) rfl d_P_host_10 ?_
    refine lv_iload_n hx hb d_P_host_13 rfl (lv_at hl 1 rfl) ?_
    refine sp_pi_Server (x := x1) (ty := .int) hx hb ht hown hK hP (by omega) 17 (by decide) (ht _ xw308) (fun _ h_ => h_) hD hS rfl (by decide +kernel) rfl rfl hf_Endpoint_17 d_P_host_14 (fun H locs hP hS => ?_)
    refine lv_ldc2 hx hb hown (ht _ xw348) d_P_host_17 ?_
    refine lv_iload_n hx hb d_P_host_20 rfl (lv_at hl 1 rfl) ?_
    refine lv_i2l (v := x1.toInt64) hx hb d_P_host_21 (by rfl) ?_
    refine vp_callSl (W.runS (As := [.long (7 : Int64), .long x1.toInt64]) (rest := []) ⟨hx, hb, hml, hown, hts⟩ (c_P_power l (7 : Int64) x1.toInt64) (cwS 2 hts (xa_S xw361 xw362 xw1 xw363) rfl rfl rfl (by decide +kernel) ⟨Nat.le_of_ble_eq_true rfl, Nat.le_of_ble_eq_true rfl⟩) preEq rfl rfl hl.1 rfl (lv_room (Nat.le_of_ble_eq_true rfl)) d_P_host_22 ⟨Nat.le_of_ble_eq_true rfl, Nat.le_of_ble_eq_true rfl⟩) (fun r_ e_ => ?_)
    subst e_
    refine lv_l2i (v := (f_power (7 : Int64) x1.toInt64).toInt32) hx hb d_P_host_25 (by rfl) ?_
    exact W.iret (v := (f_power (7 : Int64) x1.toInt64).toInt32) hx hb hr (fun t ht_ hW => ⟨⟨(f_power (7 : Int64) x1.toInt64).toInt32, (xb_si σ 20 17 x1), rfl, ⟨congrArg Prod.fst ((((if_neg c1)).symm) : ((f_power (7 : Int64) x1.toInt64).toInt32, (xb_si σ 20 17 x1)) = p_host Z x1 σ), congrArg Prod.snd ((((if_neg c1)).symm) : ((f_power (7 : Int64) x1.toInt64).toInt32, (xb_si σ 20 17 x1)) = p_host Z x1 σ)⟩, by rw [sp_B, ht_]; exact hP⟩, hS.F ht_⟩) hS.2.2 d_P_host_26
  · skip
    refine lv_iconst (v := 0) hx hb d_P_host_7 (by decide) ?_
    exact W.iret (v := (0 : Int32)) hx hb hr (fun t ht_ hW => ⟨⟨(0 : Int32), σ, rfl, ⟨congrArg Prod.fst ((((if_pos c1)).symm) : ((0 : Int32), σ) = p_host Z x1 σ), congrArg Prod.snd ((((if_pos c1)).symm) : ((0 : Int32), σ) = p_host Z x1 σ)⟩, by rw [sp_B, ht_]; exact hP⟩, hS.F ht_⟩) hS.2.2 d_P_host_8
theorem ok_p_host {σ : xb_St} (Z : Nat) (x1 : Int32) (iZ : sp_isP Z) (ok : sp_ok σ) : sp_ok (p_host Z x1 σ).2 := by
  unfold p_host
  by_cases c1 : (f_isSecret x1) = 0
  · rw [if_pos c1]
    exact ok
  · rw [if_neg c1]
    exact (ok_si ok (by omega) (by omega))
abbrev b_P_trust : ByteArray := prog_1_method_5_code
def y_P_trust : MethodName := ⟨"SecurePair", "trust", "(I)V"⟩
abbrev w_P_trust : List Cond := .code y_P_trust b_P_trust 2 none :: xa
theorem d_P_trust_0 : decode b_P_trust 0 = .ok (.aload_n 0, 1) := by decide +kernel
theorem d_P_trust_1 : decode b_P_trust 1 = .ok (.getfield 15, 3) := by decide +kernel
theorem d_P_trust_4 : decode b_P_trust 4 = .ok (.iload_n 1, 1) := by decide +kernel
theorem d_P_trust_5 : decode b_P_trust 5 = .ok (.putfield 61, 3) := by decide +kernel
theorem d_P_trust_8 : decode b_P_trust 8 = .ok (.return_, 1) := by decide +kernel
theorem xw228 : (Cond.fieldLink "SecurePair" (61 : Nat) "SecurePair$Client" "trusted" "I") ∈ xa := xa_t 228 (by decide +kernel) (by decide +kernel)
def p_trust (Z : Nat) (x1 : Int32) (σ : xb_St) : xb_St := (xb_si σ 5 17 x1)
set_option maxHeartbeats 4000000 in
set_option maxRecDepth 100000 in
theorem c_P_trust (l : Launch) (D : va_G) (α : Nat → Nat) (κ : Nat → ClassId) (hα : xb_inj α 35) (σ : xb_St) (Z : Nat) (x1 : Int32) (iZ : sp_isP Z) : Met l y_P_trust w_P_trust ({ frames := 0, cells := 0, slots := 0, locals := 0 }) (va_Pc ([.ref (α Z), .int x1]) (sp_Pre D α κ σ)) (va_Qv (fun u : xb_St => u = p_trust Z x1 σ) (sp_B D α κ) (xb_A α 35)) 0 0 (xb_A α 35) := by
  refine Met.ofW (cc := b_P_trust) (maxL := 2) (ret := none) (by decide) rfl ?_
  intro p e s m args below meth c s₁ B_ hml hv
  obtain ⟨rfl, hP, hK, hN⟩ := hv
  have hx := B_.exec
  have hb := B_.bytes
  have hr := B_.returns
  have hts := atoms_spec (ws := w_P_trust) B_.pre
  have ht : ∀ w ∈ xa, w.before _ s = true := fun w h => hts w (List.mem_cons_of_mem _ h)
  have hown : s.vm.findClass "SecurePair" = some m.cls := findClass_of_methodNamed B_.named
  have hlocks := B_.notSynchronized
  have hD := sp_D hα κ
  have hS : va_S (xb_A α 35) s.heap s.heap [] := va_S.rf
  have hl := lv_entry ([.ref (α Z), .int x1]) (n := 2) (Nat.le_of_ble_eq_true rfl)
  rw [lg_entry_eq]
  generalize (lg_sl ([.ref (α Z), .int x1]) ++ List.replicate (2 - (lg_sl ([.ref (α Z), .int x1])).length) Slot.unset).toArray = ls at hl ⊢
  have hl : lv_has ls 2 [(0, .ref (α Z)), (1, .int x1)] := hl
  refine lv_aload_n hx hb d_P_trust_0 rfl (lv_at hl 0 rfl) ?_
  refine sp_g_P (v := .ref (α 5)) hx hb ht hown hK hP iZ 0 (by decide) (ht _ xw329) (fun _ h_ => h_) rfl d_P_trust_1 ?_
  refine lv_iload_n hx hb d_P_trust_4 rfl (lv_at hl 1 rfl) ?_
  refine sp_pi_Client (x := x1) (ty := .int) hx hb ht hown hK hP (by omega) 17 (by decide) (ht _ xw228) (fun _ h_ => h_) hD hS rfl (by decide +kernel) rfl rfl hf_Endpoint_17 d_P_trust_5 (fun H locs hP hS => ?_)
  exact W.vret hx hb hr (fun t ht_ hW => ⟨⟨(xb_si σ 5 17 x1), rfl, rfl, by rw [sp_B, ht_]; exact hP⟩, hS.F ht_⟩) hS.2.2 d_P_trust_8
theorem ok_p_trust {σ : xb_St} (Z : Nat) (x1 : Int32) (iZ : sp_isP Z) (ok : sp_ok σ) : sp_ok (p_trust Z x1 σ) := by
  unfold p_trust
  exact (ok_si ok (by omega) (by omega))
abbrev b_P_leave : ByteArray := prog_1_method_12_code
def y_P_leave : MethodName := ⟨"SecurePair", "leave", "(II)Z"⟩
abbrev w_P_leave : List Cond := .code y_P_leave b_P_leave 4 (some .boolean) :: xa
theorem d_P_leave_0 : decode b_P_leave 0 = .ok (.aload_n 0, 1) := by decide +kernel
theorem d_P_leave_1 : decode b_P_leave 1 = .ok (.iload_n 1, 1) := by decide +kernel
theorem d_P_leave_2 : decode b_P_leave 2 = .ok (.invokevirtual 28, 3) := by decide +kernel
theorem d_P_leave_5 : decode b_P_leave 5 = .ok (.astore_n 3, 1) := by decide +kernel
theorem d_P_leave_6 : decode b_P_leave 6 = .ok (.aload_n 3, 1) := by decide +kernel
theorem d_P_leave_7 : decode b_P_leave 7 = .ok (.ifnull 11, 3) := by decide +kernel
theorem d_P_leave_10 : decode b_P_leave 10 = .ok (.aload_n 3, 1) := by decide +kernel
theorem d_P_leave_11 : decode b_P_leave 11 = .ok (.getfield 91, 3) := by decide +kernel
theorem d_P_leave_14 : decode b_P_leave 14 = .ok (.iconst 5, 1) := by decide +kernel
theorem d_P_leave_15 : decode b_P_leave 15 = .ok (.if_icmp .ne 5, 3) := by decide +kernel
theorem d_P_leave_18 : decode b_P_leave 18 = .ok (.iconst 0, 1) := by decide +kernel
theorem d_P_leave_19 : decode b_P_leave 19 = .ok (.ireturn, 1) := by decide +kernel
theorem d_P_leave_20 : decode b_P_leave 20 = .ok (.aload_n 3, 1) := by decide +kernel
theorem d_P_leave_21 : decode b_P_leave 21 = .ok (.iload_n 2, 1) := by decide +kernel
theorem d_P_leave_22 : decode b_P_leave 22 = .ok (.i2l, 1) := by decide +kernel
theorem d_P_leave_23 : decode b_P_leave 23 = .ok (.invokevirtual 147, 3) := by decide +kernel
theorem d_P_leave_26 : decode b_P_leave 26 = .ok (.iconst 1, 1) := by decide +kernel
theorem d_P_leave_27 : decode b_P_leave 27 = .ok (.ireturn, 1) := by decide +kernel
theorem xw250 : (Cond.fieldLink "SecurePair" (91 : Nat) "SecurePair$Endpoint" "phase" "I") ∈ xa := xa_t 250 (by decide +kernel) (by decide +kernel)
theorem xw373 : (Cond.methodLink "SecurePair" (147 : Nat) ({ cls := "SecurePair$Endpoint", name := "fail", desc := "(J)V" } : MethodName)) ∈ xa := xa_t 373 (by decide +kernel) (by decide +kernel)
def p_leave (Z : Nat) (x1 : Int32) (x2 : Int32) (σ : xb_St) : Int32 × xb_St := (xb_om (p_endpointOf Z x1 σ) ((0 : Int32), σ) (fun K1 => (if (σ.1 K1 9) = (5 : Int32) then ((0 : Int32), σ) else ((1 : Int32), (p_fail K1 x2.toInt64 σ)))))
set_option maxHeartbeats 4000000 in
set_option maxRecDepth 100000 in
theorem c_P_leave (l : Launch) (D : va_G) (α : Nat → Nat) (κ : Nat → ClassId) (hα : xb_inj α 35) (σ : xb_St) (Z : Nat) (x1 : Int32) (x2 : Int32) (iZ : sp_isP Z) (ok : sp_ok σ) : Met l y_P_leave w_P_leave ({ frames := 4, cells := 0, slots := 0, locals := 99 }) (va_Pc ([.ref (α Z), .int x1, .int x2]) (sp_Pre D α κ σ)) (va_Qi (fun r (u : xb_St) => r = (p_leave Z x1 x2 σ).1 ∧ u = (p_leave Z x1 x2 σ).2) (sp_B D α κ) (xb_A α 35)) 0 0 (xb_A α 35) := by
  refine Met.ofW (cc := b_P_leave) (maxL := 4) (ret := (some .boolean)) (by decide) rfl ?_
  intro p e s m args below meth c s₁ B_ hml hv
  obtain ⟨rfl, hP, hK, hN⟩ := hv
  have hx := B_.exec
  have hb := B_.bytes
  have hr := B_.returns
  have hts := atoms_spec (ws := w_P_leave) B_.pre
  have ht : ∀ w ∈ xa, w.before _ s = true := fun w h => hts w (List.mem_cons_of_mem _ h)
  have hown : s.vm.findClass "SecurePair" = some m.cls := findClass_of_methodNamed B_.named
  have hlocks := B_.notSynchronized
  have hD := sp_D hα κ
  have hS : va_S (xb_A α 35) s.heap s.heap [] := va_S.rf
  have hl := lv_entry ([.ref (α Z), .int x1, .int x2]) (n := 4) (Nat.le_of_ble_eq_true rfl)
  rw [lg_entry_eq]
  generalize (lg_sl ([.ref (α Z), .int x1, .int x2]) ++ List.replicate (4 - (lg_sl ([.ref (α Z), .int x1, .int x2])).length) Slot.unset).toArray = ls at hl ⊢
  have hl : lv_has ls 4 [(0, .ref (α Z)), (1, .int x1), (2, .int x2)] := hl
  refine lv_aload_n hx hb d_P_leave_0 rfl (lv_at hl 0 rfl) ?_
  refine lv_iload_n hx hb d_P_leave_1 rfl (lv_at hl 1 rfl) ?_
  refine sp_cq (va_runV (As := [.int x1]) (rest := []) ⟨hx, hb, hml, hown, hts⟩ (c_P_endpointOf l D α κ hα σ Z x1 iZ) (cwV 1 hts (xa_V xw340 xw342 xs0 xw1 xw343) rfl rfl rfl (by decide +kernel) ⟨Nat.le_of_ble_eq_true rfl, Nat.le_of_ble_eq_true rfl⟩) ⟨sp_blind, va_recv hK hP rfl (sp_at_P iZ), sp_pre hP hK hN _⟩ rfl rfl hl.1 rfl (lv_room (Nat.le_of_ble_eq_true rfl)) d_P_leave_2 ⟨Nat.le_of_ble_eq_true rfl, Nat.le_of_ble_eq_true rfl⟩) hS (fun _ h_ => h_) (fun H locs hP hS => ?_)
  rcases c1 : (p_endpointOf Z x1 σ) with _ | K1
  · skip
    refine lv_astore_nN (lv' := [(3, .null), (0, .ref (α Z)), (1, .int x1), (2, .int x2)]) hx hb d_P_leave_5 rfl hl (by decide) rfl (fun ls hl => ?_)
    refine lv_aload_nN hx hb d_P_leave_6 rfl (lv_at hl 0 rfl) ?_
    refine lv_ifnullN (tgt := 18) hx hb d_P_leave_7 (by decide) ?_
    refine lv_iconst (v := 0) hx hb d_P_leave_18 (by decide) ?_
    exact W.zret (v := (0 : Int32)) hx hb hr rfl (fun t ht_ hW => ⟨⟨(0 : Int32), σ, rfl, ⟨congrArg Prod.fst (((by unfold p_leave; rw [xb_om_none c1])) : ((0 : Int32), σ) = p_leave Z x1 x2 σ), congrArg Prod.snd (((by unfold p_leave; rw [xb_om_none c1])) : ((0 : Int32), σ) = p_leave Z x1 x2 σ)⟩, by rw [sp_B, ht_]; exact hP⟩, hS.F ht_⟩) hS.2.2 d_P_leave_19
  · skip
    have iK1 := p_endpointOf_is iZ c1; have hlAK1 := sp_lnA_is iK1; have hlDK1 := sp_lnD_is iK1; have hlnK1 := sp_ln_ne iK1
    refine lv_astore_n (lv' := [(3, .ref (α K1)), (0, .ref (α Z)), (1, .int x1), (2, .int x2)]) hx hb d_P_leave_5 rfl hl (by decide) rfl (fun ls hl => ?_)
    refine lv_aload_n hx hb d_P_leave_6 rfl (lv_at hl 0 rfl) ?_
    refine lv_ifnull hx hb d_P_leave_7 ?_
    refine lv_aload_n hx hb d_P_leave_10 rfl (lv_at hl 0 rfl) ?_
    refine sp_g_Endpoint (v := .int (σ.1 K1 9)) hx hb ht hown hK hP iK1 9 (by decide) (ht _ xw250) (fun _ h_ => h_) rfl d_P_leave_11 ?_
    refine lv_iconst (v := 5) hx hb d_P_leave_14 (by decide) ?_
    refine lv_icmp_ne (tgt := 20) hx hb d_P_leave_15 (by decide) (fun c2 => ?_) (fun c2 => ?_)
    · skip
      refine lv_aload_n hx hb d_P_leave_20 rfl (lv_at hl 0 rfl) ?_
      refine lv_iload_n hx hb d_P_leave_21 rfl (lv_at hl 3 rfl) ?_
      refine lv_i2l (v := x2.toInt64) hx hb d_P_leave_22 (by rfl) ?_
      refine sp_cv (sp_runE (n := 1) (As := [.long x2.toInt64]) (rest := []) ⟨hx, hb, hml, hown, hts⟩ (c_Endpoint_fail l D α κ hα σ K1 x2.toInt64 iK1 ok) iK1 xw373 xw375 xw376 xw377 xw374 xw3 xw378 rfl rfl rfl (by decide +kernel) ⟨Nat.le_of_ble_eq_true rfl, Nat.le_of_ble_eq_true rfl⟩ hP hK hN rfl rfl hl.1 rfl (lv_room (Nat.le_of_ble_eq_true rfl)) d_P_leave_23 ⟨Nat.le_of_ble_eq_true rfl, Nat.le_of_ble_eq_true rfl⟩) hS (fun _ h_ => h_) (fun H locs hP hS => ?_)
      obtain ⟨τ1, hτ1⟩ : ∃ t_, t_ = (p_fail K1 x2.toInt64 σ) := ⟨_, rfl⟩
      rw [← hτ1] at hP
      have okτ1 : sp_ok τ1 := by rw [hτ1]; exact (ok_p_fail K1 x2.toInt64 iK1 ok)
      refine lv_iconst (v := 1) hx hb d_P_leave_26 (by decide) ?_
      exact W.zret (v := (1 : Int32)) hx hb hr rfl (fun t ht_ hW => ⟨⟨(1 : Int32), τ1, rfl, ⟨congrArg Prod.fst (((by subst hτ1; exact (by unfold p_leave; rw [xb_om_some c1, if_neg c2]))) : ((1 : Int32), τ1) = p_leave Z x1 x2 σ), congrArg Prod.snd (((by subst hτ1; exact (by unfold p_leave; rw [xb_om_some c1, if_neg c2]))) : ((1 : Int32), τ1) = p_leave Z x1 x2 σ)⟩, by rw [sp_B, ht_]; exact hP⟩, hS.F ht_⟩) hS.2.2 d_P_leave_27
    · skip
      refine lv_iconst (v := 0) hx hb d_P_leave_18 (by decide) ?_
      exact W.zret (v := (0 : Int32)) hx hb hr rfl (fun t ht_ hW => ⟨⟨(0 : Int32), σ, rfl, ⟨congrArg Prod.fst (((by unfold p_leave; rw [xb_om_some c1, if_pos c2])) : ((0 : Int32), σ) = p_leave Z x1 x2 σ), congrArg Prod.snd (((by unfold p_leave; rw [xb_om_some c1, if_pos c2])) : ((0 : Int32), σ) = p_leave Z x1 x2 σ)⟩, by rw [sp_B, ht_]; exact hP⟩, hS.F ht_⟩) hS.2.2 d_P_leave_19
theorem ok_p_leave {σ : xb_St} (Z : Nat) (x1 : Int32) (x2 : Int32) (iZ : sp_isP Z) (ok : sp_ok σ) : sp_ok (p_leave Z x1 x2 σ).2 := by
  unfold p_leave
  rcases c1 : (p_endpointOf Z x1 σ) with _ | K1
  · dsimp only [xb_om]
    exact ok
  · dsimp only [xb_om]
    have iK1 := p_endpointOf_is iZ c1; have hlAK1 := sp_lnA_is iK1; have hlDK1 := sp_lnD_is iK1; have hlnK1 := sp_ln_ne iK1
    by_cases c2 : (σ.1 K1 9) = (5 : Int32)
    · rw [if_pos c2]
      exact ok
    · rw [if_neg c2]
      exact (ok_p_fail K1 x2.toInt64 iK1 ok)
abbrev b_P_phase : ByteArray := prog_1_method_18_code
def y_P_phase : MethodName := ⟨"SecurePair", "phase", "(I)J"⟩
abbrev w_P_phase : List Cond := .code y_P_phase b_P_phase 3 (some .long) :: xa
theorem d_P_phase_0 : decode b_P_phase 0 = .ok (.aload_n 0, 1) := by decide +kernel
theorem d_P_phase_1 : decode b_P_phase 1 = .ok (.iload_n 1, 1) := by decide +kernel
theorem d_P_phase_2 : decode b_P_phase 2 = .ok (.invokevirtual 28, 3) := by decide +kernel
theorem d_P_phase_5 : decode b_P_phase 5 = .ok (.astore_n 2, 1) := by decide +kernel
theorem d_P_phase_6 : decode b_P_phase 6 = .ok (.aload_n 2, 1) := by decide +kernel
theorem d_P_phase_7 : decode b_P_phase 7 = .ok (.ifnonnull 9, 3) := by decide +kernel
theorem d_P_phase_10 : decode b_P_phase 10 = .ok (.ldc2_w 172, 3) := by decide +kernel
theorem d_P_phase_13 : decode b_P_phase 13 = .ok (.goto 17, 3) := by decide +kernel
theorem d_P_phase_16 : decode b_P_phase 16 = .ok (.aload_n 2, 1) := by decide +kernel
theorem d_P_phase_17 : decode b_P_phase 17 = .ok (.getfield 91, 3) := by decide +kernel
theorem d_P_phase_20 : decode b_P_phase 20 = .ok (.i2l, 1) := by decide +kernel
theorem d_P_phase_21 : decode b_P_phase 21 = .ok (.ldc2_w 174, 3) := by decide +kernel
theorem d_P_phase_24 : decode b_P_phase 24 = .ok (.aload_n 2, 1) := by decide +kernel
theorem d_P_phase_25 : decode b_P_phase 25 = .ok (.getfield 176, 3) := by decide +kernel
theorem d_P_phase_28 : decode b_P_phase 28 = .ok (.lmul, 1) := by decide +kernel
theorem d_P_phase_29 : decode b_P_phase 29 = .ok (.ladd, 1) := by decide +kernel
theorem d_P_phase_30 : decode b_P_phase 30 = .ok (.lreturn, 1) := by decide +kernel
theorem xw252 : (Cond.fieldLink "SecurePair" (176 : Nat) "SecurePair$Endpoint" "reason" "J") ∈ xa := xa_t 252 (by decide +kernel) (by decide +kernel)
theorem xw463 : (Cond.constantLong "SecurePair" (172 : Nat) (-1 : Int64)) ∈ xa := xa_t 463 (by decide +kernel) (by decide +kernel)
theorem xw464 : (Cond.constantLong "SecurePair" (174 : Nat) (8 : Int64)) ∈ xa := xa_t 464 (by decide +kernel) (by decide +kernel)
def p_phase (Z : Nat) (x1 : Int32) (σ : xb_St) : Int64 := (xb_om (p_endpointOf Z x1 σ) (-1 : Int64) (fun K1 => ((σ.1 K1 9).toInt64 + ((8 : Int64) * (σ.2 K1 10)))))
set_option maxHeartbeats 4000000 in
set_option maxRecDepth 100000 in
theorem c_P_phase (l : Launch) (D : va_G) (α : Nat → Nat) (κ : Nat → ClassId) (hα : xb_inj α 35) (σ : xb_St) (Z : Nat) (x1 : Int32) (iZ : sp_isP Z) : Met l y_P_phase w_P_phase ({ frames := 1, cells := 0, slots := 0, locals := 21 }) (va_Pc ([.ref (α Z), .int x1]) (sp_Pre D α κ σ)) (va_Ql (fun r (u : xb_St) => r = p_phase Z x1 σ ∧ u = σ) (sp_B D α κ) (xb_A α 35)) 0 0 (xb_A α 35) := by
  refine Met.ofW (cc := b_P_phase) (maxL := 3) (ret := (some .long)) (by decide) rfl ?_
  intro p e s m args below meth c s₁ B_ hml hv
  obtain ⟨rfl, hP, hK, hN⟩ := hv
  have hx := B_.exec
  have hb := B_.bytes
  have hr := B_.returns
  have hts := atoms_spec (ws := w_P_phase) B_.pre
  have ht : ∀ w ∈ xa, w.before _ s = true := fun w h => hts w (List.mem_cons_of_mem _ h)
  have hown : s.vm.findClass "SecurePair" = some m.cls := findClass_of_methodNamed B_.named
  have hlocks := B_.notSynchronized
  have hD := sp_D hα κ
  have hS : va_S (xb_A α 35) s.heap s.heap [] := va_S.rf
  have hl := lv_entry ([.ref (α Z), .int x1]) (n := 3) (Nat.le_of_ble_eq_true rfl)
  rw [lg_entry_eq]
  generalize (lg_sl ([.ref (α Z), .int x1]) ++ List.replicate (3 - (lg_sl ([.ref (α Z), .int x1])).length) Slot.unset).toArray = ls at hl ⊢
  have hl : lv_has ls 3 [(0, .ref (α Z)), (1, .int x1)] := hl
  refine lv_aload_n hx hb d_P_phase_0 rfl (lv_at hl 0 rfl) ?_
  refine lv_iload_n hx hb d_P_phase_1 rfl (lv_at hl 1 rfl) ?_
  refine sp_cq (va_runV (As := [.int x1]) (rest := []) ⟨hx, hb, hml, hown, hts⟩ (c_P_endpointOf l D α κ hα σ Z x1 iZ) (cwV 1 hts (xa_V xw340 xw342 xs0 xw1 xw343) rfl rfl rfl (by decide +kernel) ⟨Nat.le_of_ble_eq_true rfl, Nat.le_of_ble_eq_true rfl⟩) ⟨sp_blind, va_recv hK hP rfl (sp_at_P iZ), sp_pre hP hK hN _⟩ rfl rfl hl.1 rfl (lv_room (Nat.le_of_ble_eq_true rfl)) d_P_phase_2 ⟨Nat.le_of_ble_eq_true rfl, Nat.le_of_ble_eq_true rfl⟩) hS (fun _ h_ => h_) (fun H locs hP hS => ?_)
  rcases c1 : (p_endpointOf Z x1 σ) with _ | K1
  · skip
    refine lv_astore_nN (lv' := [(2, .null), (0, .ref (α Z)), (1, .int x1)]) hx hb d_P_phase_5 rfl hl (by decide) rfl (fun ls hl => ?_)
    refine lv_aload_nN hx hb d_P_phase_6 rfl (lv_at hl 0 rfl) ?_
    refine lv_ifnonnullN hx hb d_P_phase_7 ?_
    refine lv_ldc2 hx hb hown (ht _ xw463) d_P_phase_10 ?_
    refine lv_goto (tgt := 30) hx hb d_P_phase_13 (by decide) ?_
    exact W.lret (v := (-1 : Int64)) hx hb hr (fun t ht_ hW => ⟨⟨(-1 : Int64), σ, rfl, ⟨(by unfold p_phase; rw [xb_om_none c1]), rfl⟩, by rw [sp_B, ht_]; exact hP⟩, hS.F ht_⟩) hS.2.2 d_P_phase_30
  · skip
    have iK1 := p_endpointOf_is iZ c1; have hlAK1 := sp_lnA_is iK1; have hlDK1 := sp_lnD_is iK1; have hlnK1 := sp_ln_ne iK1
    refine lv_astore_n (lv' := [(2, .ref (α K1)), (0, .ref (α Z)), (1, .int x1)]) hx hb d_P_phase_5 rfl hl (by decide) rfl (fun ls hl => ?_)
    refine lv_aload_n hx hb d_P_phase_6 rfl (lv_at hl 0 rfl) ?_
    refine lv_ifnonnull (tgt := 16) hx hb d_P_phase_7 (by decide) ?_
    refine lv_aload_n hx hb d_P_phase_16 rfl (lv_at hl 0 rfl) ?_
    refine sp_g_Endpoint (v := .int (σ.1 K1 9)) hx hb ht hown hK hP iK1 9 (by decide) (ht _ xw250) (fun _ h_ => h_) rfl d_P_phase_17 ?_
    refine lv_i2l (v := (σ.1 K1 9).toInt64) hx hb d_P_phase_20 (by rfl) ?_
    refine lv_ldc2 hx hb hown (ht _ xw464) d_P_phase_21 ?_
    refine lv_aload_n hx hb d_P_phase_24 rfl (lv_at hl 0 rfl) ?_
    refine sp_g_Endpoint (v := .long (σ.2 K1 10)) hx hb ht hown hK hP iK1 10 (by decide) (ht _ xw252) (fun _ h_ => h_) rfl d_P_phase_25 ?_
    refine lv_lmul hx hb d_P_phase_28 ?_
    refine lv_ladd hx hb d_P_phase_29 ?_
    exact W.lret (v := ((σ.1 K1 9).toInt64 + ((8 : Int64) * (σ.2 K1 10)))) hx hb hr (fun t ht_ hW => ⟨⟨((σ.1 K1 9).toInt64 + ((8 : Int64) * (σ.2 K1 10))), σ, rfl, ⟨(by unfold p_phase; rw [xb_om_some c1]), rfl⟩, by rw [sp_B, ht_]; exact hP⟩, hS.F ht_⟩) hS.2.2 d_P_phase_30
abbrev b_P_session : ByteArray := prog_1_method_19_code
def y_P_session : MethodName := ⟨"SecurePair", "session", "(I)J"⟩
abbrev w_P_session : List Cond := .code y_P_session b_P_session 3 (some .long) :: xa
theorem d_P_session_0 : decode b_P_session 0 = .ok (.aload_n 0, 1) := by decide +kernel
theorem d_P_session_1 : decode b_P_session 1 = .ok (.iload_n 1, 1) := by decide +kernel
theorem d_P_session_2 : decode b_P_session 2 = .ok (.invokevirtual 28, 3) := by decide +kernel
theorem d_P_session_5 : decode b_P_session 5 = .ok (.astore_n 2, 1) := by decide +kernel
theorem d_P_session_6 : decode b_P_session 6 = .ok (.aload_n 2, 1) := by decide +kernel
theorem d_P_session_7 : decode b_P_session 7 = .ok (.ifnonnull 7, 3) := by decide +kernel
theorem d_P_session_10 : decode b_P_session 10 = .ok (.lconst 0, 1) := by decide +kernel
theorem d_P_session_11 : decode b_P_session 11 = .ok (.goto 7, 3) := by decide +kernel
theorem d_P_session_14 : decode b_P_session 14 = .ok (.aload_n 2, 1) := by decide +kernel
theorem d_P_session_15 : decode b_P_session 15 = .ok (.getfield 180, 3) := by decide +kernel
theorem d_P_session_18 : decode b_P_session 18 = .ok (.lreturn, 1) := by decide +kernel
theorem xw263 : (Cond.fieldLink "SecurePair" (180 : Nat) "SecurePair$Endpoint" "session" "J") ∈ xa := xa_t 263 (by decide +kernel) (by decide +kernel)
def p_session (Z : Nat) (x1 : Int32) (σ : xb_St) : Int64 := (xb_om (p_endpointOf Z x1 σ) (0 : Int64) (fun K1 => (σ.2 K1 16)))
set_option maxHeartbeats 4000000 in
set_option maxRecDepth 100000 in
theorem c_P_session (l : Launch) (D : va_G) (α : Nat → Nat) (κ : Nat → ClassId) (hα : xb_inj α 35) (σ : xb_St) (Z : Nat) (x1 : Int32) (iZ : sp_isP Z) : Met l y_P_session w_P_session ({ frames := 1, cells := 0, slots := 0, locals := 21 }) (va_Pc ([.ref (α Z), .int x1]) (sp_Pre D α κ σ)) (va_Ql (fun r (u : xb_St) => r = p_session Z x1 σ ∧ u = σ) (sp_B D α κ) (xb_A α 35)) 0 0 (xb_A α 35) := by
  refine Met.ofW (cc := b_P_session) (maxL := 3) (ret := (some .long)) (by decide) rfl ?_
  intro p e s m args below meth c s₁ B_ hml hv
  obtain ⟨rfl, hP, hK, hN⟩ := hv
  have hx := B_.exec
  have hb := B_.bytes
  have hr := B_.returns
  have hts := atoms_spec (ws := w_P_session) B_.pre
  have ht : ∀ w ∈ xa, w.before _ s = true := fun w h => hts w (List.mem_cons_of_mem _ h)
  have hown : s.vm.findClass "SecurePair" = some m.cls := findClass_of_methodNamed B_.named
  have hlocks := B_.notSynchronized
  have hD := sp_D hα κ
  have hS : va_S (xb_A α 35) s.heap s.heap [] := va_S.rf
  have hl := lv_entry ([.ref (α Z), .int x1]) (n := 3) (Nat.le_of_ble_eq_true rfl)
  rw [lg_entry_eq]
  generalize (lg_sl ([.ref (α Z), .int x1]) ++ List.replicate (3 - (lg_sl ([.ref (α Z), .int x1])).length) Slot.unset).toArray = ls at hl ⊢
  have hl : lv_has ls 3 [(0, .ref (α Z)), (1, .int x1)] := hl
  refine lv_aload_n hx hb d_P_session_0 rfl (lv_at hl 0 rfl) ?_
  refine lv_iload_n hx hb d_P_session_1 rfl (lv_at hl 1 rfl) ?_
  refine sp_cq (va_runV (As := [.int x1]) (rest := []) ⟨hx, hb, hml, hown, hts⟩ (c_P_endpointOf l D α κ hα σ Z x1 iZ) (cwV 1 hts (xa_V xw340 xw342 xs0 xw1 xw343) rfl rfl rfl (by decide +kernel) ⟨Nat.le_of_ble_eq_true rfl, Nat.le_of_ble_eq_true rfl⟩) ⟨sp_blind, va_recv hK hP rfl (sp_at_P iZ), sp_pre hP hK hN _⟩ rfl rfl hl.1 rfl (lv_room (Nat.le_of_ble_eq_true rfl)) d_P_session_2 ⟨Nat.le_of_ble_eq_true rfl, Nat.le_of_ble_eq_true rfl⟩) hS (fun _ h_ => h_) (fun H locs hP hS => ?_)
  rcases c1 : (p_endpointOf Z x1 σ) with _ | K1
  · skip
    refine lv_astore_nN (lv' := [(2, .null), (0, .ref (α Z)), (1, .int x1)]) hx hb d_P_session_5 rfl hl (by decide) rfl (fun ls hl => ?_)
    refine lv_aload_nN hx hb d_P_session_6 rfl (lv_at hl 0 rfl) ?_
    refine lv_ifnonnullN hx hb d_P_session_7 ?_
    refine lv_lconst (v := 0) hx hb d_P_session_10 (by decide) ?_
    refine lv_goto (tgt := 18) hx hb d_P_session_11 (by decide) ?_
    exact W.lret (v := (0 : Int64)) hx hb hr (fun t ht_ hW => ⟨⟨(0 : Int64), σ, rfl, ⟨(by unfold p_session; rw [xb_om_none c1]), rfl⟩, by rw [sp_B, ht_]; exact hP⟩, hS.F ht_⟩) hS.2.2 d_P_session_18
  · skip
    have iK1 := p_endpointOf_is iZ c1; have hlAK1 := sp_lnA_is iK1; have hlDK1 := sp_lnD_is iK1; have hlnK1 := sp_ln_ne iK1
    refine lv_astore_n (lv' := [(2, .ref (α K1)), (0, .ref (α Z)), (1, .int x1)]) hx hb d_P_session_5 rfl hl (by decide) rfl (fun ls hl => ?_)
    refine lv_aload_n hx hb d_P_session_6 rfl (lv_at hl 0 rfl) ?_
    refine lv_ifnonnull (tgt := 14) hx hb d_P_session_7 (by decide) ?_
    refine lv_aload_n hx hb d_P_session_14 rfl (lv_at hl 0 rfl) ?_
    refine sp_g_Endpoint (v := .long (σ.2 K1 16)) hx hb ht hown hK hP iK1 16 (by decide) (ht _ xw263) (fun _ h_ => h_) rfl d_P_session_15 ?_
    exact W.lret (v := (σ.2 K1 16)) hx hb hr (fun t ht_ hW => ⟨⟨(σ.2 K1 16), σ, rfl, ⟨(by unfold p_session; rw [xb_om_some c1]), rfl⟩, by rw [sp_B, ht_]; exact hP⟩, hS.F ht_⟩) hS.2.2 d_P_session_18
abbrev b_P_state : ByteArray := prog_1_method_20_code
def y_P_state : MethodName := ⟨"SecurePair", "state", "(II)I"⟩
abbrev w_P_state : List Cond := .code y_P_state b_P_state 4 (some .int) :: xa
theorem d_P_state_0 : decode b_P_state 0 = .ok (.aload_n 0, 1) := by decide +kernel
theorem d_P_state_1 : decode b_P_state 1 = .ok (.iload_n 1, 1) := by decide +kernel
theorem d_P_state_2 : decode b_P_state 2 = .ok (.invokevirtual 28, 3) := by decide +kernel
theorem d_P_state_5 : decode b_P_state 5 = .ok (.astore_n 3, 1) := by decide +kernel
theorem d_P_state_6 : decode b_P_state 6 = .ok (.aload_n 3, 1) := by decide +kernel
theorem d_P_state_7 : decode b_P_state 7 = .ok (.ifnonnull 5, 3) := by decide +kernel
theorem d_P_state_10 : decode b_P_state 10 = .ok (.iconst (-1), 1) := by decide +kernel
theorem d_P_state_11 : decode b_P_state 11 = .ok (.ireturn, 1) := by decide +kernel
theorem d_P_state_12 : decode b_P_state 12 = .ok (.iload_n 2, 1) := by decide +kernel
theorem d_P_state_13 : decode b_P_state 13 = .ok (.tableswitch 63 0 3 #[31, 39, 47, 55], 31) := by decide +kernel
theorem d_P_state_44 : decode b_P_state 44 = .ok (.aload_n 3, 1) := by decide +kernel
theorem d_P_state_45 : decode b_P_state 45 = .ok (.getfield 183, 3) := by decide +kernel
theorem d_P_state_48 : decode b_P_state 48 = .ok (.getfield 187, 3) := by decide +kernel
theorem d_P_state_51 : decode b_P_state 51 = .ok (.ireturn, 1) := by decide +kernel
theorem d_P_state_52 : decode b_P_state 52 = .ok (.aload_n 3, 1) := by decide +kernel
theorem d_P_state_53 : decode b_P_state 53 = .ok (.getfield 192, 3) := by decide +kernel
theorem d_P_state_56 : decode b_P_state 56 = .ok (.getfield 187, 3) := by decide +kernel
theorem d_P_state_59 : decode b_P_state 59 = .ok (.ireturn, 1) := by decide +kernel
theorem d_P_state_60 : decode b_P_state 60 = .ok (.aload_n 3, 1) := by decide +kernel
theorem d_P_state_61 : decode b_P_state 61 = .ok (.getfield 183, 3) := by decide +kernel
theorem d_P_state_64 : decode b_P_state 64 = .ok (.getfield 195, 3) := by decide +kernel
theorem d_P_state_67 : decode b_P_state 67 = .ok (.ireturn, 1) := by decide +kernel
theorem d_P_state_68 : decode b_P_state 68 = .ok (.aload_n 3, 1) := by decide +kernel
theorem d_P_state_69 : decode b_P_state 69 = .ok (.getfield 183, 3) := by decide +kernel
theorem d_P_state_72 : decode b_P_state 72 = .ok (.getfield 198, 3) := by decide +kernel
theorem d_P_state_75 : decode b_P_state 75 = .ok (.ireturn, 1) := by decide +kernel
theorem d_P_state_76 : decode b_P_state 76 = .ok (.iconst (-1), 1) := by decide +kernel
theorem d_P_state_77 : decode b_P_state 77 = .ok (.ireturn, 1) := by decide +kernel
theorem xw107 : (Cond.fieldLink "SecurePair" (195 : Nat) "SecurePair$Keys" "cipher" "I") ∈ xa := xa_t 107 (by decide +kernel) (by decide +kernel)
theorem xw109 : (Cond.fieldLink "SecurePair" (198 : Nat) "SecurePair$Keys" "tagKind" "I") ∈ xa := xa_t 109 (by decide +kernel) (by decide +kernel)
theorem xw112 : (Cond.fieldLink "SecurePair" (187 : Nat) "SecurePair$Keys" "number" "I") ∈ xa := xa_t 112 (by decide +kernel) (by decide +kernel)
theorem xw236 : (Cond.fieldLink "SecurePair" (192 : Nat) "SecurePair$Endpoint" "incoming" "LSecurePair$Keys;") ∈ xa := xa_t 236 (by decide +kernel) (by decide +kernel)
theorem xw238 : (Cond.fieldLink "SecurePair" (183 : Nat) "SecurePair$Endpoint" "outgoing" "LSecurePair$Keys;") ∈ xa := xa_t 238 (by decide +kernel) (by decide +kernel)
def p_state (Z : Nat) (x1 : Int32) (x2 : Int32) (σ : xb_St) : Int32 := (xb_om (p_endpointOf Z x1 σ) (-1 : Int32) (fun K1 => (if x2 = (0 : Int32) then (σ.1 (K1 + 4) 5) else (if x2 = (1 : Int32) then (σ.1 (K1 + 3) 5) else (if x2 = (2 : Int32) then (σ.1 (K1 + 4) 3) else (if x2 = (3 : Int32) then (σ.1 (K1 + 4) 4) else (-1 : Int32)))))))
set_option maxHeartbeats 4000000 in
set_option maxRecDepth 100000 in
theorem c_P_state (l : Launch) (D : va_G) (α : Nat → Nat) (κ : Nat → ClassId) (hα : xb_inj α 35) (σ : xb_St) (Z : Nat) (x1 : Int32) (x2 : Int32) (iZ : sp_isP Z) : Met l y_P_state w_P_state ({ frames := 1, cells := 0, slots := 0, locals := 21 }) (va_Pc ([.ref (α Z), .int x1, .int x2]) (sp_Pre D α κ σ)) (va_Qi (fun r (u : xb_St) => r = p_state Z x1 x2 σ ∧ u = σ) (sp_B D α κ) (xb_A α 35)) 0 0 (xb_A α 35) := by
  refine Met.ofW (cc := b_P_state) (maxL := 4) (ret := (some .int)) (by decide) rfl ?_
  intro p e s m args below meth c s₁ B_ hml hv
  obtain ⟨rfl, hP, hK, hN⟩ := hv
  have hx := B_.exec
  have hb := B_.bytes
  have hr := B_.returns
  have hts := atoms_spec (ws := w_P_state) B_.pre
  have ht : ∀ w ∈ xa, w.before _ s = true := fun w h => hts w (List.mem_cons_of_mem _ h)
  have hown : s.vm.findClass "SecurePair" = some m.cls := findClass_of_methodNamed B_.named
  have hlocks := B_.notSynchronized
  have hD := sp_D hα κ
  have hS : va_S (xb_A α 35) s.heap s.heap [] := va_S.rf
  have hl := lv_entry ([.ref (α Z), .int x1, .int x2]) (n := 4) (Nat.le_of_ble_eq_true rfl)
  rw [lg_entry_eq]
  generalize (lg_sl ([.ref (α Z), .int x1, .int x2]) ++ List.replicate (4 - (lg_sl ([.ref (α Z), .int x1, .int x2])).length) Slot.unset).toArray = ls at hl ⊢
  have hl : lv_has ls 4 [(0, .ref (α Z)), (1, .int x1), (2, .int x2)] := hl
  refine lv_aload_n hx hb d_P_state_0 rfl (lv_at hl 0 rfl) ?_
  refine lv_iload_n hx hb d_P_state_1 rfl (lv_at hl 1 rfl) ?_
  refine sp_cq (va_runV (As := [.int x1]) (rest := []) ⟨hx, hb, hml, hown, hts⟩ (c_P_endpointOf l D α κ hα σ Z x1 iZ) (cwV 1 hts (xa_V xw340 xw342 xs0 xw1 xw343) rfl rfl rfl (by decide +kernel) ⟨Nat.le_of_ble_eq_true rfl, Nat.le_of_ble_eq_true rfl⟩) ⟨sp_blind, va_recv hK hP rfl (sp_at_P iZ), sp_pre hP hK hN _⟩ rfl rfl hl.1 rfl (lv_room (Nat.le_of_ble_eq_true rfl)) d_P_state_2 ⟨Nat.le_of_ble_eq_true rfl, Nat.le_of_ble_eq_true rfl⟩) hS (fun _ h_ => h_) (fun H locs hP hS => ?_)
  rcases c1 : (p_endpointOf Z x1 σ) with _ | K1
  · skip
    refine lv_astore_nN (lv' := [(3, .null), (0, .ref (α Z)), (1, .int x1), (2, .int x2)]) hx hb d_P_state_5 rfl hl (by decide) rfl (fun ls hl => ?_)
    refine lv_aload_nN hx hb d_P_state_6 rfl (lv_at hl 0 rfl) ?_
    refine lv_ifnonnullN hx hb d_P_state_7 ?_
    refine lv_iconst (v := -1) hx hb d_P_state_10 (by decide) ?_
    exact W.iret (v := (-1 : Int32)) hx hb hr (fun t ht_ hW => ⟨⟨(-1 : Int32), σ, rfl, ⟨(by unfold p_state; rw [xb_om_none c1]), rfl⟩, by rw [sp_B, ht_]; exact hP⟩, hS.F ht_⟩) hS.2.2 d_P_state_11
  · skip
    have iK1 := p_endpointOf_is iZ c1; have hlAK1 := sp_lnA_is iK1; have hlDK1 := sp_lnD_is iK1; have hlnK1 := sp_ln_ne iK1
    refine lv_astore_n (lv' := [(3, .ref (α K1)), (0, .ref (α Z)), (1, .int x1), (2, .int x2)]) hx hb d_P_state_5 rfl hl (by decide) rfl (fun ls hl => ?_)
    refine lv_aload_n hx hb d_P_state_6 rfl (lv_at hl 0 rfl) ?_
    refine lv_ifnonnull (tgt := 12) hx hb d_P_state_7 (by decide) ?_
    refine lv_iload_n hx hb d_P_state_12 rfl (lv_at hl 3 rfl) ?_
    by_cases c2 : x2 = (0 : Int32)
    · skip
      refine lv_tableIn (off := 31) (tgt := 44) hx hb d_P_state_13 (by rw [c2]; decide) (by rw [c2]; decide) (by rw [c2]; rfl) (by decide) ?_
      refine lv_aload_n hx hb d_P_state_44 rfl (lv_at hl 0 rfl) ?_
      refine sp_g_Endpoint (v := .ref (α (K1 + 4))) hx hb ht hown hK hP iK1 6 (by decide) (ht _ xw238) (fun _ h_ => h_) rfl d_P_state_45 ?_
      refine sp_g_Keys (v := .int (σ.1 (K1 + 4) 5)) hx hb ht hown hK hP (by omega) 5 (by decide) (ht _ xw112) (fun _ h_ => h_) rfl d_P_state_48 ?_
      exact W.iret (v := (σ.1 (K1 + 4) 5)) hx hb hr (fun t ht_ hW => ⟨⟨(σ.1 (K1 + 4) 5), σ, rfl, ⟨(by unfold p_state; rw [xb_om_some c1, if_pos c2]), rfl⟩, by rw [sp_B, ht_]; exact hP⟩, hS.F ht_⟩) hS.2.2 d_P_state_51
    · skip
      by_cases c3 : x2 = (1 : Int32)
      · skip
        refine lv_tableIn (off := 39) (tgt := 52) hx hb d_P_state_13 (by rw [c3]; decide) (by rw [c3]; decide) (by rw [c3]; rfl) (by decide) ?_
        refine lv_aload_n hx hb d_P_state_52 rfl (lv_at hl 0 rfl) ?_
        refine sp_g_Endpoint (v := .ref (α (K1 + 3))) hx hb ht hown hK hP iK1 5 (by decide) (ht _ xw236) (fun _ h_ => h_) rfl d_P_state_53 ?_
        refine sp_g_Keys (v := .int (σ.1 (K1 + 3) 5)) hx hb ht hown hK hP (by omega) 5 (by decide) (ht _ xw112) (fun _ h_ => h_) rfl d_P_state_56 ?_
        exact W.iret (v := (σ.1 (K1 + 3) 5)) hx hb hr (fun t ht_ hW => ⟨⟨(σ.1 (K1 + 3) 5), σ, rfl, ⟨(by unfold p_state; rw [xb_om_some c1, if_neg c2, if_pos c3]), rfl⟩, by rw [sp_B, ht_]; exact hP⟩, hS.F ht_⟩) hS.2.2 d_P_state_59
      · skip
        by_cases c4 : x2 = (2 : Int32)
        · skip
          refine lv_tableIn (off := 47) (tgt := 60) hx hb d_P_state_13 (by rw [c4]; decide) (by rw [c4]; decide) (by rw [c4]; rfl) (by decide) ?_
          refine lv_aload_n hx hb d_P_state_60 rfl (lv_at hl 0 rfl) ?_
          refine sp_g_Endpoint (v := .ref (α (K1 + 4))) hx hb ht hown hK hP iK1 6 (by decide) (ht _ xw238) (fun _ h_ => h_) rfl d_P_state_61 ?_
          refine sp_g_Keys (v := .int (σ.1 (K1 + 4) 3)) hx hb ht hown hK hP (by omega) 3 (by decide) (ht _ xw107) (fun _ h_ => h_) rfl d_P_state_64 ?_
          exact W.iret (v := (σ.1 (K1 + 4) 3)) hx hb hr (fun t ht_ hW => ⟨⟨(σ.1 (K1 + 4) 3), σ, rfl, ⟨(by unfold p_state; rw [xb_om_some c1, if_neg c2, if_neg c3, if_pos c4]), rfl⟩, by rw [sp_B, ht_]; exact hP⟩, hS.F ht_⟩) hS.2.2 d_P_state_67
        · skip
          by_cases c5 : x2 = (3 : Int32)
          · skip
            refine lv_tableIn (off := 55) (tgt := 68) hx hb d_P_state_13 (by rw [c5]; decide) (by rw [c5]; decide) (by rw [c5]; rfl) (by decide) ?_
            refine lv_aload_n hx hb d_P_state_68 rfl (lv_at hl 0 rfl) ?_
            refine sp_g_Endpoint (v := .ref (α (K1 + 4))) hx hb ht hown hK hP iK1 6 (by decide) (ht _ xw238) (fun _ h_ => h_) rfl d_P_state_69 ?_
            refine sp_g_Keys (v := .int (σ.1 (K1 + 4) 4)) hx hb ht hown hK hP (by omega) 4 (by decide) (ht _ xw109) (fun _ h_ => h_) rfl d_P_state_72 ?_
            exact W.iret (v := (σ.1 (K1 + 4) 4)) hx hb hr (fun t ht_ hW => ⟨⟨(σ.1 (K1 + 4) 4), σ, rfl, ⟨(by unfold p_state; rw [xb_om_some c1, if_neg c2, if_neg c3, if_neg c4, if_pos c5]), rfl⟩, by rw [sp_B, ht_]; exact hP⟩, hS.F ht_⟩) hS.2.2 d_P_state_75
          · skip
            refine lv_tableOut (tgt := 76) hx hb d_P_state_13 (by have q0 := lv_neT c2 (a := 0) rfl; have q1 := lv_neT c3 (a := 1) rfl; have q2 := lv_neT c4 (a := 2) rfl; have q3 := lv_neT c5 (a := 3) rfl; omega) (by decide) ?_
            refine lv_iconst (v := -1) hx hb d_P_state_76 (by decide) ?_
            exact W.iret (v := (-1 : Int32)) hx hb hr (fun t ht_ hW => ⟨⟨(-1 : Int32), σ, rfl, ⟨(by unfold p_state; rw [xb_om_some c1, if_neg c2, if_neg c3, if_neg c4, if_neg c5]), rfl⟩, by rw [sp_B, ht_]; exact hP⟩, hS.F ht_⟩) hS.2.2 d_P_state_77
abbrev b_P_line : ByteArray := prog_1_method_23_code
def y_P_line : MethodName := ⟨"SecurePair", "line", "(I)I"⟩
abbrev w_P_line : List Cond := .code y_P_line b_P_line 3 (some .int) :: xa
theorem d_P_line_0 : decode b_P_line 0 = .ok (.aload_n 0, 1) := by decide +kernel
theorem d_P_line_1 : decode b_P_line 1 = .ok (.iload_n 1, 1) := by decide +kernel
theorem d_P_line_2 : decode b_P_line 2 = .ok (.invokevirtual 151, 3) := by decide +kernel
theorem d_P_line_5 : decode b_P_line 5 = .ok (.astore_n 2, 1) := by decide +kernel
theorem d_P_line_6 : decode b_P_line 6 = .ok (.aload_n 2, 1) := by decide +kernel
theorem d_P_line_7 : decode b_P_line 7 = .ok (.ifnonnull 7, 3) := by decide +kernel
theorem d_P_line_10 : decode b_P_line 10 = .ok (.iconst (-1), 1) := by decide +kernel
theorem d_P_line_11 : decode b_P_line 11 = .ok (.goto 7, 3) := by decide +kernel
theorem d_P_line_14 : decode b_P_line 14 = .ok (.aload_n 2, 1) := by decide +kernel
theorem d_P_line_15 : decode b_P_line 15 = .ok (.getfield 88, 3) := by decide +kernel
theorem d_P_line_18 : decode b_P_line 18 = .ok (.ireturn, 1) := by decide +kernel
theorem xw38 : (Cond.fieldLink "SecurePair" (88 : Nat) "SecurePair$Line" "size" "I") ∈ xa := xa_t 38 (by decide +kernel) (by decide +kernel)
theorem xw416 : (Cond.methodLink "SecurePair" (151 : Nat) ({ cls := "SecurePair", name := "lineTo", desc := "(I)LSecurePair$Line;" } : MethodName)) ∈ xa := xa_t 416 (by decide +kernel) (by decide +kernel)
theorem xw418 : (Cond.instanceMethod ({ cls := "SecurePair", name := "lineTo", desc := "(I)LSecurePair$Line;" } : MethodName)) ∈ xa := xa_t 418 (by decide +kernel) (by decide +kernel)
theorem xw419 : (Cond.code ({ cls := "SecurePair", name := "lineTo", desc := "(I)LSecurePair$Line;" } : MethodName) prog_1_method_25_code (3 : Nat) (Option.some (ClassFile.FieldType.object "SecurePair$Line"))) ∈ xa := xa_t 419 (by decide +kernel) (by decide +kernel)
theorem xs1 : (Cond.selects "SecurePair" ⟨"SecurePair", "lineTo", "(I)LSecurePair$Line;"⟩ ⟨"SecurePair", "lineTo", "(I)LSecurePair$Line;"⟩) ∈ xa := xa_s 1 (by decide +kernel) (by decide +kernel)
def p_line (Z : Nat) (x1 : Int32) (σ : xb_St) : Int32 := (xb_om (p_lineTo Z x1 σ) (-1 : Int32) (fun K1 => (σ.1 K1 1)))
set_option maxHeartbeats 4000000 in
set_option maxRecDepth 100000 in
theorem c_P_line (l : Launch) (D : va_G) (α : Nat → Nat) (κ : Nat → ClassId) (hα : xb_inj α 35) (σ : xb_St) (Z : Nat) (x1 : Int32) (iZ : sp_isP Z) : Met l y_P_line w_P_line ({ frames := 2, cells := 0, slots := 0, locals := 43 }) (va_Pc ([.ref (α Z), .int x1]) (sp_Pre D α κ σ)) (va_Qi (fun r (u : xb_St) => r = p_line Z x1 σ ∧ u = σ) (sp_B D α κ) (xb_A α 35)) 0 0 (xb_A α 35) := by
  refine Met.ofW (cc := b_P_line) (maxL := 3) (ret := (some .int)) (by decide) rfl ?_
  intro p e s m args below meth c s₁ B_ hml hv
  obtain ⟨rfl, hP, hK, hN⟩ := hv
  have hx := B_.exec
  have hb := B_.bytes
  have hr := B_.returns
  have hts := atoms_spec (ws := w_P_line) B_.pre
  have ht : ∀ w ∈ xa, w.before _ s = true := fun w h => hts w (List.mem_cons_of_mem _ h)
  have hown : s.vm.findClass "SecurePair" = some m.cls := findClass_of_methodNamed B_.named
  have hlocks := B_.notSynchronized
  have hD := sp_D hα κ
  have hS : va_S (xb_A α 35) s.heap s.heap [] := va_S.rf
  have hl := lv_entry ([.ref (α Z), .int x1]) (n := 3) (Nat.le_of_ble_eq_true rfl)
  rw [lg_entry_eq]
  generalize (lg_sl ([.ref (α Z), .int x1]) ++ List.replicate (3 - (lg_sl ([.ref (α Z), .int x1])).length) Slot.unset).toArray = ls at hl ⊢
  have hl : lv_has ls 3 [(0, .ref (α Z)), (1, .int x1)] := hl
  refine lv_aload_n hx hb d_P_line_0 rfl (lv_at hl 0 rfl) ?_
  refine lv_iload_n hx hb d_P_line_1 rfl (lv_at hl 1 rfl) ?_
  refine sp_cq (va_runV (As := [.int x1]) (rest := []) ⟨hx, hb, hml, hown, hts⟩ (c_P_lineTo l D α κ hα σ Z x1 iZ) (cwV 1 hts (xa_V xw416 xw418 xs1 xw1 xw419) rfl rfl rfl (by decide +kernel) ⟨Nat.le_of_ble_eq_true rfl, Nat.le_of_ble_eq_true rfl⟩) ⟨sp_blind, va_recv hK hP rfl (sp_at_P iZ), sp_pre hP hK hN _⟩ rfl rfl hl.1 rfl (lv_room (Nat.le_of_ble_eq_true rfl)) d_P_line_2 ⟨Nat.le_of_ble_eq_true rfl, Nat.le_of_ble_eq_true rfl⟩) hS (fun _ h_ => h_) (fun H locs hP hS => ?_)
  rcases c1 : (p_lineTo Z x1 σ) with _ | K1
  · skip
    refine lv_astore_nN (lv' := [(2, .null), (0, .ref (α Z)), (1, .int x1)]) hx hb d_P_line_5 rfl hl (by decide) rfl (fun ls hl => ?_)
    refine lv_aload_nN hx hb d_P_line_6 rfl (lv_at hl 0 rfl) ?_
    refine lv_ifnonnullN hx hb d_P_line_7 ?_
    refine lv_iconst (v := -1) hx hb d_P_line_10 (by decide) ?_
    refine lv_goto (tgt := 18) hx hb d_P_line_11 (by decide) ?_
    exact W.iret (v := (-1 : Int32)) hx hb hr (fun t ht_ hW => ⟨⟨(-1 : Int32), σ, rfl, ⟨(by unfold p_line; rw [xb_om_none c1]), rfl⟩, by rw [sp_B, ht_]; exact hP⟩, hS.F ht_⟩) hS.2.2 d_P_line_18
  · skip
    have iK1 := p_lineTo_is iZ c1
    refine lv_astore_n (lv' := [(2, .ref (α K1)), (0, .ref (α Z)), (1, .int x1)]) hx hb d_P_line_5 rfl hl (by decide) rfl (fun ls hl => ?_)
    refine lv_aload_n hx hb d_P_line_6 rfl (lv_at hl 0 rfl) ?_
    refine lv_ifnonnull (tgt := 14) hx hb d_P_line_7 (by decide) ?_
    refine lv_aload_n hx hb d_P_line_14 rfl (lv_at hl 0 rfl) ?_
    refine sp_g_Line (v := .int (σ.1 K1 1)) hx hb ht hown hK hP iK1 1 (by decide) (ht _ xw38) (fun _ h_ => h_) rfl d_P_line_15 ?_
    exact W.iret (v := (σ.1 K1 1)) hx hb hr (fun t ht_ hW => ⟨⟨(σ.1 K1 1), σ, rfl, ⟨(by unfold p_line; rw [xb_om_some c1]), rfl⟩, by rw [sp_B, ht_]; exact hP⟩, hS.F ht_⟩) hS.2.2 d_P_line_18
abbrev b_P_lose : ByteArray := prog_1_method_13_code
def y_P_lose : MethodName := ⟨"SecurePair", "lose", "(I)Z"⟩
abbrev w_P_lose : List Cond := .code y_P_lose b_P_lose 3 (some .boolean) :: xa
theorem d_P_lose_0 : decode b_P_lose 0 = .ok (.aload_n 0, 1) := by decide +kernel
theorem d_P_lose_1 : decode b_P_lose 1 = .ok (.iload_n 1, 1) := by decide +kernel
theorem d_P_lose_2 : decode b_P_lose 2 = .ok (.invokevirtual 151, 3) := by decide +kernel
theorem d_P_lose_5 : decode b_P_lose 5 = .ok (.astore_n 2, 1) := by decide +kernel
theorem d_P_lose_6 : decode b_P_lose 6 = .ok (.aload_n 2, 1) := by decide +kernel
theorem d_P_lose_7 : decode b_P_lose 7 = .ok (.ifnull 10, 3) := by decide +kernel
theorem d_P_lose_10 : decode b_P_lose 10 = .ok (.aload_n 2, 1) := by decide +kernel
theorem d_P_lose_11 : decode b_P_lose 11 = .ok (.getfield 88, 3) := by decide +kernel
theorem d_P_lose_14 : decode b_P_lose 14 = .ok (.ifCond .ne 5, 3) := by decide +kernel
theorem d_P_lose_17 : decode b_P_lose 17 = .ok (.iconst 0, 1) := by decide +kernel
theorem d_P_lose_18 : decode b_P_lose 18 = .ok (.ireturn, 1) := by decide +kernel
theorem d_P_lose_19 : decode b_P_lose 19 = .ok (.aload_n 2, 1) := by decide +kernel
theorem d_P_lose_20 : decode b_P_lose 20 = .ok (.invokevirtual 94, 3) := by decide +kernel
theorem d_P_lose_23 : decode b_P_lose 23 = .ok (.iconst 1, 1) := by decide +kernel
theorem d_P_lose_24 : decode b_P_lose 24 = .ok (.ireturn, 1) := by decide +kernel
theorem xw420 : (Cond.methodLink "SecurePair" (94 : Nat) ({ cls := "SecurePair$Line", name := "dropFirst", desc := "()V" } : MethodName)) ∈ xa := xa_t 420 (by decide +kernel) (by decide +kernel)
def p_lose (Z : Nat) (x1 : Int32) (σ : xb_St) : Int32 × xb_St := (xb_om (p_lineTo Z x1 σ) ((0 : Int32), σ) (fun K1 => (if (σ.1 K1 1) = 0 then ((0 : Int32), σ) else ((1 : Int32), (p_Line_drop K1 σ)))))
set_option maxHeartbeats 4000000 in
set_option maxRecDepth 100000 in
theorem c_P_lose (l : Launch) (D : va_G) (α : Nat → Nat) (κ : Nat → ClassId) (hα : xb_inj α 35) (σ : xb_St) (Z : Nat) (x1 : Int32) (iZ : sp_isP Z) (ok : sp_ok σ) : Met l y_P_lose w_P_lose ({ frames := 2, cells := 0, slots := 0, locals := 43 }) (va_Pc ([.ref (α Z), .int x1]) (sp_Pre D α κ σ)) (va_Qi (fun r (u : xb_St) => r = (p_lose Z x1 σ).1 ∧ u = (p_lose Z x1 σ).2) (sp_B D α κ) (xb_A α 35)) 0 0 (xb_A α 35) := by
  refine Met.ofW (cc := b_P_lose) (maxL := 3) (ret := (some .boolean)) (by decide) rfl ?_
  intro p e s m args below meth c s₁ B_ hml hv
  obtain ⟨rfl, hP, hK, hN⟩ := hv
  have hx := B_.exec
  have hb := B_.bytes
  have hr := B_.returns
  have hts := atoms_spec (ws := w_P_lose) B_.pre
  have ht : ∀ w ∈ xa, w.before _ s = true := fun w h => hts w (List.mem_cons_of_mem _ h)
  have hown : s.vm.findClass "SecurePair" = some m.cls := findClass_of_methodNamed B_.named
  have hlocks := B_.notSynchronized
  have hD := sp_D hα κ
  have hS : va_S (xb_A α 35) s.heap s.heap [] := va_S.rf
  have hl := lv_entry ([.ref (α Z), .int x1]) (n := 3) (Nat.le_of_ble_eq_true rfl)
  rw [lg_entry_eq]
  generalize (lg_sl ([.ref (α Z), .int x1]) ++ List.replicate (3 - (lg_sl ([.ref (α Z), .int x1])).length) Slot.unset).toArray = ls at hl ⊢
  have hl : lv_has ls 3 [(0, .ref (α Z)), (1, .int x1)] := hl
  refine lv_aload_n hx hb d_P_lose_0 rfl (lv_at hl 0 rfl) ?_
  refine lv_iload_n hx hb d_P_lose_1 rfl (lv_at hl 1 rfl) ?_
  refine sp_cq (va_runV (As := [.int x1]) (rest := []) ⟨hx, hb, hml, hown, hts⟩ (c_P_lineTo l D α κ hα σ Z x1 iZ) (cwV 1 hts (xa_V xw416 xw418 xs1 xw1 xw419) rfl rfl rfl (by decide +kernel) ⟨Nat.le_of_ble_eq_true rfl, Nat.le_of_ble_eq_true rfl⟩) ⟨sp_blind, va_recv hK hP rfl (sp_at_P iZ), sp_pre hP hK hN _⟩ rfl rfl hl.1 rfl (lv_room (Nat.le_of_ble_eq_true rfl)) d_P_lose_2 ⟨Nat.le_of_ble_eq_true rfl, Nat.le_of_ble_eq_true rfl⟩) hS (fun _ h_ => h_) (fun H locs hP hS => ?_)
  rcases c1 : (p_lineTo Z x1 σ) with _ | K1
  · skip
    refine lv_astore_nN (lv' := [(2, .null), (0, .ref (α Z)), (1, .int x1)]) hx hb d_P_lose_5 rfl hl (by decide) rfl (fun ls hl => ?_)
    refine lv_aload_nN hx hb d_P_lose_6 rfl (lv_at hl 0 rfl) ?_
    refine lv_ifnullN (tgt := 17) hx hb d_P_lose_7 (by decide) ?_
    refine lv_iconst (v := 0) hx hb d_P_lose_17 (by decide) ?_
    exact W.zret (v := (0 : Int32)) hx hb hr rfl (fun t ht_ hW => ⟨⟨(0 : Int32), σ, rfl, ⟨congrArg Prod.fst (((by unfold p_lose; rw [xb_om_none c1])) : ((0 : Int32), σ) = p_lose Z x1 σ), congrArg Prod.snd (((by unfold p_lose; rw [xb_om_none c1])) : ((0 : Int32), σ) = p_lose Z x1 σ)⟩, by rw [sp_B, ht_]; exact hP⟩, hS.F ht_⟩) hS.2.2 d_P_lose_18
  · skip
    have iK1 := p_lineTo_is iZ c1
    refine lv_astore_n (lv' := [(2, .ref (α K1)), (0, .ref (α Z)), (1, .int x1)]) hx hb d_P_lose_5 rfl hl (by decide) rfl (fun ls hl => ?_)
    refine lv_aload_n hx hb d_P_lose_6 rfl (lv_at hl 0 rfl) ?_
    refine lv_ifnull hx hb d_P_lose_7 ?_
    refine lv_aload_n hx hb d_P_lose_10 rfl (lv_at hl 0 rfl) ?_
    refine sp_g_Line (v := .int (σ.1 K1 1)) hx hb ht hown hK hP iK1 1 (by decide) (ht _ xw38) (fun _ h_ => h_) rfl d_P_lose_11 ?_
    refine lv_if_ne (tgt := 19) hx hb d_P_lose_14 (by decide) (fun c2 => ?_) (fun c2 => ?_)
    · skip
      refine lv_aload_n hx hb d_P_lose_19 rfl (lv_at hl 0 rfl) ?_
      refine sp_cv (va_runV (As := []) (rest := []) ⟨hx, hb, hml, hown, hts⟩ (c_Line_dropFirst l D α κ hα σ K1 iK1 ok) (cwV 0 hts (xa_V xw420 xw421 xw422 xw2 xw423) rfl rfl rfl (by decide +kernel) ⟨Nat.le_of_ble_eq_true rfl, Nat.le_of_ble_eq_true rfl⟩) ⟨sp_blind, va_recv hK hP rfl (sp_at_Line iK1), sp_pre hP hK hN _⟩ rfl rfl hl.1 rfl (lv_room (Nat.le_of_ble_eq_true rfl)) d_P_lose_20 ⟨Nat.le_of_ble_eq_true rfl, Nat.le_of_ble_eq_true rfl⟩) hS (fun _ h_ => h_) (fun H locs hP hS => ?_)
      obtain ⟨τ1, hτ1⟩ : ∃ t_, t_ = (p_Line_drop K1 σ) := ⟨_, rfl⟩
      rw [← hτ1] at hP
      have okτ1 : sp_ok τ1 := by rw [hτ1]; exact (ok_p_Line_drop K1 iK1 ok)
      refine lv_iconst (v := 1) hx hb d_P_lose_23 (by decide) ?_
      exact W.zret (v := (1 : Int32)) hx hb hr rfl (fun t ht_ hW => ⟨⟨(1 : Int32), τ1, rfl, ⟨congrArg Prod.fst (((by subst hτ1; exact (by unfold p_lose; rw [xb_om_some c1, if_neg c2]))) : ((1 : Int32), τ1) = p_lose Z x1 σ), congrArg Prod.snd (((by subst hτ1; exact (by unfold p_lose; rw [xb_om_some c1, if_neg c2]))) : ((1 : Int32), τ1) = p_lose Z x1 σ)⟩, by rw [sp_B, ht_]; exact hP⟩, hS.F ht_⟩) hS.2.2 d_P_lose_24
    · skip
      refine lv_iconst (v := 0) hx hb d_P_lose_17 (by decide) ?_
      exact W.zret (v := (0 : Int32)) hx hb hr rfl (fun t ht_ hW => ⟨⟨(0 : Int32), σ, rfl, ⟨congrArg Prod.fst (((by unfold p_lose; rw [xb_om_some c1, if_pos c2])) : ((0 : Int32), σ) = p_lose Z x1 σ), congrArg Prod.snd (((by unfold p_lose; rw [xb_om_some c1, if_pos c2])) : ((0 : Int32), σ) = p_lose Z x1 σ)⟩, by rw [sp_B, ht_]; exact hP⟩, hS.F ht_⟩) hS.2.2 d_P_lose_18
theorem ok_p_lose {σ : xb_St} (Z : Nat) (x1 : Int32) (iZ : sp_isP Z) (ok : sp_ok σ) : sp_ok (p_lose Z x1 σ).2 := by
  unfold p_lose
  rcases c1 : (p_lineTo Z x1 σ) with _ | K1
  · dsimp only [xb_om]
    exact ok
  · dsimp only [xb_om]
    have iK1 := p_lineTo_is iZ c1
    by_cases c2 : (σ.1 K1 1) = 0
    · rw [if_pos c2]
      exact ok
    · rw [if_neg c2]
      exact (ok_p_Line_drop K1 iK1 ok)
abbrev b_P_twice : ByteArray := prog_1_method_14_code
def y_P_twice : MethodName := ⟨"SecurePair", "twice", "(I)Z"⟩
abbrev w_P_twice : List Cond := .code y_P_twice b_P_twice 3 (some .boolean) :: xa
theorem d_P_twice_0 : decode b_P_twice 0 = .ok (.aload_n 0, 1) := by decide +kernel
theorem d_P_twice_1 : decode b_P_twice 1 = .ok (.iload_n 1, 1) := by decide +kernel
theorem d_P_twice_2 : decode b_P_twice 2 = .ok (.invokevirtual 151, 3) := by decide +kernel
theorem d_P_twice_5 : decode b_P_twice 5 = .ok (.astore_n 2, 1) := by decide +kernel
theorem d_P_twice_6 : decode b_P_twice 6 = .ok (.aload_n 2, 1) := by decide +kernel
theorem d_P_twice_7 : decode b_P_twice 7 = .ok (.ifnull 19, 3) := by decide +kernel
theorem d_P_twice_10 : decode b_P_twice 10 = .ok (.aload_n 2, 1) := by decide +kernel
theorem d_P_twice_11 : decode b_P_twice 11 = .ok (.getfield 88, 3) := by decide +kernel
theorem d_P_twice_14 : decode b_P_twice 14 = .ok (.ifCond .eq 12, 3) := by decide +kernel
theorem d_P_twice_17 : decode b_P_twice 17 = .ok (.aload_n 2, 1) := by decide +kernel
theorem d_P_twice_18 : decode b_P_twice 18 = .ok (.getfield 88, 3) := by decide +kernel
theorem d_P_twice_21 : decode b_P_twice 21 = .ok (.bipush 16, 2) := by decide +kernel
theorem d_P_twice_23 : decode b_P_twice 23 = .ok (.if_icmp .ne 5, 3) := by decide +kernel
theorem d_P_twice_26 : decode b_P_twice 26 = .ok (.iconst 0, 1) := by decide +kernel
theorem d_P_twice_27 : decode b_P_twice 27 = .ok (.ireturn, 1) := by decide +kernel
theorem d_P_twice_28 : decode b_P_twice 28 = .ok (.aload_n 2, 1) := by decide +kernel
theorem d_P_twice_29 : decode b_P_twice 29 = .ok (.invokevirtual 155, 3) := by decide +kernel
theorem d_P_twice_32 : decode b_P_twice 32 = .ok (.iconst 1, 1) := by decide +kernel
theorem d_P_twice_33 : decode b_P_twice 33 = .ok (.ireturn, 1) := by decide +kernel
theorem xw431 : (Cond.methodLink "SecurePair" (155 : Nat) ({ cls := "SecurePair$Line", name := "doubleFirst", desc := "()V" } : MethodName)) ∈ xa := xa_t 431 (by decide +kernel) (by decide +kernel)
def p_twice (Z : Nat) (x1 : Int32) (σ : xb_St) : Int32 × xb_St := (xb_om (p_lineTo Z x1 σ) ((0 : Int32), σ) (fun K1 => (if (σ.1 K1 1) = 0 then ((0 : Int32), σ) else (if (σ.1 K1 1) = (16 : Int32) then ((0 : Int32), σ) else ((1 : Int32), (p_Line_double K1 σ))))))
set_option maxHeartbeats 4000000 in
set_option maxRecDepth 100000 in
theorem c_P_twice (l : Launch) (D : va_G) (α : Nat → Nat) (κ : Nat → ClassId) (hα : xb_inj α 35) (σ : xb_St) (Z : Nat) (x1 : Int32) (iZ : sp_isP Z) (ok : sp_ok σ) : Met l y_P_twice w_P_twice ({ frames := 2, cells := 0, slots := 0, locals := 43 }) (va_Pc ([.ref (α Z), .int x1]) (sp_Pre D α κ σ)) (va_Qi (fun r (u : xb_St) => r = (p_twice Z x1 σ).1 ∧ u = (p_twice Z x1 σ).2) (sp_B D α κ) (xb_A α 35)) 0 0 (xb_A α 35) := by
  refine Met.ofW (cc := b_P_twice) (maxL := 3) (ret := (some .boolean)) (by decide) rfl ?_
  intro p e s m args below meth c s₁ B_ hml hv
  obtain ⟨rfl, hP, hK, hN⟩ := hv
  have hx := B_.exec
  have hb := B_.bytes
  have hr := B_.returns
  have hts := atoms_spec (ws := w_P_twice) B_.pre
  have ht : ∀ w ∈ xa, w.before _ s = true := fun w h => hts w (List.mem_cons_of_mem _ h)
  have hown : s.vm.findClass "SecurePair" = some m.cls := findClass_of_methodNamed B_.named
  have hlocks := B_.notSynchronized
  have hD := sp_D hα κ
  have hS : va_S (xb_A α 35) s.heap s.heap [] := va_S.rf
  have hl := lv_entry ([.ref (α Z), .int x1]) (n := 3) (Nat.le_of_ble_eq_true rfl)
  rw [lg_entry_eq]
  generalize (lg_sl ([.ref (α Z), .int x1]) ++ List.replicate (3 - (lg_sl ([.ref (α Z), .int x1])).length) Slot.unset).toArray = ls at hl ⊢
  have hl : lv_has ls 3 [(0, .ref (α Z)), (1, .int x1)] := hl
  refine lv_aload_n hx hb d_P_twice_0 rfl (lv_at hl 0 rfl) ?_
  refine lv_iload_n hx hb d_P_twice_1 rfl (lv_at hl 1 rfl) ?_
  refine sp_cq (va_runV (As := [.int x1]) (rest := []) ⟨hx, hb, hml, hown, hts⟩ (c_P_lineTo l D α κ hα σ Z x1 iZ) (cwV 1 hts (xa_V xw416 xw418 xs1 xw1 xw419) rfl rfl rfl (by decide +kernel) ⟨Nat.le_of_ble_eq_true rfl, Nat.le_of_ble_eq_true rfl⟩) ⟨sp_blind, va_recv hK hP rfl (sp_at_P iZ), sp_pre hP hK hN _⟩ rfl rfl hl.1 rfl (lv_room (Nat.le_of_ble_eq_true rfl)) d_P_twice_2 ⟨Nat.le_of_ble_eq_true rfl, Nat.le_of_ble_eq_true rfl⟩) hS (fun _ h_ => h_) (fun H locs hP hS => ?_)
  rcases c1 : (p_lineTo Z x1 σ) with _ | K1
  · skip
    refine lv_astore_nN (lv' := [(2, .null), (0, .ref (α Z)), (1, .int x1)]) hx hb d_P_twice_5 rfl hl (by decide) rfl (fun ls hl => ?_)
    refine lv_aload_nN hx hb d_P_twice_6 rfl (lv_at hl 0 rfl) ?_
    refine lv_ifnullN (tgt := 26) hx hb d_P_twice_7 (by decide) ?_
    refine lv_iconst (v := 0) hx hb d_P_twice_26 (by decide) ?_
    exact W.zret (v := (0 : Int32)) hx hb hr rfl (fun t ht_ hW => ⟨⟨(0 : Int32), σ, rfl, ⟨congrArg Prod.fst (((by unfold p_twice; rw [xb_om_none c1])) : ((0 : Int32), σ) = p_twice Z x1 σ), congrArg Prod.snd (((by unfold p_twice; rw [xb_om_none c1])) : ((0 : Int32), σ) = p_twice Z x1 σ)⟩, by rw [sp_B, ht_]; exact hP⟩, hS.F ht_⟩) hS.2.2 d_P_twice_27
  · skip
    have iK1 := p_lineTo_is iZ c1
    refine lv_astore_n (lv' := [(2, .ref (α K1)), (0, .ref (α Z)), (1, .int x1)]) hx hb d_P_twice_5 rfl hl (by decide) rfl (fun ls hl => ?_)
    refine lv_aload_n hx hb d_P_twice_6 rfl (lv_at hl 0 rfl) ?_
    refine lv_ifnull hx hb d_P_twice_7 ?_
    refine lv_aload_n hx hb d_P_twice_10 rfl (lv_at hl 0 rfl) ?_
    refine sp_g_Line (v := .int (σ.1 K1 1)) hx hb ht hown hK hP iK1 1 (by decide) (ht _ xw38) (fun _ h_ => h_) rfl d_P_twice_11 ?_
    refine lv_if_eq (tgt := 26) hx hb d_P_twice_14 (by decide) (fun c2 => ?_) (fun c2 => ?_)
    · skip
      refine lv_iconst (v := 0) hx hb d_P_twice_26 (by decide) ?_
      exact W.zret (v := (0 : Int32)) hx hb hr rfl (fun t ht_ hW => ⟨⟨(0 : Int32), σ, rfl, ⟨congrArg Prod.fst (((by unfold p_twice; rw [xb_om_some c1, if_pos c2])) : ((0 : Int32), σ) = p_twice Z x1 σ), congrArg Prod.snd (((by unfold p_twice; rw [xb_om_some c1, if_pos c2])) : ((0 : Int32), σ) = p_twice Z x1 σ)⟩, by rw [sp_B, ht_]; exact hP⟩, hS.F ht_⟩) hS.2.2 d_P_twice_27
    · skip
      refine lv_aload_n hx hb d_P_twice_17 rfl (lv_at hl 0 rfl) ?_
      refine sp_g_Line (v := .int (σ.1 K1 1)) hx hb ht hown hK hP iK1 1 (by decide) (ht _ xw38) (fun _ h_ => h_) rfl d_P_twice_18 ?_
      refine lv_bipush (v := 16) hx hb d_P_twice_21 (by decide) ?_
      refine lv_icmp_ne (tgt := 28) hx hb d_P_twice_23 (by decide) (fun c3 => ?_) (fun c3 => ?_)
      · skip
        refine lv_aload_n hx hb d_P_twice_28 rfl (lv_at hl 0 rfl) ?_
        refine sp_cv (va_runV (As := []) (rest := []) ⟨hx, hb, hml, hown, hts⟩ (c_Line_doubleFirst l D α κ hα σ K1 iK1 ok) (cwV 0 hts (xa_V xw431 xw432 xw433 xw2 xw434) rfl rfl rfl (by decide +kernel) ⟨Nat.le_of_ble_eq_true rfl, Nat.le_of_ble_eq_true rfl⟩) ⟨sp_blind, va_recv hK hP rfl (sp_at_Line iK1), sp_pre hP hK hN _⟩ rfl rfl hl.1 rfl (lv_room (Nat.le_of_ble_eq_true rfl)) d_P_twice_29 ⟨Nat.le_of_ble_eq_true rfl, Nat.le_of_ble_eq_true rfl⟩) hS (fun _ h_ => h_) (fun H locs hP hS => ?_)
        obtain ⟨τ1, hτ1⟩ : ∃ t_, t_ = (p_Line_double K1 σ) := ⟨_, rfl⟩
        rw [← hτ1] at hP
        have okτ1 : sp_ok τ1 := by rw [hτ1]; exact (ok_p_Line_double K1 iK1 ok)
        refine lv_iconst (v := 1) hx hb d_P_twice_32 (by decide) ?_
        exact W.zret (v := (1 : Int32)) hx hb hr rfl (fun t ht_ hW => ⟨⟨(1 : Int32), τ1, rfl, ⟨congrArg Prod.fst (((by subst hτ1; exact (by unfold p_twice; rw [xb_om_some c1, if_neg c2, if_neg c3]))) : ((1 : Int32), τ1) = p_twice Z x1 σ), congrArg Prod.snd (((by subst hτ1; exact (by unfold p_twice; rw [xb_om_some c1, if_neg c2, if_neg c3]))) : ((1 : Int32), τ1) = p_twice Z x1 σ)⟩, by rw [sp_B, ht_]; exact hP⟩, hS.F ht_⟩) hS.2.2 d_P_twice_33
      · skip
        refine lv_iconst (v := 0) hx hb d_P_twice_26 (by decide) ?_
        exact W.zret (v := (0 : Int32)) hx hb hr rfl (fun t ht_ hW => ⟨⟨(0 : Int32), σ, rfl, ⟨congrArg Prod.fst (((by unfold p_twice; rw [xb_om_some c1, if_neg c2, if_pos c3])) : ((0 : Int32), σ) = p_twice Z x1 σ), congrArg Prod.snd (((by unfold p_twice; rw [xb_om_some c1, if_neg c2, if_pos c3])) : ((0 : Int32), σ) = p_twice Z x1 σ)⟩, by rw [sp_B, ht_]; exact hP⟩, hS.F ht_⟩) hS.2.2 d_P_twice_27
theorem ok_p_twice {σ : xb_St} (Z : Nat) (x1 : Int32) (iZ : sp_isP Z) (ok : sp_ok σ) : sp_ok (p_twice Z x1 σ).2 := by
  unfold p_twice
  rcases c1 : (p_lineTo Z x1 σ) with _ | K1
  · dsimp only [xb_om]
    exact ok
  · dsimp only [xb_om]
    have iK1 := p_lineTo_is iZ c1
    by_cases c2 : (σ.1 K1 1) = 0
    · rw [if_pos c2]
      exact ok
    · rw [if_neg c2]
      by_cases c3 : (σ.1 K1 1) = (16 : Int32)
      · rw [if_pos c3]
        exact ok
      · rw [if_neg c3]
        exact (ok_p_Line_double K1 iK1 ok)
abbrev b_P_swap : ByteArray := prog_1_method_15_code
def y_P_swap : MethodName := ⟨"SecurePair", "swap", "(I)Z"⟩
abbrev w_P_swap : List Cond := .code y_P_swap b_P_swap 3 (some .boolean) :: xa
theorem d_P_swap_0 : decode b_P_swap 0 = .ok (.aload_n 0, 1) := by decide +kernel
theorem d_P_swap_1 : decode b_P_swap 1 = .ok (.iload_n 1, 1) := by decide +kernel
theorem d_P_swap_2 : decode b_P_swap 2 = .ok (.invokevirtual 151, 3) := by decide +kernel
theorem d_P_swap_5 : decode b_P_swap 5 = .ok (.astore_n 2, 1) := by decide +kernel
theorem d_P_swap_6 : decode b_P_swap 6 = .ok (.aload_n 2, 1) := by decide +kernel
theorem d_P_swap_7 : decode b_P_swap 7 = .ok (.ifnull 11, 3) := by decide +kernel
theorem d_P_swap_10 : decode b_P_swap 10 = .ok (.aload_n 2, 1) := by decide +kernel
theorem d_P_swap_11 : decode b_P_swap 11 = .ok (.getfield 88, 3) := by decide +kernel
theorem d_P_swap_14 : decode b_P_swap 14 = .ok (.iconst 2, 1) := by decide +kernel
theorem d_P_swap_15 : decode b_P_swap 15 = .ok (.if_icmp .ge 5, 3) := by decide +kernel
theorem d_P_swap_18 : decode b_P_swap 18 = .ok (.iconst 0, 1) := by decide +kernel
theorem d_P_swap_19 : decode b_P_swap 19 = .ok (.ireturn, 1) := by decide +kernel
theorem d_P_swap_20 : decode b_P_swap 20 = .ok (.aload_n 2, 1) := by decide +kernel
theorem d_P_swap_21 : decode b_P_swap 21 = .ok (.invokevirtual 158, 3) := by decide +kernel
theorem d_P_swap_24 : decode b_P_swap 24 = .ok (.iconst 1, 1) := by decide +kernel
theorem d_P_swap_25 : decode b_P_swap 25 = .ok (.ireturn, 1) := by decide +kernel
theorem xw439 : (Cond.methodLink "SecurePair" (158 : Nat) ({ cls := "SecurePair$Line", name := "exchangeFirstTwo", desc := "()V" } : MethodName)) ∈ xa := xa_t 439 (by decide +kernel) (by decide +kernel)
theorem xw440 : (Cond.instanceMethod ({ cls := "SecurePair$Line", name := "exchangeFirstTwo", desc := "()V" } : MethodName)) ∈ xa := xa_t 440 (by decide +kernel) (by decide +kernel)
theorem xw441 : (Cond.selects "SecurePair$Line" ({ cls := "SecurePair$Line", name := "exchangeFirstTwo", desc := "()V" } : MethodName) ({ cls := "SecurePair$Line", name := "exchangeFirstTwo", desc := "()V" } : MethodName)) ∈ xa := xa_t 441 (by decide +kernel) (by decide +kernel)
theorem xw442 : (Cond.code ({ cls := "SecurePair$Line", name := "exchangeFirstTwo", desc := "()V" } : MethodName) prog_8_method_7_code (4 : Nat) (Option.none : Option ClassFile.FieldType)) ∈ xa := xa_t 442 (by decide +kernel) (by decide +kernel)
def p_swap (Z : Nat) (x1 : Int32) (σ : xb_St) : Int32 × xb_St := (xb_om (p_lineTo Z x1 σ) ((0 : Int32), σ) (fun K1 => (if (2 : Int32) ≤ (σ.1 K1 1) then ((1 : Int32), (p_Line_swap K1 σ)) else ((0 : Int32), σ))))
set_option maxHeartbeats 4000000 in
set_option maxRecDepth 100000 in
theorem c_P_swap (l : Launch) (D : va_G) (α : Nat → Nat) (κ : Nat → ClassId) (hα : xb_inj α 35) (σ : xb_St) (Z : Nat) (x1 : Int32) (iZ : sp_isP Z) : Met l y_P_swap w_P_swap ({ frames := 2, cells := 0, slots := 0, locals := 43 }) (va_Pc ([.ref (α Z), .int x1]) (sp_Pre D α κ σ)) (va_Qi (fun r (u : xb_St) => r = (p_swap Z x1 σ).1 ∧ u = (p_swap Z x1 σ).2) (sp_B D α κ) (xb_A α 35)) 0 0 (xb_A α 35) := by
  refine Met.ofW (cc := b_P_swap) (maxL := 3) (ret := (some .boolean)) (by decide) rfl ?_
  intro p e s m args below meth c s₁ B_ hml hv
  obtain ⟨rfl, hP, hK, hN⟩ := hv
  have hx := B_.exec
  have hb := B_.bytes
  have hr := B_.returns
  have hts := atoms_spec (ws := w_P_swap) B_.pre
  have ht : ∀ w ∈ xa, w.before _ s = true := fun w h => hts w (List.mem_cons_of_mem _ h)
  have hown : s.vm.findClass "SecurePair" = some m.cls := findClass_of_methodNamed B_.named
  have hlocks := B_.notSynchronized
  have hD := sp_D hα κ
  have hS : va_S (xb_A α 35) s.heap s.heap [] := va_S.rf
  have hl := lv_entry ([.ref (α Z), .int x1]) (n := 3) (Nat.le_of_ble_eq_true rfl)
  rw [lg_entry_eq]
  generalize (lg_sl ([.ref (α Z), .int x1]) ++ List.replicate (3 - (lg_sl ([.ref (α Z), .int x1])).length) Slot.unset).toArray = ls at hl ⊢
  have hl : lv_has ls 3 [(0, .ref (α Z)), (1, .int x1)] := hl
  refine lv_aload_n hx hb d_P_swap_0 rfl (lv_at hl 0 rfl) ?_
  refine lv_iload_n hx hb d_P_swap_1 rfl (lv_at hl 1 rfl) ?_
  refine sp_cq (va_runV (As := [.int x1]) (rest := []) ⟨hx, hb, hml, hown, hts⟩ (c_P_lineTo l D α κ hα σ Z x1 iZ) (cwV 1 hts (xa_V xw416 xw418 xs1 xw1 xw419) rfl rfl rfl (by decide +kernel) ⟨Nat.le_of_ble_eq_true rfl, Nat.le_of_ble_eq_true rfl⟩) ⟨sp_blind, va_recv hK hP rfl (sp_at_P iZ), sp_pre hP hK hN _⟩ rfl rfl hl.1 rfl (lv_room (Nat.le_of_ble_eq_true rfl)) d_P_swap_2 ⟨Nat.le_of_ble_eq_true rfl, Nat.le_of_ble_eq_true rfl⟩) hS (fun _ h_ => h_) (fun H locs hP hS => ?_)
  rcases c1 : (p_lineTo Z x1 σ) with _ | K1
  · skip
    refine lv_astore_nN (lv' := [(2, .null), (0, .ref (α Z)), (1, .int x1)]) hx hb d_P_swap_5 rfl hl (by decide) rfl (fun ls hl => ?_)
    refine lv_aload_nN hx hb d_P_swap_6 rfl (lv_at hl 0 rfl) ?_
    refine lv_ifnullN (tgt := 18) hx hb d_P_swap_7 (by decide) ?_
    refine lv_iconst (v := 0) hx hb d_P_swap_18 (by decide) ?_
    exact W.zret (v := (0 : Int32)) hx hb hr rfl (fun t ht_ hW => ⟨⟨(0 : Int32), σ, rfl, ⟨congrArg Prod.fst (((by unfold p_swap; rw [xb_om_none c1])) : ((0 : Int32), σ) = p_swap Z x1 σ), congrArg Prod.snd (((by unfold p_swap; rw [xb_om_none c1])) : ((0 : Int32), σ) = p_swap Z x1 σ)⟩, by rw [sp_B, ht_]; exact hP⟩, hS.F ht_⟩) hS.2.2 d_P_swap_19
  · skip
    have iK1 := p_lineTo_is iZ c1
    refine lv_astore_n (lv' := [(2, .ref (α K1)), (0, .ref (α Z)), (1, .int x1)]) hx hb d_P_swap_5 rfl hl (by decide) rfl (fun ls hl => ?_)
    refine lv_aload_n hx hb d_P_swap_6 rfl (lv_at hl 0 rfl) ?_
    refine lv_ifnull hx hb d_P_swap_7 ?_
    refine lv_aload_n hx hb d_P_swap_10 rfl (lv_at hl 0 rfl) ?_
    refine sp_g_Line (v := .int (σ.1 K1 1)) hx hb ht hown hK hP iK1 1 (by decide) (ht _ xw38) (fun _ h_ => h_) rfl d_P_swap_11 ?_
    refine lv_iconst (v := 2) hx hb d_P_swap_14 (by decide) ?_
    refine lv_icmp_ge (tgt := 20) hx hb d_P_swap_15 (by decide) (fun c2 => ?_) (fun c2 => ?_)
    · skip
      refine lv_aload_n hx hb d_P_swap_20 rfl (lv_at hl 0 rfl) ?_
      refine sp_cv (va_runV (As := []) (rest := []) ⟨hx, hb, hml, hown, hts⟩ (c_Line_exchangeFirstTwo l D α κ hα σ K1 iK1) (cwV 0 hts (xa_V xw439 xw440 xw441 xw2 xw442) rfl rfl rfl (by decide +kernel) ⟨Nat.le_of_ble_eq_true rfl, Nat.le_of_ble_eq_true rfl⟩) ⟨sp_blind, va_recv hK hP rfl (sp_at_Line iK1), sp_pre hP hK hN _⟩ rfl rfl hl.1 rfl (lv_room (Nat.le_of_ble_eq_true rfl)) d_P_swap_21 ⟨Nat.le_of_ble_eq_true rfl, Nat.le_of_ble_eq_true rfl⟩) hS (fun _ h_ => h_) (fun H locs hP hS => ?_)
      obtain ⟨τ1, hτ1⟩ : ∃ t_, t_ = (p_Line_swap K1 σ) := ⟨_, rfl⟩
      rw [← hτ1] at hP
      refine lv_iconst (v := 1) hx hb d_P_swap_24 (by decide) ?_
      exact W.zret (v := (1 : Int32)) hx hb hr rfl (fun t ht_ hW => ⟨⟨(1 : Int32), τ1, rfl, ⟨congrArg Prod.fst (((by subst hτ1; exact (by unfold p_swap; rw [xb_om_some c1, if_pos c2]))) : ((1 : Int32), τ1) = p_swap Z x1 σ), congrArg Prod.snd (((by subst hτ1; exact (by unfold p_swap; rw [xb_om_some c1, if_pos c2]))) : ((1 : Int32), τ1) = p_swap Z x1 σ)⟩, by rw [sp_B, ht_]; exact hP⟩, hS.F ht_⟩) hS.2.2 d_P_swap_25
    · skip
      refine lv_iconst (v := 0) hx hb d_P_swap_18 (by decide) ?_
      exact W.zret (v := (0 : Int32)) hx hb hr rfl (fun t ht_ hW => ⟨⟨(0 : Int32), σ, rfl, ⟨congrArg Prod.fst (((by unfold p_swap; rw [xb_om_some c1, if_neg c2])) : ((0 : Int32), σ) = p_swap Z x1 σ), congrArg Prod.snd (((by unfold p_swap; rw [xb_om_some c1, if_neg c2])) : ((0 : Int32), σ) = p_swap Z x1 σ)⟩, by rw [sp_B, ht_]; exact hP⟩, hS.F ht_⟩) hS.2.2 d_P_swap_19
theorem ok_p_swap {σ : xb_St} (Z : Nat) (x1 : Int32) (iZ : sp_isP Z) (ok : sp_ok σ) : sp_ok (p_swap Z x1 σ).2 := by
  unfold p_swap
  rcases c1 : (p_lineTo Z x1 σ) with _ | K1
  · dsimp only [xb_om]
    exact ok
  · dsimp only [xb_om]
    have iK1 := p_lineTo_is iZ c1
    by_cases c2 : (2 : Int32) ≤ (σ.1 K1 1)
    · rw [if_pos c2]
      exact (ok_p_Line_swap K1 iK1 ok)
    · rw [if_neg c2]
      exact ok
abbrev b_P_insert : ByteArray := prog_1_method_16_code
def y_P_insert : MethodName := ⟨"SecurePair", "insert", "(IIJJ)Z"⟩
abbrev w_P_insert : List Cond := .code y_P_insert b_P_insert 8 (some .boolean) :: xa
theorem d_P_insert_0 : decode b_P_insert 0 = .ok (.aload_n 0, 1) := by decide +kernel
theorem d_P_insert_1 : decode b_P_insert 1 = .ok (.iload_n 1, 1) := by decide +kernel
theorem d_P_insert_2 : decode b_P_insert 2 = .ok (.invokevirtual 151, 3) := by decide +kernel
theorem d_P_insert_5 : decode b_P_insert 5 = .ok (.astore 7, 2) := by decide +kernel
theorem d_P_insert_7 : decode b_P_insert 7 = .ok (.aload 7, 2) := by decide +kernel
theorem d_P_insert_9 : decode b_P_insert 9 = .ok (.ifnull 13, 3) := by decide +kernel
theorem d_P_insert_12 : decode b_P_insert 12 = .ok (.aload 7, 2) := by decide +kernel
theorem d_P_insert_14 : decode b_P_insert 14 = .ok (.getfield 88, 3) := by decide +kernel
theorem d_P_insert_17 : decode b_P_insert 17 = .ok (.bipush 16, 2) := by decide +kernel
theorem d_P_insert_19 : decode b_P_insert 19 = .ok (.if_icmp .ne 5, 3) := by decide +kernel
theorem d_P_insert_22 : decode b_P_insert 22 = .ok (.iconst 0, 1) := by decide +kernel
theorem d_P_insert_23 : decode b_P_insert 23 = .ok (.ireturn, 1) := by decide +kernel
theorem d_P_insert_24 : decode b_P_insert 24 = .ok (.aload 7, 2) := by decide +kernel
theorem d_P_insert_26 : decode b_P_insert 26 = .ok (.iload_n 2, 1) := by decide +kernel
theorem d_P_insert_27 : decode b_P_insert 27 = .ok (.lload_n 3, 1) := by decide +kernel
theorem d_P_insert_28 : decode b_P_insert 28 = .ok (.lload 5, 2) := by decide +kernel
theorem d_P_insert_30 : decode b_P_insert 30 = .ok (.invokevirtual 161, 3) := by decide +kernel
theorem d_P_insert_33 : decode b_P_insert 33 = .ok (.iconst 1, 1) := by decide +kernel
theorem d_P_insert_34 : decode b_P_insert 34 = .ok (.ireturn, 1) := by decide +kernel
theorem xw447 : (Cond.methodLink "SecurePair" (161 : Nat) ({ cls := "SecurePair$Line", name := "putInFront", desc := "(IJJ)V" } : MethodName)) ∈ xa := xa_t 447 (by decide +kernel) (by decide +kernel)
theorem xw448 : (Cond.instanceMethod ({ cls := "SecurePair$Line", name := "putInFront", desc := "(IJJ)V" } : MethodName)) ∈ xa := xa_t 448 (by decide +kernel) (by decide +kernel)
theorem xw449 : (Cond.selects "SecurePair$Line" ({ cls := "SecurePair$Line", name := "putInFront", desc := "(IJJ)V" } : MethodName) ({ cls := "SecurePair$Line", name := "putInFront", desc := "(IJJ)V" } : MethodName)) ∈ xa := xa_t 449 (by decide +kernel) (by decide +kernel)
theorem xw450 : (Cond.code ({ cls := "SecurePair$Line", name := "putInFront", desc := "(IJJ)V" } : MethodName) prog_8_method_6_code (6 : Nat) (Option.none : Option ClassFile.FieldType)) ∈ xa := xa_t 450 (by decide +kernel) (by decide +kernel)
def p_insert (Z : Nat) (x1 : Int32) (x2 : Int32) (x3 : Int64) (x4 : Int64) (σ : xb_St) : Int32 × xb_St := (xb_om (p_lineTo Z x1 σ) ((0 : Int32), σ) (fun K1 => (if (σ.1 K1 1) = (16 : Int32) then ((0 : Int32), σ) else ((1 : Int32), (p_Line_front K1 x2 x3 x4 σ)))))
set_option maxHeartbeats 4000000 in
set_option maxRecDepth 100000 in
theorem c_P_insert (l : Launch) (D : va_G) (α : Nat → Nat) (κ : Nat → ClassId) (hα : xb_inj α 35) (σ : xb_St) (Z : Nat) (x1 : Int32) (x2 : Int32) (x3 : Int64) (x4 : Int64) (iZ : sp_isP Z) (ok : sp_ok σ) : Met l y_P_insert w_P_insert ({ frames := 3, cells := 0, slots := 0, locals := 63 }) (va_Pc ([.ref (α Z), .int x1, .int x2, .long x3, .long x4]) (sp_Pre D α κ σ)) (va_Qi (fun r (u : xb_St) => r = (p_insert Z x1 x2 x3 x4 σ).1 ∧ u = (p_insert Z x1 x2 x3 x4 σ).2) (sp_B D α κ) (xb_A α 35)) 0 0 (xb_A α 35) := by
  refine Met.ofW (cc := b_P_insert) (maxL := 8) (ret := (some .boolean)) (by decide) rfl ?_
  intro p e s m args below meth c s₁ B_ hml hv
  obtain ⟨rfl, hP, hK, hN⟩ := hv
  have hx := B_.exec
  have hb := B_.bytes
  have hr := B_.returns
  have hts := atoms_spec (ws := w_P_insert) B_.pre
  have ht : ∀ w ∈ xa, w.before _ s = true := fun w h => hts w (List.mem_cons_of_mem _ h)
  have hown : s.vm.findClass "SecurePair" = some m.cls := findClass_of_methodNamed B_.named
  have hlocks := B_.notSynchronized
  have hD := sp_D hα κ
  have hS : va_S (xb_A α 35) s.heap s.heap [] := va_S.rf
  have hl := lv_entry ([.ref (α Z), .int x1, .int x2, .long x3, .long x4]) (n := 8) (Nat.le_of_ble_eq_true rfl)
  rw [lg_entry_eq]
  generalize (lg_sl ([.ref (α Z), .int x1, .int x2, .long x3, .long x4]) ++ List.replicate (8 - (lg_sl ([.ref (α Z), .int x1, .int x2, .long x3, .long x4])).length) Slot.unset).toArray = ls at hl ⊢
  have hl : lv_has ls 8 [(0, .ref (α Z)), (1, .int x1), (2, .int x2), (3, .long x3), (5, .long x4)] := hl
  refine lv_aload_n hx hb d_P_insert_0 rfl (lv_at hl 0 rfl) ?_
  refine lv_iload_n hx hb d_P_insert_1 rfl (lv_at hl 1 rfl) ?_
  refine sp_cq (va_runV (As := [.int x1]) (rest := []) ⟨hx, hb, hml, hown, hts⟩ (c_P_lineTo l D α κ hα σ Z x1 iZ) (cwV 1 hts (xa_V xw416 xw418 xs1 xw1 xw419) rfl rfl rfl (by decide +kernel) ⟨Nat.le_of_ble_eq_true rfl, Nat.le_of_ble_eq_true rfl⟩) ⟨sp_blind, va_recv hK hP rfl (sp_at_P iZ), sp_pre hP hK hN _⟩ rfl rfl hl.1 rfl (lv_room (Nat.le_of_ble_eq_true rfl)) d_P_insert_2 ⟨Nat.le_of_ble_eq_true rfl, Nat.le_of_ble_eq_true rfl⟩) hS (fun _ h_ => h_) (fun H locs hP hS => ?_)
  rcases c1 : (p_lineTo Z x1 σ) with _ | K1
  · skip
    refine lv_astoreN (lv' := [(7, .null), (0, .ref (α Z)), (1, .int x1), (2, .int x2), (3, .long x3), (5, .long x4)]) hx hb d_P_insert_5 hl (by decide) rfl (fun ls hl => ?_)
    refine lv_aloadN hx hb d_P_insert_7 (lv_at hl 0 rfl) ?_
    refine lv_ifnullN (tgt := 22) hx hb d_P_insert_9 (by decide) ?_
    refine lv_iconst (v := 0) hx hb d_P_insert_22 (by decide) ?_
    exact W.zret (v := (0 : Int32)) hx hb hr rfl (fun t ht_ hW => ⟨⟨(0 : Int32), σ, rfl, ⟨congrArg Prod.fst (((by unfold p_insert; rw [xb_om_none c1])) : ((0 : Int32), σ) = p_insert Z x1 x2 x3 x4 σ), congrArg Prod.snd (((by unfold p_insert; rw [xb_om_none c1])) : ((0 : Int32), σ) = p_insert Z x1 x2 x3 x4 σ)⟩, by rw [sp_B, ht_]; exact hP⟩, hS.F ht_⟩) hS.2.2 d_P_insert_23
  · skip
    have iK1 := p_lineTo_is iZ c1
    refine lv_astore (lv' := [(7, .ref (α K1)), (0, .ref (α Z)), (1, .int x1), (2, .int x2), (3, .long x3), (5, .long x4)]) hx hb d_P_insert_5 hl (by decide) rfl (fun ls hl => ?_)
    refine lv_aload hx hb d_P_insert_7 (lv_at hl 0 rfl) ?_
    refine lv_ifnull hx hb d_P_insert_9 ?_
    refine lv_aload hx hb d_P_insert_12 (lv_at hl 0 rfl) ?_
    refine sp_g_Line (v := .int (σ.1 K1 1)) hx hb ht hown hK hP iK1 1 (by decide) (ht _ xw38) (fun _ h_ => h_) rfl d_P_insert_14 ?_
    refine lv_bipush (v := 16) hx hb d_P_insert_17 (by decide) ?_
    refine lv_icmp_ne (tgt := 24) hx hb d_P_insert_19 (by decide) (fun c2 => ?_) (fun c2 => ?_)
    · skip
      refine lv_aload hx hb d_P_insert_24 (lv_at hl 0 rfl) ?_
      refine lv_iload_n hx hb d_P_insert_26 rfl (lv_at hl 3 rfl) ?_
      refine lv_lload_n hx hb d_P_insert_27 rfl (lv_at hl 4 rfl) ?_
      refine lv_lload hx hb d_P_insert_28 (lv_at hl 5 rfl) ?_
      refine sp_cv (va_runV (As := [.int x2, .long x3, .long x4]) (rest := []) ⟨hx, hb, hml, hown, hts⟩ (c_Line_putInFront l D α κ hα σ K1 x2 x3 x4 iK1 ok) (cwV 3 hts (xa_V xw447 xw448 xw449 xw2 xw450) rfl rfl rfl (by decide +kernel) ⟨Nat.le_of_ble_eq_true rfl, Nat.le_of_ble_eq_true rfl⟩) ⟨sp_blind, va_recv hK hP rfl (sp_at_Line iK1), sp_pre hP hK hN _⟩ rfl rfl hl.1 rfl (lv_room (Nat.le_of_ble_eq_true rfl)) d_P_insert_30 ⟨Nat.le_of_ble_eq_true rfl, Nat.le_of_ble_eq_true rfl⟩) hS (fun _ h_ => h_) (fun H locs hP hS => ?_)
      obtain ⟨τ1, hτ1⟩ : ∃ t_, t_ = (p_Line_front K1 x2 x3 x4 σ) := ⟨_, rfl⟩
      rw [← hτ1] at hP
      have okτ1 : sp_ok τ1 := by rw [hτ1]; exact (ok_p_Line_front K1 x2 x3 x4 iK1 ok)
      refine lv_iconst (v := 1) hx hb d_P_insert_33 (by decide) ?_
      exact W.zret (v := (1 : Int32)) hx hb hr rfl (fun t ht_ hW => ⟨⟨(1 : Int32), τ1, rfl, ⟨congrArg Prod.fst (((by subst hτ1; exact (by unfold p_insert; rw [xb_om_some c1, if_neg c2]))) : ((1 : Int32), τ1) = p_insert Z x1 x2 x3 x4 σ), congrArg Prod.snd (((by subst hτ1; exact (by unfold p_insert; rw [xb_om_some c1, if_neg c2]))) : ((1 : Int32), τ1) = p_insert Z x1 x2 x3 x4 σ)⟩, by rw [sp_B, ht_]; exact hP⟩, hS.F ht_⟩) hS.2.2 d_P_insert_34
    · skip
      refine lv_iconst (v := 0) hx hb d_P_insert_22 (by decide) ?_
      exact W.zret (v := (0 : Int32)) hx hb hr rfl (fun t ht_ hW => ⟨⟨(0 : Int32), σ, rfl, ⟨congrArg Prod.fst (((by unfold p_insert; rw [xb_om_some c1, if_pos c2])) : ((0 : Int32), σ) = p_insert Z x1 x2 x3 x4 σ), congrArg Prod.snd (((by unfold p_insert; rw [xb_om_some c1, if_pos c2])) : ((0 : Int32), σ) = p_insert Z x1 x2 x3 x4 σ)⟩, by rw [sp_B, ht_]; exact hP⟩, hS.F ht_⟩) hS.2.2 d_P_insert_23
theorem ok_p_insert {σ : xb_St} (Z : Nat) (x1 : Int32) (x2 : Int32) (x3 : Int64) (x4 : Int64) (iZ : sp_isP Z) (ok : sp_ok σ) : sp_ok (p_insert Z x1 x2 x3 x4 σ).2 := by
  unfold p_insert
  rcases c1 : (p_lineTo Z x1 σ) with _ | K1
  · dsimp only [xb_om]
    exact ok
  · dsimp only [xb_om]
    have iK1 := p_lineTo_is iZ c1
    by_cases c2 : (σ.1 K1 1) = (16 : Int32)
    · rw [if_pos c2]
      exact ok
    · rw [if_neg c2]
      exact (ok_p_Line_front K1 x2 x3 x4 iK1 ok)
