abbrev b_Endpoint_takeInit : ByteArray := prog_4_method_14_code
def y_Endpoint_takeInit : MethodName := ⟨"SecurePair$Endpoint", "takeInit", "(LSecurePair$Packet;)I"⟩
abbrev w_Endpoint_takeInit : List Cond := .code y_Endpoint_takeInit b_Endpoint_takeInit 2 (some .int) :: xa
theorem d_Endpoint_takeInit_0 : decode b_Endpoint_takeInit 0 = .ok (.aload_n 0, 1) := by decide +kernel
theorem d_Endpoint_takeInit_1 : decode b_Endpoint_takeInit 1 = .ok (.invokevirtual 176, 3) := by decide +kernel
theorem d_Endpoint_takeInit_4 : decode b_Endpoint_takeInit 4 = .ok (.ifCond .eq 7, 3) := by decide +kernel
theorem d_Endpoint_takeInit_7 : decode b_Endpoint_takeInit 7 = .ok (.aload_n 0, 1) := by decide +kernel
theorem d_Endpoint_takeInit_8 : decode b_Endpoint_takeInit 8 = .ok (.invokevirtual 180, 3) := by decide +kernel
theorem d_Endpoint_takeInit_11 : decode b_Endpoint_takeInit 11 = .ok (.aload_n 0, 1) := by decide +kernel
theorem d_Endpoint_takeInit_12 : decode b_Endpoint_takeInit 12 = .ok (.getfield 44, 3) := by decide +kernel
theorem d_Endpoint_takeInit_15 : decode b_Endpoint_takeInit 15 = .ok (.iconst 1, 1) := by decide +kernel
theorem d_Endpoint_takeInit_16 : decode b_Endpoint_takeInit 16 = .ok (.if_icmp .eq 5, 3) := by decide +kernel
theorem d_Endpoint_takeInit_19 : decode b_Endpoint_takeInit 19 = .ok (.iconst 2, 1) := by decide +kernel
theorem d_Endpoint_takeInit_20 : decode b_Endpoint_takeInit 20 = .ok (.ireturn, 1) := by decide +kernel
theorem d_Endpoint_takeInit_21 : decode b_Endpoint_takeInit 21 = .ok (.aload_n 0, 1) := by decide +kernel
theorem d_Endpoint_takeInit_22 : decode b_Endpoint_takeInit 22 = .ok (.invokevirtual 183, 3) := by decide +kernel
theorem d_Endpoint_takeInit_25 : decode b_Endpoint_takeInit 25 = .ok (.aload_n 1, 1) := by decide +kernel
theorem d_Endpoint_takeInit_26 : decode b_Endpoint_takeInit 26 = .ok (.getfield 104, 3) := by decide +kernel
theorem d_Endpoint_takeInit_29 : decode b_Endpoint_takeInit 29 = .ok (.aload_n 1, 1) := by decide +kernel
theorem d_Endpoint_takeInit_30 : decode b_Endpoint_takeInit 30 = .ok (.getfield 107, 3) := by decide +kernel
theorem d_Endpoint_takeInit_33 : decode b_Endpoint_takeInit 33 = .ok (.aload_n 1, 1) := by decide +kernel
theorem d_Endpoint_takeInit_34 : decode b_Endpoint_takeInit 34 = .ok (.getfield 110, 3) := by decide +kernel
theorem d_Endpoint_takeInit_37 : decode b_Endpoint_takeInit 37 = .ok (.invokevirtual 81, 3) := by decide +kernel
theorem d_Endpoint_takeInit_40 : decode b_Endpoint_takeInit 40 = .ok (.aload_n 0, 1) := by decide +kernel
theorem d_Endpoint_takeInit_41 : decode b_Endpoint_takeInit 41 = .ok (.getfield 34, 3) := by decide +kernel
theorem d_Endpoint_takeInit_44 : decode b_Endpoint_takeInit 44 = .ok (.invokevirtual 186, 3) := by decide +kernel
theorem d_Endpoint_takeInit_47 : decode b_Endpoint_takeInit 47 = .ok (.ifCond .ne 5, 3) := by decide +kernel
theorem d_Endpoint_takeInit_50 : decode b_Endpoint_takeInit 50 = .ok (.iconst 3, 1) := by decide +kernel
theorem d_Endpoint_takeInit_51 : decode b_Endpoint_takeInit 51 = .ok (.ireturn, 1) := by decide +kernel
theorem d_Endpoint_takeInit_52 : decode b_Endpoint_takeInit 52 = .ok (.aload_n 0, 1) := by decide +kernel
theorem d_Endpoint_takeInit_53 : decode b_Endpoint_takeInit 53 = .ok (.iconst 2, 1) := by decide +kernel
theorem d_Endpoint_takeInit_54 : decode b_Endpoint_takeInit 54 = .ok (.putfield 44, 3) := by decide +kernel
theorem d_Endpoint_takeInit_57 : decode b_Endpoint_takeInit 57 = .ok (.aload_n 0, 1) := by decide +kernel
theorem d_Endpoint_takeInit_58 : decode b_Endpoint_takeInit 58 = .ok (.invokevirtual 189, 3) := by decide +kernel
theorem d_Endpoint_takeInit_61 : decode b_Endpoint_takeInit 61 = .ok (.iconst 0, 1) := by decide +kernel
theorem d_Endpoint_takeInit_62 : decode b_Endpoint_takeInit 62 = .ok (.ireturn, 1) := by decide +kernel
theorem xw4 : (Cond.initialized "SecurePair$Client") ∈ xa := xa_t 4 (by decide +kernel) (by decide +kernel)
theorem xw10 : (Cond.initialized "SecurePair$Server") ∈ xa := xa_t 10 (by decide +kernel) (by decide +kernel)
theorem xw583 : (Cond.instanceMethod ({ cls := "SecurePair$Endpoint", name := "mayStart", desc := "()Z" } : MethodName)) ∈ xa := xa_t 583 (by decide +kernel) (by decide +kernel)
theorem xw584 : (Cond.sameMethod "SecurePair$Endpoint" "SecurePair$Endpoint" "mayStart" "()Z") ∈ xa := xa_t 584 (by decide +kernel) (by decide +kernel)
theorem xw585 : (Cond.selects "SecurePair$Client" ({ cls := "SecurePair$Endpoint", name := "mayStart", desc := "()Z" } : MethodName) ({ cls := "SecurePair$Endpoint", name := "mayStart", desc := "()Z" } : MethodName)) ∈ xa := xa_t 585 (by decide +kernel) (by decide +kernel)
theorem xw586 : (Cond.selects "SecurePair$Server" ({ cls := "SecurePair$Endpoint", name := "mayStart", desc := "()Z" } : MethodName) ({ cls := "SecurePair$Endpoint", name := "mayStart", desc := "()Z" } : MethodName)) ∈ xa := xa_t 586 (by decide +kernel) (by decide +kernel)
theorem xw587 : (Cond.code ({ cls := "SecurePair$Endpoint", name := "mayStart", desc := "()Z" } : MethodName) prog_4_method_5_code (1 : Nat) (Option.some ClassFile.FieldType.boolean)) ∈ xa := xa_t 587 (by decide +kernel) (by decide +kernel)
theorem xw605 : (Cond.instanceMethod ({ cls := "SecurePair$Endpoint", name := "start", desc := "()V" } : MethodName)) ∈ xa := xa_t 605 (by decide +kernel) (by decide +kernel)
theorem xw606 : (Cond.sameMethod "SecurePair$Endpoint" "SecurePair$Endpoint" "start" "()V") ∈ xa := xa_t 606 (by decide +kernel) (by decide +kernel)
theorem xw607 : (Cond.selects "SecurePair$Client" ({ cls := "SecurePair$Endpoint", name := "start", desc := "()V" } : MethodName) ({ cls := "SecurePair$Endpoint", name := "start", desc := "()V" } : MethodName)) ∈ xa := xa_t 607 (by decide +kernel) (by decide +kernel)
theorem xw608 : (Cond.selects "SecurePair$Server" ({ cls := "SecurePair$Endpoint", name := "start", desc := "()V" } : MethodName) ({ cls := "SecurePair$Endpoint", name := "start", desc := "()V" } : MethodName)) ∈ xa := xa_t 608 (by decide +kernel) (by decide +kernel)
theorem xw609 : (Cond.code ({ cls := "SecurePair$Endpoint", name := "start", desc := "()V" } : MethodName) prog_4_method_6_code (1 : Nat) (Option.none : Option ClassFile.FieldType)) ∈ xa := xa_t 609 (by decide +kernel) (by decide +kernel)
theorem xw655 : (Cond.methodLink "SecurePair$Endpoint" (176 : Nat) ({ cls := "SecurePair$Endpoint", name := "mayStart", desc := "()Z" } : MethodName)) ∈ xa := xa_t 655 (by decide +kernel) (by decide +kernel)
theorem xw656 : (Cond.methodLink "SecurePair$Endpoint" (180 : Nat) ({ cls := "SecurePair$Endpoint", name := "start", desc := "()V" } : MethodName)) ∈ xa := xa_t 656 (by decide +kernel) (by decide +kernel)
theorem xw657 : (Cond.methodLink "SecurePair$Endpoint" (183 : Nat) ({ cls := "SecurePair$Endpoint", name := "peerInit", desc := "()LSecurePair$Init;" } : MethodName)) ∈ xa := xa_t 657 (by decide +kernel) (by decide +kernel)
theorem xw658 : (Cond.instanceMethod ({ cls := "SecurePair$Endpoint", name := "peerInit", desc := "()LSecurePair$Init;" } : MethodName)) ∈ xa := xa_t 658 (by decide +kernel) (by decide +kernel)
theorem xw659 : (Cond.sameMethod "SecurePair$Endpoint" "SecurePair$Endpoint" "peerInit" "()LSecurePair$Init;") ∈ xa := xa_t 659 (by decide +kernel) (by decide +kernel)
theorem xw660 : (Cond.selects "SecurePair$Client" ({ cls := "SecurePair$Endpoint", name := "peerInit", desc := "()LSecurePair$Init;" } : MethodName) ({ cls := "SecurePair$Endpoint", name := "peerInit", desc := "()LSecurePair$Init;" } : MethodName)) ∈ xa := xa_t 660 (by decide +kernel) (by decide +kernel)
theorem xw661 : (Cond.selects "SecurePair$Server" ({ cls := "SecurePair$Endpoint", name := "peerInit", desc := "()LSecurePair$Init;" } : MethodName) ({ cls := "SecurePair$Endpoint", name := "peerInit", desc := "()LSecurePair$Init;" } : MethodName)) ∈ xa := xa_t 661 (by decide +kernel) (by decide +kernel)
theorem xw662 : (Cond.code ({ cls := "SecurePair$Endpoint", name := "peerInit", desc := "()LSecurePair$Init;" } : MethodName) prog_4_method_8_code (1 : Nat) (Option.some (ClassFile.FieldType.object "SecurePair$Init"))) ∈ xa := xa_t 662 (by decide +kernel) (by decide +kernel)
theorem xw663 : (Cond.methodLink "SecurePair$Endpoint" (186 : Nat) ({ cls := "SecurePair$Exchange", name := "choose", desc := "()Z" } : MethodName)) ∈ xa := xa_t 663 (by decide +kernel) (by decide +kernel)
theorem xw664 : (Cond.instanceMethod ({ cls := "SecurePair$Exchange", name := "choose", desc := "()Z" } : MethodName)) ∈ xa := xa_t 664 (by decide +kernel) (by decide +kernel)
theorem xw665 : (Cond.selects "SecurePair$Exchange" ({ cls := "SecurePair$Exchange", name := "choose", desc := "()Z" } : MethodName) ({ cls := "SecurePair$Exchange", name := "choose", desc := "()Z" } : MethodName)) ∈ xa := xa_t 665 (by decide +kernel) (by decide +kernel)
theorem xw666 : (Cond.code ({ cls := "SecurePair$Exchange", name := "choose", desc := "()Z" } : MethodName) prog_5_method_2_code (1 : Nat) (Option.some ClassFile.FieldType.boolean)) ∈ xa := xa_t 666 (by decide +kernel) (by decide +kernel)
theorem xw673 : (Cond.methodLink "SecurePair$Endpoint" (189 : Nat) ({ cls := "SecurePair$Endpoint", name := "answerInit", desc := "()V" } : MethodName)) ∈ xa := xa_t 673 (by decide +kernel) (by decide +kernel)
theorem xw675 : (Cond.sameMethod "SecurePair$Endpoint" "SecurePair$Endpoint" "answerInit" "()V") ∈ xa := xa_t 675 (by decide +kernel) (by decide +kernel)
theorem xw676 : (Cond.selects "SecurePair$Client" ({ cls := "SecurePair$Endpoint", name := "answerInit", desc := "()V" } : MethodName) ({ cls := "SecurePair$Client", name := "answerInit", desc := "()V" } : MethodName)) ∈ xa := xa_t 676 (by decide +kernel) (by decide +kernel)
theorem xw677 : (Cond.instanceMethod ({ cls := "SecurePair$Client", name := "answerInit", desc := "()V" } : MethodName)) ∈ xa := xa_t 677 (by decide +kernel) (by decide +kernel)
theorem xw678 : (Cond.code ({ cls := "SecurePair$Client", name := "answerInit", desc := "()V" } : MethodName) prog_3_method_2_code (1 : Nat) (Option.none : Option ClassFile.FieldType)) ∈ xa := xa_t 678 (by decide +kernel) (by decide +kernel)
theorem xw689 : (Cond.selects "SecurePair$Server" ({ cls := "SecurePair$Endpoint", name := "answerInit", desc := "()V" } : MethodName) ({ cls := "SecurePair$Server", name := "answerInit", desc := "()V" } : MethodName)) ∈ xa := xa_t 689 (by decide +kernel) (by decide +kernel)
theorem xw690 : (Cond.instanceMethod ({ cls := "SecurePair$Server", name := "answerInit", desc := "()V" } : MethodName)) ∈ xa := xa_t 690 (by decide +kernel) (by decide +kernel)
theorem xw691 : (Cond.code ({ cls := "SecurePair$Server", name := "answerInit", desc := "()V" } : MethodName) prog_10_method_2_code (1 : Nat) (Option.none : Option ClassFile.FieldType)) ∈ xa := xa_t 691 (by decide +kernel) (by decide +kernel)
def p_takeInit (B : Nat) (P : Nat) (σ : xb_St) : Int32 × xb_St := (if (p_mayStart B σ) = 0 then (if (σ.1 B 9) = (1 : Int32) then (xb_om (p_peerInit B σ) (0, σ) (fun K3 => (if (p_Ex_choose (B + 5) (p_Init_set K3 (σ.2 P 1) (σ.2 P 2) (σ.2 P 3) σ)).1 = 0 then ((3 : Int32), (p_Ex_choose (B + 5) (p_Init_set K3 (σ.2 P 1) (σ.2 P 2) (σ.2 P 3) σ)).2) else (if B = 5 then ((0 : Int32), (p_Cl_answer B (xb_si (p_Ex_choose (B + 5) (p_Init_set K3 (σ.2 P 1) (σ.2 P 2) (σ.2 P 3) σ)).2 B 9 (2 : Int32)))) else ((0 : Int32), (p_Sv_answer B (xb_si (p_Ex_choose (B + 5) (p_Init_set K3 (σ.2 P 1) (σ.2 P 2) (σ.2 P 3) σ)).2 B 9 (2 : Int32)))))))) else ((2 : Int32), σ)) else (if ((p_start B σ).1 B 9) = (1 : Int32) then (xb_om (p_peerInit B (p_start B σ)) (0, (p_start B σ)) (fun K7 => (if (p_Ex_choose (B + 5) (p_Init_set K7 ((p_start B σ).2 P 1) ((p_start B σ).2 P 2) ((p_start B σ).2 P 3) (p_start B σ))).1 = 0 then ((3 : Int32), (p_Ex_choose (B + 5) (p_Init_set K7 ((p_start B σ).2 P 1) ((p_start B σ).2 P 2) ((p_start B σ).2 P 3) (p_start B σ))).2) else (if B = 5 then ((0 : Int32), (p_Cl_answer B (xb_si (p_Ex_choose (B + 5) (p_Init_set K7 ((p_start B σ).2 P 1) ((p_start B σ).2 P 2) ((p_start B σ).2 P 3) (p_start B σ))).2 B 9 (2 : Int32)))) else ((0 : Int32), (p_Sv_answer B (xb_si (p_Ex_choose (B + 5) (p_Init_set K7 ((p_start B σ).2 P 1) ((p_start B σ).2 P 2) ((p_start B σ).2 P 3) (p_start B σ))).2 B 9 (2 : Int32)))))))) else ((2 : Int32), (p_start B σ))))
set_option maxHeartbeats 4000000 in
set_option maxRecDepth 100000 in
theorem c_Endpoint_takeInit (l : Launch) (D : va_G) (α : Nat → Nat) (κ : Nat → ClassId) (hα : xb_inj α 35) (σ : xb_St) (B : Nat) (P : Nat) (iB : sp_isEndpoint B) (iP : sp_isPacket P) (ok : sp_ok σ) : Met l y_Endpoint_takeInit w_Endpoint_takeInit ({ frames := 4, cells := 0, slots := 0, locals := 97 }) (va_Pc ([.ref (α B), .ref (α P)]) (sp_Pre D α κ σ)) (va_Qi (fun r (u : xb_St) => r = (p_takeInit B P σ).1 ∧ u = (p_takeInit B P σ).2) (sp_B D α κ) (xb_A α 35)) 0 0 (xb_A α 35) := by
  refine Met.ofW (cc := b_Endpoint_takeInit) (maxL := 2) (ret := (some .int)) (by decide) rfl ?_
  intro p e s m args below meth c s₁ B_ hml hv
  obtain ⟨rfl, hP, hK, hN⟩ := hv
  have hx := B_.exec
  have hb := B_.bytes
  have hr := B_.returns
  have hts := atoms_spec (ws := w_Endpoint_takeInit) B_.pre
  have ht : ∀ w ∈ xa, w.before _ s = true := fun w h => hts w (List.mem_cons_of_mem _ h)
  have hown : s.vm.findClass "SecurePair$Endpoint" = some m.cls := findClass_of_methodNamed B_.named
  have hlocks := B_.notSynchronized
  have hD := sp_D hα κ
  have hS : va_S (xb_A α 35) s.heap s.heap [] := va_S.rf
  have hlA := sp_lnA_is iB
  have hlD := sp_lnD_is iB
  have hln := sp_ln_ne iB
  have hl := lv_entry ([.ref (α B), .ref (α P)]) (n := 2) (Nat.le_of_ble_eq_true rfl)
  rw [lg_entry_eq]
  generalize (lg_sl ([.ref (α B), .ref (α P)]) ++ List.replicate (2 - (lg_sl ([.ref (α B), .ref (α P)])).length) Slot.unset).toArray = ls at hl ⊢
  have hl : lv_has ls 2 [(0, .ref (α B)), (1, .ref (α P))] := hl
  refine lv_aload_n hx hb d_Endpoint_takeInit_0 rfl (lv_at hl 0 rfl) ?_
  refine sp_ci (sp_runE (n := 0) (As := []) (rest := []) ⟨hx, hb, hml, hown, hts⟩ (c_Endpoint_mayStart l D α κ hα σ B iB) iB xw655 xw584 xw585 xw586 xw583 xw3 xw587 rfl rfl rfl (by decide +kernel) ⟨Nat.le_of_ble_eq_true rfl, Nat.le_of_ble_eq_true rfl⟩ hP hK hN rfl rfl hl.1 rfl (lv_room (Nat.le_of_ble_eq_true rfl)) d_Endpoint_takeInit_1 ⟨Nat.le_of_ble_eq_true rfl, Nat.le_of_ble_eq_true rfl⟩) hS (fun _ h_ => h_) (fun H locs hP hS => ?_)
  refine lv_if_eq (tgt := 11) hx hb d_Endpoint_takeInit_4 (by decide) (fun c1 => ?_) (fun c1 => ?_)
  · skip
    refine lv_aload_n hx hb d_Endpoint_takeInit_11 rfl (lv_at hl 0 rfl) ?_
    refine sp_g_Endpoint (v := .int (σ.1 B 9)) hx hb ht hown hK hP iB 9 (by decide) (ht _ xw245) (fun _ h_ => h_) rfl d_Endpoint_takeInit_12 ?_
    refine lv_iconst (v := 1) hx hb d_Endpoint_takeInit_15 (by decide) ?_
    refine lv_icmp_eq (tgt := 21) hx hb d_Endpoint_takeInit_16 (by decide) (fun c2 => ?_) (fun c2 => ?_)
    · skip
      refine lv_aload_n hx hb d_Endpoint_takeInit_21 rfl (lv_at hl 0 rfl) ?_
      refine sp_cq (sp_runE (n := 0) (As := []) (rest := []) ⟨hx, hb, hml, hown, hts⟩ (c_Endpoint_peerInit l D α κ hα σ B iB) iB xw657 xw659 xw660 xw661 xw658 xw3 xw662 rfl rfl rfl (by decide +kernel) ⟨Nat.le_of_ble_eq_true rfl, Nat.le_of_ble_eq_true rfl⟩ hP hK hN rfl rfl hl.1 rfl (lv_room (Nat.le_of_ble_eq_true rfl)) d_Endpoint_takeInit_22 ⟨Nat.le_of_ble_eq_true rfl, Nat.le_of_ble_eq_true rfl⟩) hS (fun _ h_ => h_) (fun H locs hP hS => ?_)
      rcases c3 : (p_peerInit B σ) with _ | K3
      · skip
        exact absurd c3 (p_peerInit_nn iB)
      · skip
        have iK3 := p_peerInit_is iB c3
        refine lv_aload_n hx hb d_Endpoint_takeInit_25 rfl (lv_at hl 1 rfl) ?_
        refine sp_g_Packet (v := .long (σ.2 P 1)) hx hb ht hown hK hP iP 1 (by decide) (ht _ xw67) (fun _ h_ => h_) rfl d_Endpoint_takeInit_26 ?_
        refine lv_aload_n hx hb d_Endpoint_takeInit_29 rfl (lv_at hl 1 rfl) ?_
        refine sp_g_Packet (v := .long (σ.2 P 2)) hx hb ht hown hK hP iP 2 (by decide) (ht _ xw71) (fun _ h_ => h_) rfl d_Endpoint_takeInit_30 ?_
        refine lv_aload_n hx hb d_Endpoint_takeInit_33 rfl (lv_at hl 1 rfl) ?_
        refine sp_g_Packet (v := .long (σ.2 P 3)) hx hb ht hown hK hP iP 3 (by decide) (ht _ xw75) (fun _ h_ => h_) rfl d_Endpoint_takeInit_34 ?_
        refine sp_cv (va_runV (As := [.long (σ.2 P 1), .long (σ.2 P 2), .long (σ.2 P 3)]) (rest := []) ⟨hx, hb, hml, hown, hts⟩ (c_Init_set l D α κ hα σ K3 (σ.2 P 1) (σ.2 P 2) (σ.2 P 3) iK3) (cwV 3 hts (xa_V xw616 xw617 xw618 xw8 xw619) rfl rfl rfl (by decide +kernel) ⟨Nat.le_of_ble_eq_true rfl, Nat.le_of_ble_eq_true rfl⟩) ⟨sp_blind, va_recv hK hP rfl (sp_at_Init iK3), sp_pre hP hK hN _⟩ rfl rfl hl.1 rfl (lv_room (Nat.le_of_ble_eq_true rfl)) d_Endpoint_takeInit_37 ⟨Nat.le_of_ble_eq_true rfl, Nat.le_of_ble_eq_true rfl⟩) hS (fun _ h_ => h_) (fun H locs hP hS => ?_)
        obtain ⟨τ1, hτ1⟩ : ∃ t_, t_ = (p_Init_set K3 (σ.2 P 1) (σ.2 P 2) (σ.2 P 3) σ) := ⟨_, rfl⟩
        rw [← hτ1] at hP
        have okτ1 : sp_ok τ1 := by rw [hτ1]; exact (ok_p_Init_set K3 (σ.2 P 1) (σ.2 P 2) (σ.2 P 3) iK3 ok)
        refine lv_aload_n hx hb d_Endpoint_takeInit_40 rfl (lv_at hl 0 rfl) ?_
        refine sp_g_Endpoint (v := .ref (α (B + 5))) hx hb ht hown hK hP iB 7 (by decide) (ht _ xw239) (fun _ h_ => h_) rfl d_Endpoint_takeInit_41 ?_
        refine sp_ci (va_runV (As := []) (rest := []) ⟨hx, hb, hml, hown, hts⟩ (c_Exchange_choose l D α κ hα τ1 (B + 5) (by omega)) (cwV 0 hts (xa_V xw663 xw664 xw665 xw7 xw666) rfl rfl rfl (by decide +kernel) ⟨Nat.le_of_ble_eq_true rfl, Nat.le_of_ble_eq_true rfl⟩) ⟨sp_blind, va_recv hK hP rfl (sp_at_Exchange (by omega)), sp_pre hP hK hN _⟩ rfl rfl hl.1 rfl (lv_room (Nat.le_of_ble_eq_true rfl)) d_Endpoint_takeInit_44 ⟨Nat.le_of_ble_eq_true rfl, Nat.le_of_ble_eq_true rfl⟩) hS (fun _ h_ => h_) (fun H locs hP hS => ?_)
        obtain ⟨τ2, hτ2⟩ : ∃ t_, t_ = (p_Ex_choose (B + 5) τ1).2 := ⟨_, rfl⟩
        rw [← hτ2] at hP
        have okτ2 : sp_ok τ2 := by rw [hτ2]; exact (ok_p_Ex_choose (B + 5) (by omega) okτ1)
        obtain ⟨ρ2, hρ2⟩ : ∃ r_, r_ = (p_Ex_choose (B + 5) τ1).1 := ⟨_, rfl⟩
        refine xb_ti (y := ρ2) hρ2.symm ?_
        refine lv_if_ne (tgt := 52) hx hb d_Endpoint_takeInit_47 (by decide) (fun c4 => ?_) (fun c4 => ?_)
        · skip
          refine lv_aload_n hx hb d_Endpoint_takeInit_52 rfl (lv_at hl 0 rfl) ?_
          refine lv_iconst (v := 2) hx hb d_Endpoint_takeInit_53 (by decide) ?_
          refine sp_pi_Endpoint (x := (2 : Int32)) (ty := .int) hx hb ht hown hK hP iB 9 (by decide) (ht _ xw245) (fun _ h_ => h_) hD hS rfl (by decide +kernel) rfl rfl hf_Endpoint_9 d_Endpoint_takeInit_54 (fun H locs hP hS => ?_)
          refine lv_aload_n hx hb d_Endpoint_takeInit_57 rfl (lv_at hl 0 rfl) ?_
          by_cases c5 : B = 5
          · skip
            refine sp_cv (va_runU (As := []) (rest := []) ⟨hx, hb, hml, hown, hts⟩ (c_Client_answerInit l D α κ hα (xb_si τ2 B 9 (2 : Int32)) B c5 (ok_si okτ2 (by omega) (by omega))) (va_cwA (C := "SecurePair$Client") (owner := "SecurePair$Endpoint") (x := ⟨"SecurePair$Endpoint", "answerInit", "()V"⟩) 0 hts (xa_U xw673 xw675 xw676 xw677 xw4 xw678) rfl rfl rfl (hN.dat 0 rfl) ⟨by decide, by decide, by decide +kernel⟩ ⟨Nat.le_of_ble_eq_true rfl, Nat.le_of_ble_eq_true rfl⟩) ⟨sp_blind, va_recv hK hP rfl (sp_at_Client c5), sp_pre hP hK hN _⟩ rfl rfl hl.1 rfl (lv_room (Nat.le_of_ble_eq_true rfl)) d_Endpoint_takeInit_58 ⟨Nat.le_of_ble_eq_true rfl, Nat.le_of_ble_eq_true rfl⟩) hS (fun _ h_ => h_) (fun H locs hP hS => ?_)
            obtain ⟨τ3, hτ3⟩ : ∃ t_, t_ = (p_Cl_answer B (xb_si τ2 B 9 (2 : Int32))) := ⟨_, rfl⟩
            rw [← hτ3] at hP
            have okτ3 : sp_ok τ3 := by rw [hτ3]; exact (ok_p_Cl_answer B c5 (ok_si okτ2 (by omega) (by omega)))
            refine lv_iconst (v := 0) hx hb d_Endpoint_takeInit_61 (by decide) ?_
            exact W.iret (v := (0 : Int32)) hx hb hr (fun t ht_ hW => ⟨⟨(0 : Int32), τ3, rfl, ⟨congrArg Prod.fst (((by subst hτ3; subst hρ2; subst hτ2; subst hτ1; exact (by unfold p_takeInit; rw [if_pos c1, if_pos c2, xb_om_some c3, if_neg c4, if_pos c5]))) : ((0 : Int32), τ3) = p_takeInit B P σ), congrArg Prod.snd (((by subst hτ3; subst hρ2; subst hτ2; subst hτ1; exact (by unfold p_takeInit; rw [if_pos c1, if_pos c2, xb_om_some c3, if_neg c4, if_pos c5]))) : ((0 : Int32), τ3) = p_takeInit B P σ)⟩, by rw [sp_B, ht_]; exact hP⟩, hS.F ht_⟩) hS.2.2 d_Endpoint_takeInit_62
          · skip
            have ec5 : B = 20 := by omega
            refine sp_cv (va_runU (As := []) (rest := []) ⟨hx, hb, hml, hown, hts⟩ (c_Server_answerInit l D α κ hα (xb_si τ2 B 9 (2 : Int32)) B ec5) (va_cwA (C := "SecurePair$Server") (owner := "SecurePair$Endpoint") (x := ⟨"SecurePair$Endpoint", "answerInit", "()V"⟩) 0 hts (xa_U xw673 xw675 xw689 xw690 xw10 xw691) rfl rfl rfl (hN.dat 0 rfl) ⟨by decide, by decide, by decide +kernel⟩ ⟨Nat.le_of_ble_eq_true rfl, Nat.le_of_ble_eq_true rfl⟩) ⟨sp_blind, va_recv hK hP rfl (sp_at_Server ec5), sp_pre hP hK hN _⟩ rfl rfl hl.1 rfl (lv_room (Nat.le_of_ble_eq_true rfl)) d_Endpoint_takeInit_58 ⟨Nat.le_of_ble_eq_true rfl, Nat.le_of_ble_eq_true rfl⟩) hS (fun _ h_ => h_) (fun H locs hP hS => ?_)
            obtain ⟨τ4, hτ4⟩ : ∃ t_, t_ = (p_Sv_answer B (xb_si τ2 B 9 (2 : Int32))) := ⟨_, rfl⟩
            rw [← hτ4] at hP
            have okτ4 : sp_ok τ4 := by rw [hτ4]; exact (ok_p_Sv_answer B ec5 (ok_si okτ2 (by omega) (by omega)))
            refine lv_iconst (v := 0) hx hb d_Endpoint_takeInit_61 (by decide) ?_
            exact W.iret (v := (0 : Int32)) hx hb hr (fun t ht_ hW => ⟨⟨(0 : Int32), τ4, rfl, ⟨congrArg Prod.fst (((by subst hτ4; subst hρ2; subst hτ2; subst hτ1; exact (by unfold p_takeInit; rw [if_pos c1, if_pos c2, xb_om_some c3, if_neg c4, if_neg c5]))) : ((0 : Int32), τ4) = p_takeInit B P σ), congrArg Prod.snd (((by subst hτ4; subst hρ2; subst hτ2; subst hτ1; exact (by unfold p_takeInit; rw [if_pos c1, if_pos c2, xb_om_some c3, if_neg c4, if_neg c5]))) : ((0 : Int32), τ4) = p_takeInit B P σ)⟩, by rw [sp_B, ht_]; exact hP⟩, hS.F ht_⟩) hS.2.2 d_Endpoint_takeInit_62
        · skip
          refine lv_iconst (v := 3) hx hb d_Endpoint_takeInit_50 (by decide) ?_
          exact W.iret (v := (3 : Int32)) hx hb hr (fun t ht_ hW => ⟨⟨(3 : Int32), τ2, rfl, ⟨congrArg Prod.fst (((by subst hρ2; subst hτ2; subst hτ1; exact (by unfold p_takeInit; rw [if_pos c1, if_pos c2, xb_om_some c3, if_pos c4]))) : ((3 : Int32), τ2) = p_takeInit B P σ), congrArg Prod.snd (((by subst hρ2; subst hτ2; subst hτ1; exact (by unfold p_takeInit; rw [if_pos c1, if_pos c2, xb_om_some c3, if_pos c4]))) : ((3 : Int32), τ2) = p_takeInit B P σ)⟩, by rw [sp_B, ht_]; exact hP⟩, hS.F ht_⟩) hS.2.2 d_Endpoint_takeInit_51
    · skip
      refine lv_iconst (v := 2) hx hb d_Endpoint_takeInit_19 (by decide) ?_
      exact W.iret (v := (2 : Int32)) hx hb hr (fun t ht_ hW => ⟨⟨(2 : Int32), σ, rfl, ⟨congrArg Prod.fst ((((if_pos c1).trans ((if_neg c2))).symm) : ((2 : Int32), σ) = p_takeInit B P σ), congrArg Prod.snd ((((if_pos c1).trans ((if_neg c2))).symm) : ((2 : Int32), σ) = p_takeInit B P σ)⟩, by rw [sp_B, ht_]; exact hP⟩, hS.F ht_⟩) hS.2.2 d_Endpoint_takeInit_20
  · skip
    refine lv_aload_n hx hb d_Endpoint_takeInit_7 rfl (lv_at hl 0 rfl) ?_
    refine sp_cv (sp_runE (n := 0) (As := []) (rest := []) ⟨hx, hb, hml, hown, hts⟩ (c_Endpoint_start l D α κ hα σ B iB ok) iB xw656 xw606 xw607 xw608 xw605 xw3 xw609 rfl rfl rfl (by decide +kernel) ⟨Nat.le_of_ble_eq_true rfl, Nat.le_of_ble_eq_true rfl⟩ hP hK hN rfl rfl hl.1 rfl (lv_room (Nat.le_of_ble_eq_true rfl)) d_Endpoint_takeInit_8 ⟨Nat.le_of_ble_eq_true rfl, Nat.le_of_ble_eq_true rfl⟩) hS (fun _ h_ => h_) (fun H locs hP hS => ?_)
    obtain ⟨τ5, hτ5⟩ : ∃ t_, t_ = (p_start B σ) := ⟨_, rfl⟩
    rw [← hτ5] at hP
    have okτ5 : sp_ok τ5 := by rw [hτ5]; exact (ok_p_start B iB ok)
    refine lv_aload_n hx hb d_Endpoint_takeInit_11 rfl (lv_at hl 0 rfl) ?_
    refine sp_g_Endpoint (v := .int (τ5.1 B 9)) hx hb ht hown hK hP iB 9 (by decide) (ht _ xw245) (fun _ h_ => h_) rfl d_Endpoint_takeInit_12 ?_
    refine lv_iconst (v := 1) hx hb d_Endpoint_takeInit_15 (by decide) ?_
    refine lv_icmp_eq (tgt := 21) hx hb d_Endpoint_takeInit_16 (by decide) (fun c6 => ?_) (fun c6 => ?_)
    · skip
      refine lv_aload_n hx hb d_Endpoint_takeInit_21 rfl (lv_at hl 0 rfl) ?_
      refine sp_cq (sp_runE (n := 0) (As := []) (rest := []) ⟨hx, hb, hml, hown, hts⟩ (c_Endpoint_peerInit l D α κ hα τ5 B iB) iB xw657 xw659 xw660 xw661 xw658 xw3 xw662 rfl rfl rfl (by decide +kernel) ⟨Nat.le_of_ble_eq_true rfl, Nat.le_of_ble_eq_true rfl⟩ hP hK hN rfl rfl hl.1 rfl (lv_room (Nat.le_of_ble_eq_true rfl)) d_Endpoint_takeInit_22 ⟨Nat.le_of_ble_eq_true rfl, Nat.le_of_ble_eq_true rfl⟩) hS (fun _ h_ => h_) (fun H locs hP hS => ?_)
      rcases c7 : (p_peerInit B τ5) with _ | K7
      · skip
        exact absurd c7 (p_peerInit_nn iB)
      · skip
        have iK7 := p_peerInit_is iB c7
        refine lv_aload_n hx hb d_Endpoint_takeInit_25 rfl (lv_at hl 1 rfl) ?_
        refine sp_g_Packet (v := .long (τ5.2 P 1)) hx hb ht hown hK hP iP 1 (by decide) (ht _ xw67) (fun _ h_ => h_) rfl d_Endpoint_takeInit_26 ?_
        refine lv_aload_n hx hb d_Endpoint_takeInit_29 rfl (lv_at hl 1 rfl) ?_
        refine sp_g_Packet (v := .long (τ5.2 P 2)) hx hb ht hown hK hP iP 2 (by decide) (ht _ xw71) (fun _ h_ => h_) rfl d_Endpoint_takeInit_30 ?_
        refine lv_aload_n hx hb d_Endpoint_takeInit_33 rfl (lv_at hl 1 rfl) ?_
        refine sp_g_Packet (v := .long (τ5.2 P 3)) hx hb ht hown hK hP iP 3 (by decide) (ht _ xw75) (fun _ h_ => h_) rfl d_Endpoint_takeInit_34 ?_
        refine sp_cv (va_runV (As := [.long (τ5.2 P 1), .long (τ5.2 P 2), .long (τ5.2 P 3)]) (rest := []) ⟨hx, hb, hml, hown, hts⟩ (c_Init_set l D α κ hα τ5 K7 (τ5.2 P 1) (τ5.2 P 2) (τ5.2 P 3) iK7) (cwV 3 hts (xa_V xw616 xw617 xw618 xw8 xw619) rfl rfl rfl (by decide +kernel) ⟨Nat.le_of_ble_eq_true rfl, Nat.le_of_ble_eq_true rfl⟩) ⟨sp_blind, va_recv hK hP rfl (sp_at_Init iK7), sp_pre hP hK hN _⟩ rfl rfl hl.1 rfl (lv_room (Nat.le_of_ble_eq_true rfl)) d_Endpoint_takeInit_37 ⟨Nat.le_of_ble_eq_true rfl, Nat.le_of_ble_eq_true rfl⟩) hS (fun _ h_ => h_) (fun H locs hP hS => ?_)
        obtain ⟨τ6, hτ6⟩ : ∃ t_, t_ = (p_Init_set K7 (τ5.2 P 1) (τ5.2 P 2) (τ5.2 P 3) τ5) := ⟨_, rfl⟩
        rw [← hτ6] at hP
        have okτ6 : sp_ok τ6 := by rw [hτ6]; exact (ok_p_Init_set K7 (τ5.2 P 1) (τ5.2 P 2) (τ5.2 P 3) iK7 okτ5)
        refine lv_aload_n hx hb d_Endpoint_takeInit_40 rfl (lv_at hl 0 rfl) ?_
        refine sp_g_Endpoint (v := .ref (α (B + 5))) hx hb ht hown hK hP iB 7 (by decide) (ht _ xw239) (fun _ h_ => h_) rfl d_Endpoint_takeInit_41 ?_
        refine sp_ci (va_runV (As := []) (rest := []) ⟨hx, hb, hml, hown, hts⟩ (c_Exchange_choose l D α κ hα τ6 (B + 5) (by omega)) (cwV 0 hts (xa_V xw663 xw664 xw665 xw7 xw666) rfl rfl rfl (by decide +kernel) ⟨Nat.le_of_ble_eq_true rfl, Nat.le_of_ble_eq_true rfl⟩) ⟨sp_blind, va_recv hK hP rfl (sp_at_Exchange (by omega)), sp_pre hP hK hN _⟩ rfl rfl hl.1 rfl (lv_room (Nat.le_of_ble_eq_true rfl)) d_Endpoint_takeInit_44 ⟨Nat.le_of_ble_eq_true rfl, Nat.le_of_ble_eq_true rfl⟩) hS (fun _ h_ => h_) (fun H locs hP hS => ?_)
        obtain ⟨τ7, hτ7⟩ : ∃ t_, t_ = (p_Ex_choose (B + 5) τ6).2 := ⟨_, rfl⟩
        rw [← hτ7] at hP
        have okτ7 : sp_ok τ7 := by rw [hτ7]; exact (ok_p_Ex_choose (B + 5) (by omega) okτ6)
        obtain ⟨ρ7, hρ7⟩ : ∃ r_, r_ = (p_Ex_choose (B + 5) τ6).1 := ⟨_, rfl⟩
        refine xb_ti (y := ρ7) hρ7.symm ?_
        refine lv_if_ne (tgt := 52) hx hb d_Endpoint_takeInit_47 (by decide) (fun c8 => ?_) (fun c8 => ?_)
        · skip
          refine lv_aload_n hx hb d_Endpoint_takeInit_52 rfl (lv_at hl 0 rfl) ?_
          refine lv_iconst (v := 2) hx hb d_Endpoint_takeInit_53 (by decide) ?_
          refine sp_pi_Endpoint (x := (2 : Int32)) (ty := .int) hx hb ht hown hK hP iB 9 (by decide) (ht _ xw245) (fun _ h_ => h_) hD hS rfl (by decide +kernel) rfl rfl hf_Endpoint_9 d_Endpoint_takeInit_54 (fun H locs hP hS => ?_)
          refine lv_aload_n hx hb d_Endpoint_takeInit_57 rfl (lv_at hl 0 rfl) ?_
          by_cases c9 : B = 5
          · skip
            refine sp_cv (va_runU (As := []) (rest := []) ⟨hx, hb, hml, hown, hts⟩ (c_Client_answerInit l D α κ hα (xb_si τ7 B 9 (2 : Int32)) B c9 (ok_si okτ7 (by omega) (by omega))) (va_cwA (C := "SecurePair$Client") (owner := "SecurePair$Endpoint") (x := ⟨"SecurePair$Endpoint", "answerInit", "()V"⟩) 0 hts (xa_U xw673 xw675 xw676 xw677 xw4 xw678) rfl rfl rfl (hN.dat 0 rfl) ⟨by decide, by decide, by decide +kernel⟩ ⟨Nat.le_of_ble_eq_true rfl, Nat.le_of_ble_eq_true rfl⟩) ⟨sp_blind, va_recv hK hP rfl (sp_at_Client c9), sp_pre hP hK hN _⟩ rfl rfl hl.1 rfl (lv_room (Nat.le_of_ble_eq_true rfl)) d_Endpoint_takeInit_58 ⟨Nat.le_of_ble_eq_true rfl, Nat.le_of_ble_eq_true rfl⟩) hS (fun _ h_ => h_) (fun H locs hP hS => ?_)
            obtain ⟨τ8, hτ8⟩ : ∃ t_, t_ = (p_Cl_answer B (xb_si τ7 B 9 (2 : Int32))) := ⟨_, rfl⟩
            rw [← hτ8] at hP
            have okτ8 : sp_ok τ8 := by rw [hτ8]; exact (ok_p_Cl_answer B c9 (ok_si okτ7 (by omega) (by omega)))
            refine lv_iconst (v := 0) hx hb d_Endpoint_takeInit_61 (by decide) ?_
            exact W.iret (v := (0 : Int32)) hx hb hr (fun t ht_ hW => ⟨⟨(0 : Int32), τ8, rfl, ⟨congrArg Prod.fst (((by subst hτ8; subst hρ7; subst hτ7; subst hτ6; subst hτ5; exact (by unfold p_takeInit; rw [if_neg c1, if_pos c6, xb_om_some c7, if_neg c8, if_pos c9]))) : ((0 : Int32), τ8) = p_takeInit B P σ), congrArg Prod.snd (((by subst hτ8; subst hρ7; subst hτ7; subst hτ6; subst hτ5; exact (by unfold p_takeInit; rw [if_neg c1, if_pos c6, xb_om_some c7, if_neg c8, if_pos c9]))) : ((0 : Int32), τ8) = p_takeInit B P σ)⟩, by rw [sp_B, ht_]; exact hP⟩, hS.F ht_⟩) hS.2.2 d_Endpoint_takeInit_62
          · skip
            have ec9 : B = 20 := by omega
            refine sp_cv (va_runU (As := []) (rest := []) ⟨hx, hb, hml, hown, hts⟩ (c_Server_answerInit l D α κ hα (xb_si τ7 B 9 (2 : Int32)) B ec9) (va_cwA (C := "SecurePair$Server") (owner := "SecurePair$Endpoint") (x := ⟨"SecurePair$Endpoint", "answerInit", "()V"⟩) 0 hts (xa_U xw673 xw675 xw689 xw690 xw10 xw691) rfl rfl rfl (hN.dat 0 rfl) ⟨by decide, by decide, by decide +kernel⟩ ⟨Nat.le_of_ble_eq_true rfl, Nat.le_of_ble_eq_true rfl⟩) ⟨sp_blind, va_recv hK hP rfl (sp_at_Server ec9), sp_pre hP hK hN _⟩ rfl rfl hl.1 rfl (lv_room (Nat.le_of_ble_eq_true rfl)) d_Endpoint_takeInit_58 ⟨Nat.le_of_ble_eq_true rfl, Nat.le_of_ble_eq_true rfl⟩) hS (fun _ h_ => h_) (fun H locs hP hS => ?_)
            obtain ⟨τ9, hτ9⟩ : ∃ t_, t_ = (p_Sv_answer B (xb_si τ7 B 9 (2 : Int32))) := ⟨_, rfl⟩
            rw [← hτ9] at hP
            have okτ9 : sp_ok τ9 := by rw [hτ9]; exact (ok_p_Sv_answer B ec9 (ok_si okτ7 (by omega) (by omega)))
            refine lv_iconst (v := 0) hx hb d_Endpoint_takeInit_61 (by decide) ?_
            exact W.iret (v := (0 : Int32)) hx hb hr (fun t ht_ hW => ⟨⟨(0 : Int32), τ9, rfl, ⟨congrArg Prod.fst (((by subst hτ9; subst hρ7; subst hτ7; subst hτ6; subst hτ5; exact (by unfold p_takeInit; rw [if_neg c1, if_pos c6, xb_om_some c7, if_neg c8, if_neg c9]))) : ((0 : Int32), τ9) = p_takeInit B P σ), congrArg Prod.snd (((by subst hτ9; subst hρ7; subst hτ7; subst hτ6; subst hτ5; exact (by unfold p_takeInit; rw [if_neg c1, if_pos c6, xb_om_some c7, if_neg c8, if_neg c9]))) : ((0 : Int32), τ9) = p_takeInit B P σ)⟩, by rw [sp_B, ht_]; exact hP⟩, hS.F ht_⟩) hS.2.2 d_Endpoint_takeInit_62
        · skip
          refine lv_iconst (v := 3) hx hb d_Endpoint_takeInit_50 (by decide) ?_
          exact W.iret (v := (3 : Int32)) hx hb hr (fun t ht_ hW => ⟨⟨(3 : Int32), τ7, rfl, ⟨congrArg Prod.fst (((by subst hρ7; subst hτ7; subst hτ6; subst hτ5; exact (by unfold p_takeInit; rw [if_neg c1, if_pos c6, xb_om_some c7, if_pos c8]))) : ((3 : Int32), τ7) = p_takeInit B P σ), congrArg Prod.snd (((by subst hρ7; subst hτ7; subst hτ6; subst hτ5; exact (by unfold p_takeInit; rw [if_neg c1, if_pos c6, xb_om_some c7, if_pos c8]))) : ((3 : Int32), τ7) = p_takeInit B P σ)⟩, by rw [sp_B, ht_]; exact hP⟩, hS.F ht_⟩) hS.2.2 d_Endpoint_takeInit_51
    · skip
      refine lv_iconst (v := 2) hx hb d_Endpoint_takeInit_19 (by decide) ?_
      exact W.iret (v := (2 : Int32)) hx hb hr (fun t ht_ hW => ⟨⟨(2 : Int32), τ5, rfl, ⟨congrArg Prod.fst (((by subst hτ5; exact ((if_neg c1).trans ((if_neg c6))).symm)) : ((2 : Int32), τ5) = p_takeInit B P σ), congrArg Prod.snd (((by subst hτ5; exact ((if_neg c1).trans ((if_neg c6))).symm)) : ((2 : Int32), τ5) = p_takeInit B P σ)⟩, by rw [sp_B, ht_]; exact hP⟩, hS.F ht_⟩) hS.2.2 d_Endpoint_takeInit_20
theorem ok_p_takeInit {σ : xb_St} (B : Nat) (P : Nat) (iB : sp_isEndpoint B) (iP : sp_isPacket P) (ok : sp_ok σ) : sp_ok (p_takeInit B P σ).2 := by
  have hlA := sp_lnA_is iB
  have hlD := sp_lnD_is iB
  have hln := sp_ln_ne iB
  unfold p_takeInit
  by_cases c1 : (p_mayStart B σ) = 0
  · rw [if_pos c1]
    by_cases c2 : (σ.1 B 9) = (1 : Int32)
    · rw [if_pos c2]
      rcases c3 : (p_peerInit B σ) with _ | K3
      · dsimp only [xb_om]
        exact absurd c3 (p_peerInit_nn iB)
      · dsimp only [xb_om]
        have iK3 := p_peerInit_is iB c3
        by_cases c4 : (p_Ex_choose (B + 5) (p_Init_set K3 (σ.2 P 1) (σ.2 P 2) (σ.2 P 3) σ)).1 = 0
        · rw [if_pos c4]
          exact (ok_p_Ex_choose (B + 5) (by omega) (ok_p_Init_set K3 (σ.2 P 1) (σ.2 P 2) (σ.2 P 3) iK3 ok))
        · rw [if_neg c4]
          by_cases c5 : B = 5
          · rw [if_pos c5]
            exact (ok_p_Cl_answer B c5 (ok_si (ok_p_Ex_choose (B + 5) (by omega) (ok_p_Init_set K3 (σ.2 P 1) (σ.2 P 2) (σ.2 P 3) iK3 ok)) (by omega) (by omega)))
          · rw [if_neg c5]
            have ec5 : B = 20 := by omega
            exact (ok_p_Sv_answer B ec5 (ok_si (ok_p_Ex_choose (B + 5) (by omega) (ok_p_Init_set K3 (σ.2 P 1) (σ.2 P 2) (σ.2 P 3) iK3 ok)) (by omega) (by omega)))
    · rw [if_neg c2]
      exact ok
  · rw [if_neg c1]
    by_cases c6 : ((p_start B σ).1 B 9) = (1 : Int32)
    · rw [if_pos c6]
      rcases c7 : (p_peerInit B (p_start B σ)) with _ | K7
      · dsimp only [xb_om]
        exact absurd c7 (p_peerInit_nn iB)
      · dsimp only [xb_om]
        have iK7 := p_peerInit_is iB c7
        by_cases c8 : (p_Ex_choose (B + 5) (p_Init_set K7 ((p_start B σ).2 P 1) ((p_start B σ).2 P 2) ((p_start B σ).2 P 3) (p_start B σ))).1 = 0
        · rw [if_pos c8]
          exact (ok_p_Ex_choose (B + 5) (by omega) (ok_p_Init_set K7 ((p_start B σ).2 P 1) ((p_start B σ).2 P 2) ((p_start B σ).2 P 3) iK7 (ok_p_start B iB ok)))
        · rw [if_neg c8]
          by_cases c9 : B = 5
          · rw [if_pos c9]
            exact (ok_p_Cl_answer B c9 (ok_si (ok_p_Ex_choose (B + 5) (by omega) (ok_p_Init_set K7 ((p_start B σ).2 P 1) ((p_start B σ).2 P 2) ((p_start B σ).2 P 3) iK7 (ok_p_start B iB ok))) (by omega) (by omega)))
          · rw [if_neg c9]
            have ec9 : B = 20 := by omega
            exact (ok_p_Sv_answer B ec9 (ok_si (ok_p_Ex_choose (B + 5) (by omega) (ok_p_Init_set K7 ((p_start B σ).2 P 1) ((p_start B σ).2 P 2) ((p_start B σ).2 P 3) iK7 (ok_p_start B iB ok))) (by omega) (by omega)))
    · rw [if_neg c6]
      exact (ok_p_start B iB ok)
