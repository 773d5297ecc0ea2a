abbrev b_Endpoint_takeForChannel : ByteArray := prog_4_method_17_code
def y_Endpoint_takeForChannel : MethodName := ⟨"SecurePair$Endpoint", "takeForChannel", "(LSecurePair$Packet;)I"⟩
abbrev w_Endpoint_takeForChannel : List Cond := .code y_Endpoint_takeForChannel b_Endpoint_takeForChannel 3 (some .int) :: xa
theorem d_Endpoint_takeForChannel_0 : decode b_Endpoint_takeForChannel 0 = .ok (.aload_n 1, 1) := by decide +kernel
theorem d_Endpoint_takeForChannel_1 : decode b_Endpoint_takeForChannel 1 = .ok (.getfield 101, 3) := by decide +kernel
theorem d_Endpoint_takeForChannel_4 : decode b_Endpoint_takeForChannel 4 = .ok (.bipush 90, 2) := by decide +kernel
theorem d_Endpoint_takeForChannel_6 : decode b_Endpoint_takeForChannel 6 = .ok (.if_icmp .ne 9, 3) := by decide +kernel
theorem d_Endpoint_takeForChannel_9 : decode b_Endpoint_takeForChannel 9 = .ok (.aload_n 0, 1) := by decide +kernel
theorem d_Endpoint_takeForChannel_10 : decode b_Endpoint_takeForChannel 10 = .ok (.aload_n 1, 1) := by decide +kernel
theorem d_Endpoint_takeForChannel_11 : decode b_Endpoint_takeForChannel 11 = .ok (.invokevirtual 205, 3) := by decide +kernel
theorem d_Endpoint_takeForChannel_14 : decode b_Endpoint_takeForChannel 14 = .ok (.ireturn, 1) := by decide +kernel
theorem d_Endpoint_takeForChannel_15 : decode b_Endpoint_takeForChannel 15 = .ok (.aload_n 0, 1) := by decide +kernel
theorem d_Endpoint_takeForChannel_16 : decode b_Endpoint_takeForChannel 16 = .ok (.aload_n 1, 1) := by decide +kernel
theorem d_Endpoint_takeForChannel_17 : decode b_Endpoint_takeForChannel 17 = .ok (.getfield 104, 3) := by decide +kernel
theorem d_Endpoint_takeForChannel_20 : decode b_Endpoint_takeForChannel 20 = .ok (.invokevirtual 208, 3) := by decide +kernel
theorem d_Endpoint_takeForChannel_23 : decode b_Endpoint_takeForChannel 23 = .ok (.astore_n 2, 1) := by decide +kernel
theorem d_Endpoint_takeForChannel_24 : decode b_Endpoint_takeForChannel 24 = .ok (.aload_n 2, 1) := by decide +kernel
theorem d_Endpoint_takeForChannel_25 : decode b_Endpoint_takeForChannel 25 = .ok (.ifnonnull 6, 3) := by decide +kernel
theorem d_Endpoint_takeForChannel_28 : decode b_Endpoint_takeForChannel 28 = .ok (.bipush 7, 2) := by decide +kernel
theorem d_Endpoint_takeForChannel_30 : decode b_Endpoint_takeForChannel 30 = .ok (.ireturn, 1) := by decide +kernel
theorem d_Endpoint_takeForChannel_31 : decode b_Endpoint_takeForChannel 31 = .ok (.aload_n 1, 1) := by decide +kernel
theorem d_Endpoint_takeForChannel_32 : decode b_Endpoint_takeForChannel 32 = .ok (.getfield 101, 3) := by decide +kernel
theorem d_Endpoint_takeForChannel_35 : decode b_Endpoint_takeForChannel 35 = .ok (.tableswitch 69 91 94 #[29, 42, 47, 56], 29) := by decide +kernel
theorem d_Endpoint_takeForChannel_64 : decode b_Endpoint_takeForChannel 64 = .ok (.aload_n 2, 1) := by decide +kernel
theorem d_Endpoint_takeForChannel_65 : decode b_Endpoint_takeForChannel 65 = .ok (.aload_n 1, 1) := by decide +kernel
theorem d_Endpoint_takeForChannel_66 : decode b_Endpoint_takeForChannel 66 = .ok (.getfield 107, 3) := by decide +kernel
theorem d_Endpoint_takeForChannel_69 : decode b_Endpoint_takeForChannel 69 = .ok (.aload_n 1, 1) := by decide +kernel
theorem d_Endpoint_takeForChannel_70 : decode b_Endpoint_takeForChannel 70 = .ok (.getfield 110, 3) := by decide +kernel
theorem d_Endpoint_takeForChannel_73 : decode b_Endpoint_takeForChannel 73 = .ok (.invokevirtual 212, 3) := by decide +kernel
theorem d_Endpoint_takeForChannel_76 : decode b_Endpoint_takeForChannel 76 = .ok (.ireturn, 1) := by decide +kernel
theorem d_Endpoint_takeForChannel_77 : decode b_Endpoint_takeForChannel 77 = .ok (.aload_n 2, 1) := by decide +kernel
theorem d_Endpoint_takeForChannel_78 : decode b_Endpoint_takeForChannel 78 = .ok (.invokevirtual 216, 3) := by decide +kernel
theorem d_Endpoint_takeForChannel_81 : decode b_Endpoint_takeForChannel 81 = .ok (.ireturn, 1) := by decide +kernel
theorem d_Endpoint_takeForChannel_82 : decode b_Endpoint_takeForChannel 82 = .ok (.aload_n 2, 1) := by decide +kernel
theorem d_Endpoint_takeForChannel_83 : decode b_Endpoint_takeForChannel 83 = .ok (.aload_n 1, 1) := by decide +kernel
theorem d_Endpoint_takeForChannel_84 : decode b_Endpoint_takeForChannel 84 = .ok (.getfield 107, 3) := by decide +kernel
theorem d_Endpoint_takeForChannel_87 : decode b_Endpoint_takeForChannel 87 = .ok (.invokevirtual 219, 3) := by decide +kernel
theorem d_Endpoint_takeForChannel_90 : decode b_Endpoint_takeForChannel 90 = .ok (.ireturn, 1) := by decide +kernel
theorem d_Endpoint_takeForChannel_91 : decode b_Endpoint_takeForChannel 91 = .ok (.aload_n 2, 1) := by decide +kernel
theorem d_Endpoint_takeForChannel_92 : decode b_Endpoint_takeForChannel 92 = .ok (.aload_n 1, 1) := by decide +kernel
theorem d_Endpoint_takeForChannel_93 : decode b_Endpoint_takeForChannel 93 = .ok (.getfield 107, 3) := by decide +kernel
theorem d_Endpoint_takeForChannel_96 : decode b_Endpoint_takeForChannel 96 = .ok (.aload_n 1, 1) := by decide +kernel
theorem d_Endpoint_takeForChannel_97 : decode b_Endpoint_takeForChannel 97 = .ok (.getfield 110, 3) := by decide +kernel
theorem d_Endpoint_takeForChannel_100 : decode b_Endpoint_takeForChannel 100 = .ok (.invokevirtual 223, 3) := by decide +kernel
theorem d_Endpoint_takeForChannel_103 : decode b_Endpoint_takeForChannel 103 = .ok (.ireturn, 1) := by decide +kernel
theorem d_Endpoint_takeForChannel_104 : decode b_Endpoint_takeForChannel 104 = .ok (.aload_n 0, 1) := by decide +kernel
theorem d_Endpoint_takeForChannel_105 : decode b_Endpoint_takeForChannel 105 = .ok (.aload_n 2, 1) := by decide +kernel
theorem d_Endpoint_takeForChannel_106 : decode b_Endpoint_takeForChannel 106 = .ok (.invokevirtual 226, 3) := by decide +kernel
theorem d_Endpoint_takeForChannel_109 : decode b_Endpoint_takeForChannel 109 = .ok (.ireturn, 1) := by decide +kernel
theorem xw478 : (Cond.instanceMethod ({ cls := "SecurePair$Endpoint", name := "channelAt", desc := "(J)LSecurePair$Channel;" } : MethodName)) ∈ xa := xa_t 478 (by decide +kernel) (by decide +kernel)
theorem xw479 : (Cond.sameMethod "SecurePair$Endpoint" "SecurePair$Endpoint" "channelAt" "(J)LSecurePair$Channel;") ∈ xa := xa_t 479 (by decide +kernel) (by decide +kernel)
theorem xw480 : (Cond.selects "SecurePair$Client" ({ cls := "SecurePair$Endpoint", name := "channelAt", desc := "(J)LSecurePair$Channel;" } : MethodName) ({ cls := "SecurePair$Endpoint", name := "channelAt", desc := "(J)LSecurePair$Channel;" } : MethodName)) ∈ xa := xa_t 480 (by decide +kernel) (by decide +kernel)
theorem xw481 : (Cond.selects "SecurePair$Server" ({ cls := "SecurePair$Endpoint", name := "channelAt", desc := "(J)LSecurePair$Channel;" } : MethodName) ({ cls := "SecurePair$Endpoint", name := "channelAt", desc := "(J)LSecurePair$Channel;" } : MethodName)) ∈ xa := xa_t 481 (by decide +kernel) (by decide +kernel)
theorem xw482 : (Cond.code ({ cls := "SecurePair$Endpoint", name := "channelAt", desc := "(J)LSecurePair$Channel;" } : MethodName) prog_4_method_20_code (3 : Nat) (Option.some (ClassFile.FieldType.object "SecurePair$Channel"))) ∈ xa := xa_t 482 (by decide +kernel) (by decide +kernel)
theorem xw771 : (Cond.methodLink "SecurePair$Endpoint" (205 : Nat) ({ cls := "SecurePair$Endpoint", name := "takeOpen", desc := "(LSecurePair$Packet;)I" } : MethodName)) ∈ xa := xa_t 771 (by decide +kernel) (by decide +kernel)
theorem xw772 : (Cond.instanceMethod ({ cls := "SecurePair$Endpoint", name := "takeOpen", desc := "(LSecurePair$Packet;)I" } : MethodName)) ∈ xa := xa_t 772 (by decide +kernel) (by decide +kernel)
theorem xw773 : (Cond.sameMethod "SecurePair$Endpoint" "SecurePair$Endpoint" "takeOpen" "(LSecurePair$Packet;)I") ∈ xa := xa_t 773 (by decide +kernel) (by decide +kernel)
theorem xw774 : (Cond.selects "SecurePair$Client" ({ cls := "SecurePair$Endpoint", name := "takeOpen", desc := "(LSecurePair$Packet;)I" } : MethodName) ({ cls := "SecurePair$Endpoint", name := "takeOpen", desc := "(LSecurePair$Packet;)I" } : MethodName)) ∈ xa := xa_t 774 (by decide +kernel) (by decide +kernel)
theorem xw775 : (Cond.selects "SecurePair$Server" ({ cls := "SecurePair$Endpoint", name := "takeOpen", desc := "(LSecurePair$Packet;)I" } : MethodName) ({ cls := "SecurePair$Endpoint", name := "takeOpen", desc := "(LSecurePair$Packet;)I" } : MethodName)) ∈ xa := xa_t 775 (by decide +kernel) (by decide +kernel)
theorem xw776 : (Cond.code ({ cls := "SecurePair$Endpoint", name := "takeOpen", desc := "(LSecurePair$Packet;)I" } : MethodName) prog_4_method_18_code (3 : Nat) (Option.some ClassFile.FieldType.int)) ∈ xa := xa_t 776 (by decide +kernel) (by decide +kernel)
theorem xw788 : (Cond.methodLink "SecurePair$Endpoint" (208 : Nat) ({ cls := "SecurePair$Endpoint", name := "channelAt", desc := "(J)LSecurePair$Channel;" } : MethodName)) ∈ xa := xa_t 788 (by decide +kernel) (by decide +kernel)
theorem xw789 : (Cond.methodLink "SecurePair$Endpoint" (212 : Nat) ({ cls := "SecurePair$Channel", name := "takeConfirm", desc := "(JJ)I" } : MethodName)) ∈ xa := xa_t 789 (by decide +kernel) (by decide +kernel)
theorem xw790 : (Cond.instanceMethod ({ cls := "SecurePair$Channel", name := "takeConfirm", desc := "(JJ)I" } : MethodName)) ∈ xa := xa_t 790 (by decide +kernel) (by decide +kernel)
theorem xw791 : (Cond.selects "SecurePair$Channel" ({ cls := "SecurePair$Channel", name := "takeConfirm", desc := "(JJ)I" } : MethodName) ({ cls := "SecurePair$Channel", name := "takeConfirm", desc := "(JJ)I" } : MethodName)) ∈ xa := xa_t 791 (by decide +kernel) (by decide +kernel)
theorem xw792 : (Cond.code ({ cls := "SecurePair$Channel", name := "takeConfirm", desc := "(JJ)I" } : MethodName) prog_2_method_6_code (5 : Nat) (Option.some ClassFile.FieldType.int)) ∈ xa := xa_t 792 (by decide +kernel) (by decide +kernel)
theorem xw794 : (Cond.methodLink "SecurePair$Endpoint" (216 : Nat) ({ cls := "SecurePair$Channel", name := "takeRefuse", desc := "()I" } : MethodName)) ∈ xa := xa_t 794 (by decide +kernel) (by decide +kernel)
theorem xw795 : (Cond.instanceMethod ({ cls := "SecurePair$Channel", name := "takeRefuse", desc := "()I" } : MethodName)) ∈ xa := xa_t 795 (by decide +kernel) (by decide +kernel)
theorem xw796 : (Cond.selects "SecurePair$Channel" ({ cls := "SecurePair$Channel", name := "takeRefuse", desc := "()I" } : MethodName) ({ cls := "SecurePair$Channel", name := "takeRefuse", desc := "()I" } : MethodName)) ∈ xa := xa_t 796 (by decide +kernel) (by decide +kernel)
theorem xw797 : (Cond.code ({ cls := "SecurePair$Channel", name := "takeRefuse", desc := "()I" } : MethodName) prog_2_method_7_code (1 : Nat) (Option.some ClassFile.FieldType.int)) ∈ xa := xa_t 797 (by decide +kernel) (by decide +kernel)
theorem xw806 : (Cond.methodLink "SecurePair$Endpoint" (219 : Nat) ({ cls := "SecurePair$Channel", name := "takeWindow", desc := "(J)I" } : MethodName)) ∈ xa := xa_t 806 (by decide +kernel) (by decide +kernel)
theorem xw807 : (Cond.instanceMethod ({ cls := "SecurePair$Channel", name := "takeWindow", desc := "(J)I" } : MethodName)) ∈ xa := xa_t 807 (by decide +kernel) (by decide +kernel)
theorem xw808 : (Cond.selects "SecurePair$Channel" ({ cls := "SecurePair$Channel", name := "takeWindow", desc := "(J)I" } : MethodName) ({ cls := "SecurePair$Channel", name := "takeWindow", desc := "(J)I" } : MethodName)) ∈ xa := xa_t 808 (by decide +kernel) (by decide +kernel)
theorem xw809 : (Cond.code ({ cls := "SecurePair$Channel", name := "takeWindow", desc := "(J)I" } : MethodName) prog_2_method_8_code (3 : Nat) (Option.some ClassFile.FieldType.int)) ∈ xa := xa_t 809 (by decide +kernel) (by decide +kernel)
theorem xw815 : (Cond.methodLink "SecurePair$Endpoint" (223 : Nat) ({ cls := "SecurePair$Channel", name := "takeData", desc := "(JJ)I" } : MethodName)) ∈ xa := xa_t 815 (by decide +kernel) (by decide +kernel)
theorem xw816 : (Cond.instanceMethod ({ cls := "SecurePair$Channel", name := "takeData", desc := "(JJ)I" } : MethodName)) ∈ xa := xa_t 816 (by decide +kernel) (by decide +kernel)
theorem xw817 : (Cond.selects "SecurePair$Channel" ({ cls := "SecurePair$Channel", name := "takeData", desc := "(JJ)I" } : MethodName) ({ cls := "SecurePair$Channel", name := "takeData", desc := "(JJ)I" } : MethodName)) ∈ xa := xa_t 817 (by decide +kernel) (by decide +kernel)
theorem xw818 : (Cond.code ({ cls := "SecurePair$Channel", name := "takeData", desc := "(JJ)I" } : MethodName) prog_2_method_9_code (5 : Nat) (Option.some ClassFile.FieldType.int)) ∈ xa := xa_t 818 (by decide +kernel) (by decide +kernel)
theorem xw825 : (Cond.methodLink "SecurePair$Endpoint" (226 : Nat) ({ cls := "SecurePair$Endpoint", name := "takeClose", desc := "(LSecurePair$Channel;)I" } : MethodName)) ∈ xa := xa_t 825 (by decide +kernel) (by decide +kernel)
theorem xw826 : (Cond.instanceMethod ({ cls := "SecurePair$Endpoint", name := "takeClose", desc := "(LSecurePair$Channel;)I" } : MethodName)) ∈ xa := xa_t 826 (by decide +kernel) (by decide +kernel)
theorem xw827 : (Cond.sameMethod "SecurePair$Endpoint" "SecurePair$Endpoint" "takeClose" "(LSecurePair$Channel;)I") ∈ xa := xa_t 827 (by decide +kernel) (by decide +kernel)
theorem xw828 : (Cond.selects "SecurePair$Client" ({ cls := "SecurePair$Endpoint", name := "takeClose", desc := "(LSecurePair$Channel;)I" } : MethodName) ({ cls := "SecurePair$Endpoint", name := "takeClose", desc := "(LSecurePair$Channel;)I" } : MethodName)) ∈ xa := xa_t 828 (by decide +kernel) (by decide +kernel)
theorem xw829 : (Cond.selects "SecurePair$Server" ({ cls := "SecurePair$Endpoint", name := "takeClose", desc := "(LSecurePair$Channel;)I" } : MethodName) ({ cls := "SecurePair$Endpoint", name := "takeClose", desc := "(LSecurePair$Channel;)I" } : MethodName)) ∈ xa := xa_t 829 (by decide +kernel) (by decide +kernel)
theorem xw830 : (Cond.code ({ cls := "SecurePair$Endpoint", name := "takeClose", desc := "(LSecurePair$Channel;)I" } : MethodName) prog_4_method_19_code (2 : Nat) (Option.some ClassFile.FieldType.int)) ∈ xa := xa_t 830 (by decide +kernel) (by decide +kernel)
def p_takeForChannel (B : Nat) (P : Nat) (σ : xb_St) : Int32 × xb_St := (if (σ.1 P 0) = (90 : Int32) then ((p_takeOpen B P σ).1, (p_takeOpen B P σ).2) else (xb_om (p_channelAt B (σ.2 P 1) σ) ((7 : Int32), σ) (fun K2 => (if (σ.1 P 0) = (91 : Int32) then ((p_Ch_confirm K2 (σ.2 P 2) (σ.2 P 3) σ).1, (p_Ch_confirm K2 (σ.2 P 2) (σ.2 P 3) σ).2) else (if (σ.1 P 0) = (92 : Int32) then ((p_Ch_refuse K2 σ).1, (p_Ch_refuse K2 σ).2) else (if (σ.1 P 0) = (93 : Int32) then ((p_Ch_window K2 (σ.2 P 2) σ).1, (p_Ch_window K2 (σ.2 P 2) σ).2) else (if (σ.1 P 0) = (94 : Int32) then ((p_Ch_data K2 (σ.2 P 2) (σ.2 P 3) σ).1, (p_Ch_data K2 (σ.2 P 2) (σ.2 P 3) σ).2) else ((p_takeClose B K2 σ).1, (p_takeClose B K2 σ).2))))))))
set_option maxHeartbeats 4000000 in
set_option maxRecDepth 100000 in
theorem c_Endpoint_takeForChannel (l : Launch) (D : va_G) (α : Nat → Nat) (κ : Nat → ClassId) (hα : xb_inj α 35) (σ : xb_St) (B : Nat) (P : Nat) (iB : sp_isEndpoint B) (iP : sp_isPacket P) (ok : sp_ok σ) : Met l y_Endpoint_takeForChannel w_Endpoint_takeForChannel ({ frames := 4, cells := 0, slots := 0, locals := 99 }) (va_Pc ([.ref (α B), .ref (α P)]) (sp_Pre D α κ σ)) (va_Qi (fun r (u : xb_St) => r = (p_takeForChannel B P σ).1 ∧ u = (p_takeForChannel B P σ).2) (sp_B D α κ) (xb_A α 35)) 0 0 (xb_A α 35) := by
  refine Met.ofW (cc := b_Endpoint_takeForChannel) (maxL := 3) (ret := (some .int)) (by decide) rfl ?_
  intro p e s m args below meth c s₁ B_ hml hv
  obtain ⟨rfl, hP, hK, hN⟩ := hv
  have hx := B_.exec
  have hb := B_.bytes
  have hr := B_.returns
  have hts := atoms_spec (ws := w_Endpoint_takeForChannel) B_.pre
  have ht : ∀ w ∈ xa, w.before _ s = true := fun w h => hts w (List.mem_cons_of_mem _ h)
  have hown : s.vm.findClass "SecurePair$Endpoint" = some m.cls := findClass_of_methodNamed B_.named
  have hlocks := B_.notSynchronized
  have hD := sp_D hα κ
  have hS : va_S (xb_A α 35) s.heap s.heap [] := va_S.rf
  have hlA := sp_lnA_is iB
  have hlD := sp_lnD_is iB
  have hln := sp_ln_ne iB
  have hl := lv_entry ([.ref (α B), .ref (α P)]) (n := 3) (Nat.le_of_ble_eq_true rfl)
  rw [lg_entry_eq]
  generalize (lg_sl ([.ref (α B), .ref (α P)]) ++ List.replicate (3 - (lg_sl ([.ref (α B), .ref (α P)])).length) Slot.unset).toArray = ls at hl ⊢
  have hl : lv_has ls 3 [(0, .ref (α B)), (1, .ref (α P))] := hl
  refine lv_aload_n hx hb d_Endpoint_takeForChannel_0 rfl (lv_at hl 1 rfl) ?_
  refine sp_g_Packet (v := .int (σ.1 P 0)) hx hb ht hown hK hP iP 0 (by decide) (ht _ xw62) (fun _ h_ => h_) rfl d_Endpoint_takeForChannel_1 ?_
  refine lv_bipush (v := 90) hx hb d_Endpoint_takeForChannel_4 (by decide) ?_
  refine lv_icmp_ne (tgt := 15) hx hb d_Endpoint_takeForChannel_6 (by decide) (fun c1 => ?_) (fun c1 => ?_)
  · skip
    refine lv_aload_n hx hb d_Endpoint_takeForChannel_15 rfl (lv_at hl 0 rfl) ?_
    refine lv_aload_n hx hb d_Endpoint_takeForChannel_16 rfl (lv_at hl 1 rfl) ?_
    refine sp_g_Packet (v := .long (σ.2 P 1)) hx hb ht hown hK hP iP 1 (by decide) (ht _ xw67) (fun _ h_ => h_) rfl d_Endpoint_takeForChannel_17 ?_
    refine sp_cq (sp_runE (n := 1) (As := [.long (σ.2 P 1)]) (rest := []) ⟨hx, hb, hml, hown, hts⟩ (c_Endpoint_channelAt l D α κ hα σ B (σ.2 P 1) iB) iB xw788 xw479 xw480 xw481 xw478 xw3 xw482 rfl rfl rfl (by decide +kernel) ⟨Nat.le_of_ble_eq_true rfl, Nat.le_of_ble_eq_true rfl⟩ hP hK hN rfl rfl hl.1 rfl (lv_room (Nat.le_of_ble_eq_true rfl)) d_Endpoint_takeForChannel_20 ⟨Nat.le_of_ble_eq_true rfl, Nat.le_of_ble_eq_true rfl⟩) hS (fun _ h_ => h_) (fun H locs hP hS => ?_)
    rcases c2 : (p_channelAt B (σ.2 P 1) σ) with _ | K2
    · skip
      refine lv_astore_nN (lv' := [(2, .null), (0, .ref (α B)), (1, .ref (α P))]) hx hb d_Endpoint_takeForChannel_23 rfl hl (by decide) rfl (fun ls hl => ?_)
      refine lv_aload_nN hx hb d_Endpoint_takeForChannel_24 rfl (lv_at hl 0 rfl) ?_
      refine lv_ifnonnullN hx hb d_Endpoint_takeForChannel_25 ?_
      refine lv_bipush (v := 7) hx hb d_Endpoint_takeForChannel_28 (by decide) ?_
      exact W.iret (v := (7 : Int32)) hx hb hr (fun t ht_ hW => ⟨⟨(7 : Int32), σ, rfl, ⟨congrArg Prod.fst (((by unfold p_takeForChannel; rw [if_neg c1, xb_om_none c2])) : ((7 : Int32), σ) = p_takeForChannel B P σ), congrArg Prod.snd (((by unfold p_takeForChannel; rw [if_neg c1, xb_om_none c2])) : ((7 : Int32), σ) = p_takeForChannel B P σ)⟩, by rw [sp_B, ht_]; exact hP⟩, hS.F ht_⟩) hS.2.2 d_Endpoint_takeForChannel_30
    · skip
      have iK2 := p_channelAt_is iB c2
      refine lv_astore_n (lv' := [(2, .ref (α K2)), (0, .ref (α B)), (1, .ref (α P))]) hx hb d_Endpoint_takeForChannel_23 rfl hl (by decide) rfl (fun ls hl => ?_)
      refine lv_aload_n hx hb d_Endpoint_takeForChannel_24 rfl (lv_at hl 0 rfl) ?_
      refine lv_ifnonnull (tgt := 31) hx hb d_Endpoint_takeForChannel_25 (by decide) ?_
      refine lv_aload_n hx hb d_Endpoint_takeForChannel_31 rfl (lv_at hl 2 rfl) ?_
      refine sp_g_Packet (v := .int (σ.1 P 0)) hx hb ht hown hK hP iP 0 (by decide) (ht _ xw62) (fun _ h_ => h_) rfl d_Endpoint_takeForChannel_32 ?_
      by_cases c3 : (σ.1 P 0) = (91 : Int32)
      · skip
        refine lv_tableIn (off := 29) (tgt := 64) hx hb d_Endpoint_takeForChannel_35 (by rw [c3]; decide) (by rw [c3]; decide) (by rw [c3]; rfl) (by decide) ?_
        refine lv_aload_n hx hb d_Endpoint_takeForChannel_64 rfl (lv_at hl 0 rfl) ?_
        refine lv_aload_n hx hb d_Endpoint_takeForChannel_65 rfl (lv_at hl 2 rfl) ?_
        refine sp_g_Packet (v := .long (σ.2 P 2)) hx hb ht hown hK hP iP 2 (by decide) (ht _ xw71) (fun _ h_ => h_) rfl d_Endpoint_takeForChannel_66 ?_
        refine lv_aload_n hx hb d_Endpoint_takeForChannel_69 rfl (lv_at hl 2 rfl) ?_
        refine sp_g_Packet (v := .long (σ.2 P 3)) hx hb ht hown hK hP iP 3 (by decide) (ht _ xw75) (fun _ h_ => h_) rfl d_Endpoint_takeForChannel_70 ?_
        refine sp_ci (va_runV (As := [.long (σ.2 P 2), .long (σ.2 P 3)]) (rest := []) ⟨hx, hb, hml, hown, hts⟩ (c_Channel_takeConfirm l D α κ hα σ K2 (σ.2 P 2) (σ.2 P 3) iK2) (cwV 2 hts (xa_V xw789 xw790 xw791 xw9 xw792) rfl rfl rfl (by decide +kernel) ⟨Nat.le_of_ble_eq_true rfl, Nat.le_of_ble_eq_true rfl⟩) ⟨sp_blind, va_recv hK hP rfl (sp_at_Channel iK2), sp_pre hP hK hN _⟩ rfl rfl hl.1 rfl (lv_room (Nat.le_of_ble_eq_true rfl)) d_Endpoint_takeForChannel_73 ⟨Nat.le_of_ble_eq_true rfl, Nat.le_of_ble_eq_true rfl⟩) hS (fun _ h_ => h_) (fun H locs hP hS => ?_)
        obtain ⟨τ1, hτ1⟩ : ∃ t_, t_ = (p_Ch_confirm K2 (σ.2 P 2) (σ.2 P 3) σ).2 := ⟨_, rfl⟩
        rw [← hτ1] at hP
        have okτ1 : sp_ok τ1 := by rw [hτ1]; exact (ok_p_Ch_confirm K2 (σ.2 P 2) (σ.2 P 3) iK2 ok)
        obtain ⟨ρ1, hρ1⟩ : ∃ r_, r_ = (p_Ch_confirm K2 (σ.2 P 2) (σ.2 P 3) σ).1 := ⟨_, rfl⟩
        refine xb_ti (y := ρ1) hρ1.symm ?_
        exact W.iret (v := ρ1) hx hb hr (fun t ht_ hW => ⟨⟨ρ1, τ1, rfl, ⟨congrArg Prod.fst (((by subst hρ1; subst hτ1; exact (by unfold p_takeForChannel; rw [if_neg c1, xb_om_some c2, if_pos c3]))) : (ρ1, τ1) = p_takeForChannel B P σ), congrArg Prod.snd (((by subst hρ1; subst hτ1; exact (by unfold p_takeForChannel; rw [if_neg c1, xb_om_some c2, if_pos c3]))) : (ρ1, τ1) = p_takeForChannel B P σ)⟩, by rw [sp_B, ht_]; exact hP⟩, hS.F ht_⟩) hS.2.2 d_Endpoint_takeForChannel_76
      · skip
        by_cases c4 : (σ.1 P 0) = (92 : Int32)
        · skip
          refine lv_tableIn (off := 42) (tgt := 77) hx hb d_Endpoint_takeForChannel_35 (by rw [c4]; decide) (by rw [c4]; decide) (by rw [c4]; rfl) (by decide) ?_
          refine lv_aload_n hx hb d_Endpoint_takeForChannel_77 rfl (lv_at hl 0 rfl) ?_
          refine sp_ci (va_runV (As := []) (rest := []) ⟨hx, hb, hml, hown, hts⟩ (c_Channel_takeRefuse l D α κ hα σ K2 iK2) (cwV 0 hts (xa_V xw794 xw795 xw796 xw9 xw797) rfl rfl rfl (by decide +kernel) ⟨Nat.le_of_ble_eq_true rfl, Nat.le_of_ble_eq_true rfl⟩) ⟨sp_blind, va_recv hK hP rfl (sp_at_Channel iK2), sp_pre hP hK hN _⟩ rfl rfl hl.1 rfl (lv_room (Nat.le_of_ble_eq_true rfl)) d_Endpoint_takeForChannel_78 ⟨Nat.le_of_ble_eq_true rfl, Nat.le_of_ble_eq_true rfl⟩) hS (fun _ h_ => h_) (fun H locs hP hS => ?_)
          obtain ⟨τ2, hτ2⟩ : ∃ t_, t_ = (p_Ch_refuse K2 σ).2 := ⟨_, rfl⟩
          rw [← hτ2] at hP
          have okτ2 : sp_ok τ2 := by rw [hτ2]; exact (ok_p_Ch_refuse K2 iK2 ok)
          obtain ⟨ρ2, hρ2⟩ : ∃ r_, r_ = (p_Ch_refuse K2 σ).1 := ⟨_, rfl⟩
          refine xb_ti (y := ρ2) hρ2.symm ?_
          exact W.iret (v := ρ2) hx hb hr (fun t ht_ hW => ⟨⟨ρ2, τ2, rfl, ⟨congrArg Prod.fst (((by subst hρ2; subst hτ2; exact (by unfold p_takeForChannel; rw [if_neg c1, xb_om_some c2, if_neg c3, if_pos c4]))) : (ρ2, τ2) = p_takeForChannel B P σ), congrArg Prod.snd (((by subst hρ2; subst hτ2; exact (by unfold p_takeForChannel; rw [if_neg c1, xb_om_some c2, if_neg c3, if_pos c4]))) : (ρ2, τ2) = p_takeForChannel B P σ)⟩, by rw [sp_B, ht_]; exact hP⟩, hS.F ht_⟩) hS.2.2 d_Endpoint_takeForChannel_81
        · skip
          by_cases c5 : (σ.1 P 0) = (93 : Int32)
          · skip
            refine lv_tableIn (off := 47) (tgt := 82) hx hb d_Endpoint_takeForChannel_35 (by rw [c5]; decide) (by rw [c5]; decide) (by rw [c5]; rfl) (by decide) ?_
            refine lv_aload_n hx hb d_Endpoint_takeForChannel_82 rfl (lv_at hl 0 rfl) ?_
            refine lv_aload_n hx hb d_Endpoint_takeForChannel_83 rfl (lv_at hl 2 rfl) ?_
            refine sp_g_Packet (v := .long (σ.2 P 2)) hx hb ht hown hK hP iP 2 (by decide) (ht _ xw71) (fun _ h_ => h_) rfl d_Endpoint_takeForChannel_84 ?_
            refine sp_ci (va_runV (As := [.long (σ.2 P 2)]) (rest := []) ⟨hx, hb, hml, hown, hts⟩ (c_Channel_takeWindow l D α κ hα σ K2 (σ.2 P 2) iK2) (cwV 1 hts (xa_V xw806 xw807 xw808 xw9 xw809) rfl rfl rfl (by decide +kernel) ⟨Nat.le_of_ble_eq_true rfl, Nat.le_of_ble_eq_true rfl⟩) ⟨sp_blind, va_recv hK hP rfl (sp_at_Channel iK2), sp_pre hP hK hN _⟩ rfl rfl hl.1 rfl (lv_room (Nat.le_of_ble_eq_true rfl)) d_Endpoint_takeForChannel_87 ⟨Nat.le_of_ble_eq_true rfl, Nat.le_of_ble_eq_true rfl⟩) hS (fun _ h_ => h_) (fun H locs hP hS => ?_)
            obtain ⟨τ3, hτ3⟩ : ∃ t_, t_ = (p_Ch_window K2 (σ.2 P 2) σ).2 := ⟨_, rfl⟩
            rw [← hτ3] at hP
            have okτ3 : sp_ok τ3 := by rw [hτ3]; exact (ok_p_Ch_window K2 (σ.2 P 2) iK2 ok)
            obtain ⟨ρ3, hρ3⟩ : ∃ r_, r_ = (p_Ch_window K2 (σ.2 P 2) σ).1 := ⟨_, rfl⟩
            refine xb_ti (y := ρ3) hρ3.symm ?_
            exact W.iret (v := ρ3) hx hb hr (fun t ht_ hW => ⟨⟨ρ3, τ3, rfl, ⟨congrArg Prod.fst (((by subst hρ3; subst hτ3; exact (by unfold p_takeForChannel; rw [if_neg c1, xb_om_some c2, if_neg c3, if_neg c4, if_pos c5]))) : (ρ3, τ3) = p_takeForChannel B P σ), congrArg Prod.snd (((by subst hρ3; subst hτ3; exact (by unfold p_takeForChannel; rw [if_neg c1, xb_om_some c2, if_neg c3, if_neg c4, if_pos c5]))) : (ρ3, τ3) = p_takeForChannel B P σ)⟩, by rw [sp_B, ht_]; exact hP⟩, hS.F ht_⟩) hS.2.2 d_Endpoint_takeForChannel_90
          · skip
            by_cases c6 : (σ.1 P 0) = (94 : Int32)
            · skip
              refine lv_tableIn (off := 56) (tgt := 91) hx hb d_Endpoint_takeForChannel_35 (by rw [c6]; decide) (by rw [c6]; decide) (by rw [c6]; rfl) (by decide) ?_
              refine lv_aload_n hx hb d_Endpoint_takeForChannel_91 rfl (lv_at hl 0 rfl) ?_
              refine lv_aload_n hx hb d_Endpoint_takeForChannel_92 rfl (lv_at hl 2 rfl) ?_
              refine sp_g_Packet (v := .long (σ.2 P 2)) hx hb ht hown hK hP iP 2 (by decide) (ht _ xw71) (fun _ h_ => h_) rfl d_Endpoint_takeForChannel_93 ?_
              refine lv_aload_n hx hb d_Endpoint_takeForChannel_96 rfl (lv_at hl 2 rfl) ?_
              refine sp_g_Packet (v := .long (σ.2 P 3)) hx hb ht hown hK hP iP 3 (by decide) (ht _ xw75) (fun _ h_ => h_) rfl d_Endpoint_takeForChannel_97 ?_
              refine sp_ci (va_runV (As := [.long (σ.2 P 2), .long (σ.2 P 3)]) (rest := []) ⟨hx, hb, hml, hown, hts⟩ (c_Channel_takeData l D α κ hα σ K2 (σ.2 P 2) (σ.2 P 3) iK2 ok) (cwV 2 hts (xa_V xw815 xw816 xw817 xw9 xw818) rfl rfl rfl (by decide +kernel) ⟨Nat.le_of_ble_eq_true rfl, Nat.le_of_ble_eq_true rfl⟩) ⟨sp_blind, va_recv hK hP rfl (sp_at_Channel iK2), sp_pre hP hK hN _⟩ rfl rfl hl.1 rfl (lv_room (Nat.le_of_ble_eq_true rfl)) d_Endpoint_takeForChannel_100 ⟨Nat.le_of_ble_eq_true rfl, Nat.le_of_ble_eq_true rfl⟩) hS (fun _ h_ => h_) (fun H locs hP hS => ?_)
              obtain ⟨τ4, hτ4⟩ : ∃ t_, t_ = (p_Ch_data K2 (σ.2 P 2) (σ.2 P 3) σ).2 := ⟨_, rfl⟩
              rw [← hτ4] at hP
              have okτ4 : sp_ok τ4 := by rw [hτ4]; exact (ok_p_Ch_data K2 (σ.2 P 2) (σ.2 P 3) iK2 ok)
              obtain ⟨ρ4, hρ4⟩ : ∃ r_, r_ = (p_Ch_data K2 (σ.2 P 2) (σ.2 P 3) σ).1 := ⟨_, rfl⟩
              refine xb_ti (y := ρ4) hρ4.symm ?_
              exact W.iret (v := ρ4) hx hb hr (fun t ht_ hW => ⟨⟨ρ4, τ4, rfl, ⟨congrArg Prod.fst (((by subst hρ4; subst hτ4; exact (by unfold p_takeForChannel; rw [if_neg c1, xb_om_some c2, if_neg c3, if_neg c4, if_neg c5, if_pos c6]))) : (ρ4, τ4) = p_takeForChannel B P σ), congrArg Prod.snd (((by subst hρ4; subst hτ4; exact (by unfold p_takeForChannel; rw [if_neg c1, xb_om_some c2, if_neg c3, if_neg c4, if_neg c5, if_pos c6]))) : (ρ4, τ4) = p_takeForChannel B P σ)⟩, by rw [sp_B, ht_]; exact hP⟩, hS.F ht_⟩) hS.2.2 d_Endpoint_takeForChannel_103
            · skip
              refine lv_tableOut (tgt := 104) hx hb d_Endpoint_takeForChannel_35 (by have q0 := lv_neT c3 (a := 91) rfl; have q1 := lv_neT c4 (a := 92) rfl; have q2 := lv_neT c5 (a := 93) rfl; have q3 := lv_neT c6 (a := 94) rfl; omega) (by decide) ?_
              refine lv_aload_n hx hb d_Endpoint_takeForChannel_104 rfl (lv_at hl 1 rfl) ?_
              refine lv_aload_n hx hb d_Endpoint_takeForChannel_105 rfl (lv_at hl 0 rfl) ?_
              refine sp_ci (sp_runE (n := 1) (As := [.ref (α K2)]) (rest := []) ⟨hx, hb, hml, hown, hts⟩ (c_Endpoint_takeClose l D α κ hα σ B K2 iB iK2 ok) iB xw825 xw827 xw828 xw829 xw826 xw3 xw830 rfl rfl rfl (by decide +kernel) ⟨Nat.le_of_ble_eq_true rfl, Nat.le_of_ble_eq_true rfl⟩ hP hK hN rfl rfl hl.1 rfl (lv_room (Nat.le_of_ble_eq_true rfl)) d_Endpoint_takeForChannel_106 ⟨Nat.le_of_ble_eq_true rfl, Nat.le_of_ble_eq_true rfl⟩) hS (fun _ h_ => h_) (fun H locs hP hS => ?_)
              obtain ⟨τ5, hτ5⟩ : ∃ t_, t_ = (p_takeClose B K2 σ).2 := ⟨_, rfl⟩
              rw [← hτ5] at hP
              have okτ5 : sp_ok τ5 := by rw [hτ5]; exact (ok_p_takeClose B K2 iB iK2 ok)
              obtain ⟨ρ5, hρ5⟩ : ∃ r_, r_ = (p_takeClose B K2 σ).1 := ⟨_, rfl⟩
              refine xb_ti (y := ρ5) hρ5.symm ?_
              exact W.iret (v := ρ5) hx hb hr (fun t ht_ hW => ⟨⟨ρ5, τ5, rfl, ⟨congrArg Prod.fst (((by subst hρ5; subst hτ5; exact (by unfold p_takeForChannel; rw [if_neg c1, xb_om_some c2, if_neg c3, if_neg c4, if_neg c5, if_neg c6]))) : (ρ5, τ5) = p_takeForChannel B P σ), congrArg Prod.snd (((by subst hρ5; subst hτ5; exact (by unfold p_takeForChannel; rw [if_neg c1, xb_om_some c2, if_neg c3, if_neg c4, if_neg c5, if_neg c6]))) : (ρ5, τ5) = p_takeForChannel B P σ)⟩, by rw [sp_B, ht_]; exact hP⟩, hS.F ht_⟩) hS.2.2 d_Endpoint_takeForChannel_109
  · skip
    refine lv_aload_n hx hb d_Endpoint_takeForChannel_9 rfl (lv_at hl 0 rfl) ?_
    refine lv_aload_n hx hb d_Endpoint_takeForChannel_10 rfl (lv_at hl 1 rfl) ?_
    refine sp_ci (sp_runE (n := 1) (As := [.ref (α P)]) (rest := []) ⟨hx, hb, hml, hown, hts⟩ (c_Endpoint_takeOpen l D α κ hα σ B P iB iP ok) iB xw771 xw773 xw774 xw775 xw772 xw3 xw776 rfl rfl rfl (by decide +kernel) ⟨Nat.le_of_ble_eq_true rfl, Nat.le_of_ble_eq_true rfl⟩ hP hK hN rfl rfl hl.1 rfl (lv_room (Nat.le_of_ble_eq_true rfl)) d_Endpoint_takeForChannel_11 ⟨Nat.le_of_ble_eq_true rfl, Nat.le_of_ble_eq_true rfl⟩) hS (fun _ h_ => h_) (fun H locs hP hS => ?_)
    obtain ⟨τ6, hτ6⟩ : ∃ t_, t_ = (p_takeOpen B P σ).2 := ⟨_, rfl⟩
    rw [← hτ6] at hP
    have okτ6 : sp_ok τ6 := by rw [hτ6]; exact (ok_p_takeOpen B P iB iP ok)
    obtain ⟨ρ6, hρ6⟩ : ∃ r_, r_ = (p_takeOpen B P σ).1 := ⟨_, rfl⟩
    refine xb_ti (y := ρ6) hρ6.symm ?_
    exact W.iret (v := ρ6) hx hb hr (fun t ht_ hW => ⟨⟨ρ6, τ6, rfl, ⟨congrArg Prod.fst (((by subst hρ6; subst hτ6; exact ((if_pos c1)).symm)) : (ρ6, τ6) = p_takeForChannel B P σ), congrArg Prod.snd (((by subst hρ6; subst hτ6; exact ((if_pos c1)).symm)) : (ρ6, τ6) = p_takeForChannel B P σ)⟩, by rw [sp_B, ht_]; exact hP⟩, hS.F ht_⟩) hS.2.2 d_Endpoint_takeForChannel_14
theorem ok_p_takeForChannel {σ : xb_St} (B : Nat) (P : Nat) (iB : sp_isEndpoint B) (iP : sp_isPacket P) (ok : sp_ok σ) : sp_ok (p_takeForChannel B P σ).2 := by
  have hlA := sp_lnA_is iB
  have hlD := sp_lnD_is iB
  have hln := sp_ln_ne iB
  unfold p_takeForChannel
  by_cases c1 : (σ.1 P 0) = (90 : Int32)
  · rw [if_pos c1]
    exact (ok_p_takeOpen B P iB iP ok)
  · rw [if_neg c1]
    rcases c2 : (p_channelAt B (σ.2 P 1) σ) with _ | K2
    · dsimp only [xb_om]
      exact ok
    · dsimp only [xb_om]
      have iK2 := p_channelAt_is iB c2
      by_cases c3 : (σ.1 P 0) = (91 : Int32)
      · rw [if_pos c3]
        exact (ok_p_Ch_confirm K2 (σ.2 P 2) (σ.2 P 3) iK2 ok)
      · rw [if_neg c3]
        by_cases c4 : (σ.1 P 0) = (92 : Int32)
        · rw [if_pos c4]
          exact (ok_p_Ch_refuse K2 iK2 ok)
        · rw [if_neg c4]
          by_cases c5 : (σ.1 P 0) = (93 : Int32)
          · rw [if_pos c5]
            exact (ok_p_Ch_window K2 (σ.2 P 2) iK2 ok)
          · rw [if_neg c5]
            by_cases c6 : (σ.1 P 0) = (94 : Int32)
            · rw [if_pos c6]
              exact (ok_p_Ch_data K2 (σ.2 P 2) (σ.2 P 3) iK2 ok)
            · rw [if_neg c6]
              exact (ok_p_takeClose B K2 iB iK2 ok)
abbrev b_Client_answerInit : ByteArray := prog_3_method_2_code
def y_Client_answerInit : MethodName := ⟨"SecurePair$Client", "answerInit", "()V"⟩
abbrev w_Client_answerInit : List Cond := .code y_Client_answerInit b_Client_answerInit 1 none :: xa
theorem d_Client_answerInit_0 : decode b_Client_answerInit 0 = .ok (.aload_n 0, 1) := by decide +kernel
theorem d_Client_answerInit_1 : decode b_Client_answerInit 1 = .ok (.bipush 30, 2) := by decide +kernel
theorem d_Client_answerInit_3 : decode b_Client_answerInit 3 = .ok (.aload_n 0, 1) := by decide +kernel
theorem d_Client_answerInit_4 : decode b_Client_answerInit 4 = .ok (.getfield 9, 3) := by decide +kernel
theorem d_Client_answerInit_7 : decode b_Client_answerInit 7 = .ok (.invokevirtual 15, 3) := by decide +kernel
theorem d_Client_answerInit_10 : decode b_Client_answerInit 10 = .ok (.lconst 0, 1) := by decide +kernel
theorem d_Client_answerInit_11 : decode b_Client_answerInit 11 = .ok (.lconst 0, 1) := by decide +kernel
theorem d_Client_answerInit_12 : decode b_Client_answerInit 12 = .ok (.lconst 0, 1) := by decide +kernel
theorem d_Client_answerInit_13 : decode b_Client_answerInit 13 = .ok (.invokevirtual 21, 3) := by decide +kernel
theorem d_Client_answerInit_16 : decode b_Client_answerInit 16 = .ok (.return_, 1) := by decide +kernel
theorem xw7 : (Cond.initialized "SecurePair$Exchange") ∈ xa := xa_t 7 (by decide +kernel) (by decide +kernel)
theorem xw240 : (Cond.fieldLink "SecurePair$Client" (9 : Nat) "SecurePair$Client" "exchange" "LSecurePair$Exchange;") ∈ xa := xa_t 240 (by decide +kernel) (by decide +kernel)
theorem xw241 : (Cond.sameField "SecurePair$Client" "SecurePair$Endpoint" "exchange" "LSecurePair$Exchange;") ∈ xa := xa_t 241 (by decide +kernel) (by decide +kernel)
theorem xw679 : (Cond.methodLink "SecurePair$Client" (15 : Nat) ({ cls := "SecurePair$Exchange", name := "share", desc := "()J" } : MethodName)) ∈ xa := xa_t 679 (by decide +kernel) (by decide +kernel)
theorem xw680 : (Cond.instanceMethod ({ cls := "SecurePair$Exchange", name := "share", desc := "()J" } : MethodName)) ∈ xa := xa_t 680 (by decide +kernel) (by decide +kernel)
theorem xw681 : (Cond.selects "SecurePair$Exchange" ({ cls := "SecurePair$Exchange", name := "share", desc := "()J" } : MethodName) ({ cls := "SecurePair$Exchange", name := "share", desc := "()J" } : MethodName)) ∈ xa := xa_t 681 (by decide +kernel) (by decide +kernel)
theorem xw682 : (Cond.code ({ cls := "SecurePair$Exchange", name := "share", desc := "()J" } : MethodName) prog_5_method_3_code (1 : Nat) (Option.some ClassFile.FieldType.long)) ∈ xa := xa_t 682 (by decide +kernel) (by decide +kernel)
theorem xw685 : (Cond.methodLink "SecurePair$Client" (21 : Nat) ({ cls := "SecurePair$Client", name := "send", desc := "(IJJJJ)V" } : MethodName)) ∈ xa := xa_t 685 (by decide +kernel) (by decide +kernel)
theorem xw686 : (Cond.sameMethod "SecurePair$Client" "SecurePair$Endpoint" "send" "(IJJJJ)V") ∈ xa := xa_t 686 (by decide +kernel) (by decide +kernel)
theorem xw688 : (Cond.selects "SecurePair$Client" ({ cls := "SecurePair$Client", name := "send", desc := "(IJJJJ)V" } : MethodName) ({ cls := "SecurePair$Endpoint", name := "send", desc := "(IJJJJ)V" } : MethodName)) ∈ xa := xa_t 688 (by decide +kernel) (by decide +kernel)
def p_Cl_answer (B : Nat) (σ : xb_St) : xb_St := (p_send B (30 : Int32) (p_Ex_share (B + 5) σ) (0 : Int64) (0 : Int64) (0 : Int64) σ)
set_option maxHeartbeats 4000000 in
set_option maxRecDepth 100000 in
theorem c_Client_answerInit (l : Launch) (D : va_G) (α : Nat → Nat) (κ : Nat → ClassId) (hα : xb_inj α 35) (σ : xb_St) (B : Nat) (iB : sp_isClient B) (ok : sp_ok σ) : Met l y_Client_answerInit w_Client_answerInit ({ frames := 3, cells := 0, slots := 0, locals := 77 }) (va_Pc ([.ref (α B)]) (sp_Pre D α κ σ)) (va_Qv (fun u : xb_St => u = p_Cl_answer B σ) (sp_B D α κ) (xb_A α 35)) 0 0 (xb_A α 35) := by
  refine Met.ofW (cc := b_Client_answerInit) (maxL := 1) (ret := none) (by decide) rfl ?_
  intro p e s m args below meth c s₁ B_ hml hv
  obtain ⟨rfl, hP, hK, hN⟩ := hv
  have hx := B_.exec
  have hb := B_.bytes
  have hr := B_.returns
  have hts := atoms_spec (ws := w_Client_answerInit) B_.pre
  have ht : ∀ w ∈ xa, w.before _ s = true := fun w h => hts w (List.mem_cons_of_mem _ h)
  have hown : s.vm.findClass "SecurePair$Client" = some m.cls := findClass_of_methodNamed B_.named
  have hlocks := B_.notSynchronized
  have hD := sp_D hα κ
  have hS : va_S (xb_A α 35) s.heap s.heap [] := va_S.rf
  have hl := lv_entry ([.ref (α B)]) (n := 1) (Nat.le_of_ble_eq_true rfl)
  rw [lg_entry_eq]
  generalize (lg_sl ([.ref (α B)]) ++ List.replicate (1 - (lg_sl ([.ref (α B)])).length) Slot.unset).toArray = ls at hl ⊢
  have hl : lv_has ls 1 [(0, .ref (α B))] := hl
  refine lv_aload_n hx hb d_Client_answerInit_0 rfl (lv_at hl 0 rfl) ?_
  refine lv_bipush (v := 30) hx hb d_Client_answerInit_1 (by decide) ?_
  refine lv_aload_n hx hb d_Client_answerInit_3 rfl (lv_at hl 0 rfl) ?_
  refine sp_g_Endpoint (v := .ref (α (B + 5))) hx hb ht hown hK hP (by omega) 7 (by decide) (ht _ xw240) (fun x9 h9 => u_same (ht _ xw241) x9 h9) rfl d_Client_answerInit_4 ?_
  refine sp_cl (va_runV (As := []) (rest := [.int (30 : Int32), .ref (α B)]) ⟨hx, hb, hml, hown, hts⟩ (c_Exchange_share l D α κ hα σ (B + 5) (by omega)) (cwV 0 hts (xa_V xw679 xw680 xw681 xw7 xw682) rfl rfl rfl (by decide +kernel) ⟨Nat.le_of_ble_eq_true rfl, Nat.le_of_ble_eq_true rfl⟩) ⟨sp_blind, va_recv hK hP rfl (sp_at_Exchange (by omega)), sp_pre hP hK hN _⟩ rfl rfl hl.1 rfl (lv_room (Nat.le_of_ble_eq_true rfl)) d_Client_answerInit_7 ⟨Nat.le_of_ble_eq_true rfl, Nat.le_of_ble_eq_true rfl⟩) hS (fun _ h_ => h_) (fun H locs hP hS => ?_)
  refine lv_lconst (v := 0) hx hb d_Client_answerInit_10 (by decide) ?_
  refine lv_lconst (v := 0) hx hb d_Client_answerInit_11 (by decide) ?_
  refine lv_lconst (v := 0) hx hb d_Client_answerInit_12 (by decide) ?_
  refine sp_cv (va_runU (As := [.int (30 : Int32), .long (p_Ex_share (B + 5) σ), .long (0 : Int64), .long (0 : Int64), .long (0 : Int64)]) (rest := []) ⟨hx, hb, hml, hown, hts⟩ (c_Endpoint_send l D α κ hα σ B (30 : Int32) (p_Ex_share (B + 5) σ) (0 : Int64) (0 : Int64) (0 : Int64) (by omega) ok) (va_cwU (C := "SecurePair$Client") (owner := "SecurePair$Endpoint") 5 hts (xa_U xw685 xw686 xw688 xw380 xw3 xw384) rfl rfl rfl rfl ⟨by decide, by decide, by decide +kernel⟩ ⟨Nat.le_of_ble_eq_true rfl, Nat.le_of_ble_eq_true rfl⟩) ⟨sp_blind, va_recv hK hP rfl (sp_at_Client iB), sp_pre hP hK hN _⟩ rfl rfl hl.1 rfl (lv_room (Nat.le_of_ble_eq_true rfl)) d_Client_answerInit_13 ⟨Nat.le_of_ble_eq_true rfl, Nat.le_of_ble_eq_true rfl⟩) hS (fun _ h_ => h_) (fun H locs hP hS => ?_)
  obtain ⟨τ1, hτ1⟩ : ∃ t_, t_ = (p_send B (30 : Int32) (p_Ex_share (B + 5) σ) (0 : Int64) (0 : Int64) (0 : Int64) σ) := ⟨_, rfl⟩
  rw [← hτ1] at hP
  have okτ1 : sp_ok τ1 := by rw [hτ1]; exact (ok_p_send B (30 : Int32) (p_Ex_share (B + 5) σ) (0 : Int64) (0 : Int64) (0 : Int64) (by omega) ok)
  exact W.vret hx hb hr (fun t ht_ hW => ⟨⟨τ1, rfl, (by subst hτ1; exact rfl), by rw [sp_B, ht_]; exact hP⟩, hS.F ht_⟩) hS.2.2 d_Client_answerInit_16
theorem ok_p_Cl_answer {σ : xb_St} (B : Nat) (iB : sp_isClient B) (ok : sp_ok σ) : sp_ok (p_Cl_answer B σ) := by
  unfold p_Cl_answer
  exact (ok_p_send B (30 : Int32) (p_Ex_share (B + 5) σ) (0 : Int64) (0 : Int64) (0 : Int64) (by omega) ok)
abbrev b_Server_answerInit : ByteArray := prog_10_method_2_code
def y_Server_answerInit : MethodName := ⟨"SecurePair$Server", "answerInit", "()V"⟩
abbrev w_Server_answerInit : List Cond := .code y_Server_answerInit b_Server_answerInit 1 none :: xa
theorem d_Server_answerInit_0 : decode b_Server_answerInit 0 = .ok (.return_, 1) := by decide +kernel
def p_Sv_answer (B : Nat) (σ : xb_St) : xb_St := σ
set_option maxHeartbeats 4000000 in
set_option maxRecDepth 100000 in
theorem c_Server_answerInit (l : Launch) (D : va_G) (α : Nat → Nat) (κ : Nat → ClassId) (hα : xb_inj α 35) (σ : xb_St) (B : Nat) (iB : sp_isServer B) : Met l y_Server_answerInit w_Server_answerInit ({ frames := 0, cells := 0, slots := 0, locals := 0 }) (va_Pc ([.ref (α B)]) (sp_Pre D α κ σ)) (va_Qv (fun u : xb_St => u = p_Sv_answer B σ) (sp_B D α κ) (xb_A α 35)) 0 0 (xb_A α 35) := by
  refine Met.ofW (cc := b_Server_answerInit) (maxL := 1) (ret := none) (by decide) rfl ?_
  intro p e s m args below meth c s₁ B_ hml hv
  obtain ⟨rfl, hP, hK, hN⟩ := hv
  have hx := B_.exec
  have hb := B_.bytes
  have hr := B_.returns
  have hts := atoms_spec (ws := w_Server_answerInit) B_.pre
  have ht : ∀ w ∈ xa, w.before _ s = true := fun w h => hts w (List.mem_cons_of_mem _ h)
  have hown : s.vm.findClass "SecurePair$Server" = some m.cls := findClass_of_methodNamed B_.named
  have hlocks := B_.notSynchronized
  have hD := sp_D hα κ
  have hS : va_S (xb_A α 35) s.heap s.heap [] := va_S.rf
  have hl := lv_entry ([.ref (α B)]) (n := 1) (Nat.le_of_ble_eq_true rfl)
  rw [lg_entry_eq]
  generalize (lg_sl ([.ref (α B)]) ++ List.replicate (1 - (lg_sl ([.ref (α B)])).length) Slot.unset).toArray = ls at hl ⊢
  have hl : lv_has ls 1 [(0, .ref (α B))] := hl
  exact W.vret hx hb hr (fun t ht_ hW => ⟨⟨σ, rfl, rfl, by rw [sp_B, ht_]; exact hP⟩, hS.F ht_⟩) hS.2.2 d_Server_answerInit_0
theorem ok_p_Sv_answer {σ : xb_St} (B : Nat) (iB : sp_isServer B) (ok : sp_ok σ) : sp_ok (p_Sv_answer B σ) := by
  unfold p_Sv_answer
  exact ok
abbrev b_Client_takeShare : ByteArray := prog_3_method_3_code
def y_Client_takeShare : MethodName := ⟨"SecurePair$Client", "takeShare", "(LSecurePair$Packet;)I"⟩
abbrev w_Client_takeShare : List Cond := .code y_Client_takeShare b_Client_takeShare 2 (some .int) :: xa
theorem d_Client_takeShare_0 : decode b_Client_takeShare 0 = .ok (.iconst 2, 1) := by decide +kernel
theorem d_Client_takeShare_1 : decode b_Client_takeShare 1 = .ok (.ireturn, 1) := by decide +kernel
def p_Cl_share (B : Nat) (P : Nat) (σ : xb_St) : Int32 × xb_St := ((2 : Int32), σ)
set_option maxHeartbeats 4000000 in
set_option maxRecDepth 100000 in
theorem c_Client_takeShare (l : Launch) (D : va_G) (α : Nat → Nat) (κ : Nat → ClassId) (hα : xb_inj α 35) (σ : xb_St) (B : Nat) (P : Nat) (iB : sp_isClient B) (iP : sp_isPacket P) : Met l y_Client_takeShare w_Client_takeShare ({ frames := 0, cells := 0, slots := 0, locals := 0 }) (va_Pc ([.ref (α B), .ref (α P)]) (sp_Pre D α κ σ)) (va_Qi (fun r (u : xb_St) => r = (p_Cl_share B P σ).1 ∧ u = (p_Cl_share B P σ).2) (sp_B D α κ) (xb_A α 35)) 0 0 (xb_A α 35) := by
  refine Met.ofW (cc := b_Client_takeShare) (maxL := 2) (ret := (some .int)) (by decide) rfl ?_
  intro p e s m args below meth c s₁ B_ hml hv
  obtain ⟨rfl, hP, hK, hN⟩ := hv
  have hx := B_.exec
  have hb := B_.bytes
  have hr := B_.returns
  have hts := atoms_spec (ws := w_Client_takeShare) B_.pre
  have ht : ∀ w ∈ xa, w.before _ s = true := fun w h => hts w (List.mem_cons_of_mem _ h)
  have hown : s.vm.findClass "SecurePair$Client" = some m.cls := findClass_of_methodNamed B_.named
  have hlocks := B_.notSynchronized
  have hD := sp_D hα κ
  have hS : va_S (xb_A α 35) s.heap s.heap [] := va_S.rf
  have hl := lv_entry ([.ref (α B), .ref (α P)]) (n := 2) (Nat.le_of_ble_eq_true rfl)
  rw [lg_entry_eq]
  generalize (lg_sl ([.ref (α B), .ref (α P)]) ++ List.replicate (2 - (lg_sl ([.ref (α B), .ref (α P)])).length) Slot.unset).toArray = ls at hl ⊢
  have hl : lv_has ls 2 [(0, .ref (α B)), (1, .ref (α P))] := hl
  refine lv_iconst (v := 2) hx hb d_Client_takeShare_0 (by decide) ?_
  exact W.iret (v := (2 : Int32)) hx hb hr (fun t ht_ hW => ⟨⟨(2 : Int32), σ, rfl, ⟨congrArg Prod.fst ((rfl) : ((2 : Int32), σ) = p_Cl_share B P σ), congrArg Prod.snd ((rfl) : ((2 : Int32), σ) = p_Cl_share B P σ)⟩, by rw [sp_B, ht_]; exact hP⟩, hS.F ht_⟩) hS.2.2 d_Client_takeShare_1
theorem ok_p_Cl_share {σ : xb_St} (B : Nat) (P : Nat) (iB : sp_isClient B) (iP : sp_isPacket P) (ok : sp_ok σ) : sp_ok (p_Cl_share B P σ).2 := by
  unfold p_Cl_share
  exact ok
abbrev b_Server_takeReply : ByteArray := prog_10_method_4_code
def y_Server_takeReply : MethodName := ⟨"SecurePair$Server", "takeReply", "(LSecurePair$Packet;)I"⟩
abbrev w_Server_takeReply : List Cond := .code y_Server_takeReply b_Server_takeReply 2 (some .int) :: xa
theorem d_Server_takeReply_0 : decode b_Server_takeReply 0 = .ok (.iconst 2, 1) := by decide +kernel
theorem d_Server_takeReply_1 : decode b_Server_takeReply 1 = .ok (.ireturn, 1) := by decide +kernel
def p_Sv_reply (B : Nat) (P : Nat) (σ : xb_St) : Int32 × xb_St := ((2 : Int32), σ)
set_option maxHeartbeats 4000000 in
set_option maxRecDepth 100000 in
theorem c_Server_takeReply (l : Launch) (D : va_G) (α : Nat → Nat) (κ : Nat → ClassId) (hα : xb_inj α 35) (σ : xb_St) (B : Nat) (P : Nat) (iB : sp_isServer B) (iP : sp_isPacket P) : Met l y_Server_takeReply w_Server_takeReply ({ frames := 0, cells := 0, slots := 0, locals := 0 }) (va_Pc ([.ref (α B), .ref (α P)]) (sp_Pre D α κ σ)) (va_Qi (fun r (u : xb_St) => r = (p_Sv_reply B P σ).1 ∧ u = (p_Sv_reply B P σ).2) (sp_B D α κ) (xb_A α 35)) 0 0 (xb_A α 35) := by
  refine Met.ofW (cc := b_Server_takeReply) (maxL := 2) (ret := (some .int)) (by decide) rfl ?_
  intro p e s m args below meth c s₁ B_ hml hv
  obtain ⟨rfl, hP, hK, hN⟩ := hv
  have hx := B_.exec
  have hb := B_.bytes
  have hr := B_.returns
  have hts := atoms_spec (ws := w_Server_takeReply) B_.pre
  have ht : ∀ w ∈ xa, w.before _ s = true := fun w h => hts w (List.mem_cons_of_mem _ h)
  have hown : s.vm.findClass "SecurePair$Server" = some m.cls := findClass_of_methodNamed B_.named
  have hlocks := B_.notSynchronized
  have hD := sp_D hα κ
  have hS : va_S (xb_A α 35) s.heap s.heap [] := va_S.rf
  have hl := lv_entry ([.ref (α B), .ref (α P)]) (n := 2) (Nat.le_of_ble_eq_true rfl)
  rw [lg_entry_eq]
  generalize (lg_sl ([.ref (α B), .ref (α P)]) ++ List.replicate (2 - (lg_sl ([.ref (α B), .ref (α P)])).length) Slot.unset).toArray = ls at hl ⊢
  have hl : lv_has ls 2 [(0, .ref (α B)), (1, .ref (α P))] := hl
  refine lv_iconst (v := 2) hx hb d_Server_takeReply_0 (by decide) ?_
  exact W.iret (v := (2 : Int32)) hx hb hr (fun t ht_ hW => ⟨⟨(2 : Int32), σ, rfl, ⟨congrArg Prod.fst ((rfl) : ((2 : Int32), σ) = p_Sv_reply B P σ), congrArg Prod.snd ((rfl) : ((2 : Int32), σ) = p_Sv_reply B P σ)⟩, by rw [sp_B, ht_]; exact hP⟩, hS.F ht_⟩) hS.2.2 d_Server_takeReply_1
theorem ok_p_Sv_reply {σ : xb_St} (B : Nat) (P : Nat) (iB : sp_isServer B) (iP : sp_isPacket P) (ok : sp_ok σ) : sp_ok (p_Sv_reply B P σ).2 := by
  unfold p_Sv_reply
  exact ok
abbrev b_Client_takeReply : ByteArray := prog_3_method_4_code
def y_Client_takeReply : MethodName := ⟨"SecurePair$Client", "takeReply", "(LSecurePair$Packet;)I"⟩
abbrev w_Client_takeReply : List Cond := .code y_Client_takeReply b_Client_takeReply 2 (some .int) :: xa
theorem d_Client_takeReply_0 : decode b_Client_takeReply 0 = .ok (.aload_n 0, 1) := by decide +kernel
theorem d_Client_takeReply_1 : decode b_Client_takeReply 1 = .ok (.getfield 25, 3) := by decide +kernel
theorem d_Client_takeReply_4 : decode b_Client_takeReply 4 = .ok (.iconst 2, 1) := by decide +kernel
theorem d_Client_takeReply_5 : decode b_Client_takeReply 5 = .ok (.if_icmp .eq 5, 3) := by decide +kernel
theorem d_Client_takeReply_8 : decode b_Client_takeReply 8 = .ok (.iconst 2, 1) := by decide +kernel
theorem d_Client_takeReply_9 : decode b_Client_takeReply 9 = .ok (.ireturn, 1) := by decide +kernel
theorem d_Client_takeReply_10 : decode b_Client_takeReply 10 = .ok (.aload_n 1, 1) := by decide +kernel
theorem d_Client_takeReply_11 : decode b_Client_takeReply 11 = .ok (.getfield 29, 3) := by decide +kernel
theorem d_Client_takeReply_14 : decode b_Client_takeReply 14 = .ok (.invokestatic 35, 3) := by decide +kernel
theorem d_Client_takeReply_17 : decode b_Client_takeReply 17 = .ok (.ifCond .ne 5, 3) := by decide +kernel
theorem d_Client_takeReply_20 : decode b_Client_takeReply 20 = .ok (.iconst 3, 1) := by decide +kernel
theorem d_Client_takeReply_21 : decode b_Client_takeReply 21 = .ok (.ireturn, 1) := by decide +kernel
theorem d_Client_takeReply_22 : decode b_Client_takeReply 22 = .ok (.aload_n 0, 1) := by decide +kernel
theorem d_Client_takeReply_23 : decode b_Client_takeReply 23 = .ok (.getfield 39, 3) := by decide +kernel
theorem d_Client_takeReply_26 : decode b_Client_takeReply 26 = .ok (.ifCond .eq 19, 3) := by decide +kernel
theorem d_Client_takeReply_29 : decode b_Client_takeReply 29 = .ok (.aload_n 1, 1) := by decide +kernel
theorem d_Client_takeReply_30 : decode b_Client_takeReply 30 = .ok (.getfield 42, 3) := by decide +kernel
theorem d_Client_takeReply_33 : decode b_Client_takeReply 33 = .ok (.aload_n 0, 1) := by decide +kernel
theorem d_Client_takeReply_34 : decode b_Client_takeReply 34 = .ok (.getfield 39, 3) := by decide +kernel
theorem d_Client_takeReply_37 : decode b_Client_takeReply 37 = .ok (.i2l, 1) := by decide +kernel
theorem d_Client_takeReply_38 : decode b_Client_takeReply 38 = .ok (.lcmp, 1) := by decide +kernel
theorem d_Client_takeReply_39 : decode b_Client_takeReply 39 = .ok (.ifCond .eq 6, 3) := by decide +kernel
theorem d_Client_takeReply_42 : decode b_Client_takeReply 42 = .ok (.bipush 9, 2) := by decide +kernel
theorem d_Client_takeReply_44 : decode b_Client_takeReply 44 = .ok (.ireturn, 1) := by decide +kernel
theorem d_Client_takeReply_45 : decode b_Client_takeReply 45 = .ok (.aload_n 0, 1) := by decide +kernel
theorem d_Client_takeReply_46 : decode b_Client_takeReply 46 = .ok (.getfield 9, 3) := by decide +kernel
theorem d_Client_takeReply_49 : decode b_Client_takeReply 49 = .ok (.aload_n 1, 1) := by decide +kernel
theorem d_Client_takeReply_50 : decode b_Client_takeReply 50 = .ok (.getfield 42, 3) := by decide +kernel
theorem d_Client_takeReply_53 : decode b_Client_takeReply 53 = .ok (.aload_n 0, 1) := by decide +kernel
theorem d_Client_takeReply_54 : decode b_Client_takeReply 54 = .ok (.getfield 9, 3) := by decide +kernel
theorem d_Client_takeReply_57 : decode b_Client_takeReply 57 = .ok (.invokevirtual 15, 3) := by decide +kernel
theorem d_Client_takeReply_60 : decode b_Client_takeReply 60 = .ok (.aload_n 1, 1) := by decide +kernel
theorem d_Client_takeReply_61 : decode b_Client_takeReply 61 = .ok (.getfield 29, 3) := by decide +kernel
theorem d_Client_takeReply_64 : decode b_Client_takeReply 64 = .ok (.aload_n 1, 1) := by decide +kernel
theorem d_Client_takeReply_65 : decode b_Client_takeReply 65 = .ok (.getfield 29, 3) := by decide +kernel
theorem d_Client_takeReply_68 : decode b_Client_takeReply 68 = .ok (.invokevirtual 45, 3) := by decide +kernel
theorem d_Client_takeReply_71 : decode b_Client_takeReply 71 = .ok (.aload_n 1, 1) := by decide +kernel
theorem d_Client_takeReply_72 : decode b_Client_takeReply 72 = .ok (.getfield 42, 3) := by decide +kernel
theorem d_Client_takeReply_75 : decode b_Client_takeReply 75 = .ok (.aload_n 1, 1) := by decide +kernel
theorem d_Client_takeReply_76 : decode b_Client_takeReply 76 = .ok (.getfield 49, 3) := by decide +kernel
theorem d_Client_takeReply_79 : decode b_Client_takeReply 79 = .ok (.aload_n 1, 1) := by decide +kernel
theorem d_Client_takeReply_80 : decode b_Client_takeReply 80 = .ok (.getfield 52, 3) := by decide +kernel
theorem d_Client_takeReply_83 : decode b_Client_takeReply 83 = .ok (.aload_n 0, 1) := by decide +kernel
theorem d_Client_takeReply_84 : decode b_Client_takeReply 84 = .ok (.getfield 9, 3) := by decide +kernel
theorem d_Client_takeReply_87 : decode b_Client_takeReply 87 = .ok (.getfield 55, 3) := by decide +kernel
theorem d_Client_takeReply_90 : decode b_Client_takeReply 90 = .ok (.invokestatic 58, 3) := by decide +kernel
theorem d_Client_takeReply_93 : decode b_Client_takeReply 93 = .ok (.ifCond .ne 5, 3) := by decide +kernel
theorem d_Client_takeReply_96 : decode b_Client_takeReply 96 = .ok (.iconst 4, 1) := by decide +kernel
theorem d_Client_takeReply_97 : decode b_Client_takeReply 97 = .ok (.ireturn, 1) := by decide +kernel
theorem d_Client_takeReply_98 : decode b_Client_takeReply 98 = .ok (.aload_n 0, 1) := by decide +kernel
theorem d_Client_takeReply_99 : decode b_Client_takeReply 99 = .ok (.invokevirtual 62, 3) := by decide +kernel
theorem d_Client_takeReply_102 : decode b_Client_takeReply 102 = .ok (.iconst 0, 1) := by decide +kernel
theorem d_Client_takeReply_103 : decode b_Client_takeReply 103 = .ok (.ireturn, 1) := by decide +kernel
theorem xw65 : (Cond.fieldLink "SecurePair$Client" (42 : Nat) "SecurePair$Packet" "w" "J") ∈ xa := xa_t 65 (by decide +kernel) (by decide +kernel)
theorem xw69 : (Cond.fieldLink "SecurePair$Client" (29 : Nat) "SecurePair$Packet" "x" "J") ∈ xa := xa_t 69 (by decide +kernel) (by decide +kernel)
theorem xw74 : (Cond.fieldLink "SecurePair$Client" (49 : Nat) "SecurePair$Packet" "y" "J") ∈ xa := xa_t 74 (by decide +kernel) (by decide +kernel)
theorem xw78 : (Cond.fieldLink "SecurePair$Client" (52 : Nat) "SecurePair$Packet" "z" "J") ∈ xa := xa_t 78 (by decide +kernel) (by decide +kernel)
theorem xw166 : (Cond.fieldLink "SecurePair$Client" (55 : Nat) "SecurePair$Exchange" "hash" "J") ∈ xa := xa_t 166 (by decide +kernel) (by decide +kernel)
theorem xw227 : (Cond.fieldLink "SecurePair$Client" (39 : Nat) "SecurePair$Client" "trusted" "I") ∈ xa := xa_t 227 (by decide +kernel) (by decide +kernel)
theorem xw248 : (Cond.fieldLink "SecurePair$Client" (25 : Nat) "SecurePair$Client" "phase" "I") ∈ xa := xa_t 248 (by decide +kernel) (by decide +kernel)
theorem xw249 : (Cond.sameField "SecurePair$Client" "SecurePair$Endpoint" "phase" "I") ∈ xa := xa_t 249 (by decide +kernel) (by decide +kernel)
theorem xw702 : (Cond.static ({ cls := "SecurePair", name := "isShare", desc := "(J)Z" } : MethodName)) ∈ xa := xa_t 702 (by decide +kernel) (by decide +kernel)
theorem xw703 : (Cond.code ({ cls := "SecurePair", name := "isShare", desc := "(J)Z" } : MethodName) prog_1_method_31_code (2 : Nat) (Option.some ClassFile.FieldType.boolean)) ∈ xa := xa_t 703 (by decide +kernel) (by decide +kernel)
theorem xw710 : (Cond.instanceMethod ({ cls := "SecurePair$Exchange", name := "agree", desc := "(JJJJ)V" } : MethodName)) ∈ xa := xa_t 710 (by decide +kernel) (by decide +kernel)
theorem xw711 : (Cond.selects "SecurePair$Exchange" ({ cls := "SecurePair$Exchange", name := "agree", desc := "(JJJJ)V" } : MethodName) ({ cls := "SecurePair$Exchange", name := "agree", desc := "(JJJJ)V" } : MethodName)) ∈ xa := xa_t 711 (by decide +kernel) (by decide +kernel)
theorem xw712 : (Cond.code ({ cls := "SecurePair$Exchange", name := "agree", desc := "(JJJJ)V" } : MethodName) prog_5_method_4_code (11 : Nat) (Option.none : Option ClassFile.FieldType)) ∈ xa := xa_t 712 (by decide +kernel) (by decide +kernel)
theorem xw732 : (Cond.instanceMethod ({ cls := "SecurePair$Endpoint", name := "turn", desc := "()V" } : MethodName)) ∈ xa := xa_t 732 (by decide +kernel) (by decide +kernel)
theorem xw733 : (Cond.code ({ cls := "SecurePair$Endpoint", name := "turn", desc := "()V" } : MethodName) prog_4_method_15_code (1 : Nat) (Option.none : Option ClassFile.FieldType)) ∈ xa := xa_t 733 (by decide +kernel) (by decide +kernel)
theorem xw745 : (Cond.methodLink "SecurePair$Client" (45 : Nat) ({ cls := "SecurePair$Exchange", name := "agree", desc := "(JJJJ)V" } : MethodName)) ∈ xa := xa_t 745 (by decide +kernel) (by decide +kernel)
theorem xw747 : (Cond.static ({ cls := "SecurePair", name := "verifies", desc := "(JJJJ)Z" } : MethodName)) ∈ xa := xa_t 747 (by decide +kernel) (by decide +kernel)
theorem xw748 : (Cond.code ({ cls := "SecurePair", name := "verifies", desc := "(JJJJ)Z" } : MethodName) prog_1_method_39_code (8 : Nat) (Option.some ClassFile.FieldType.boolean)) ∈ xa := xa_t 748 (by decide +kernel) (by decide +kernel)
theorem xw753 : (Cond.methodLink "SecurePair$Client" (62 : Nat) ({ cls := "SecurePair$Client", name := "turn", desc := "()V" } : MethodName)) ∈ xa := xa_t 753 (by decide +kernel) (by decide +kernel)
theorem xw754 : (Cond.sameMethod "SecurePair$Client" "SecurePair$Endpoint" "turn" "()V") ∈ xa := xa_t 754 (by decide +kernel) (by decide +kernel)
theorem xw755 : (Cond.selects "SecurePair$Client" ({ cls := "SecurePair$Client", name := "turn", desc := "()V" } : MethodName) ({ cls := "SecurePair$Endpoint", name := "turn", desc := "()V" } : MethodName)) ∈ xa := xa_t 755 (by decide +kernel) (by decide +kernel)
def p_Cl_reply (B : Nat) (P : Nat) (σ : xb_St) : Int32 × xb_St := (if (σ.1 B 9) = (2 : Int32) then (if (f_isShare (σ.2 P 2)) = 0 then ((3 : Int32), σ) else (if (σ.1 B 17) = 0 then (if (f_verifies ((p_Ex_agree (B + 5) (σ.2 P 1) (p_Ex_share (B + 5) σ) (σ.2 P 2) (σ.2 P 2) σ).2 P 1) ((p_Ex_agree (B + 5) (σ.2 P 1) (p_Ex_share (B + 5) σ) (σ.2 P 2) (σ.2 P 2) σ).2 P 3) ((p_Ex_agree (B + 5) (σ.2 P 1) (p_Ex_share (B + 5) σ) (σ.2 P 2) (σ.2 P 2) σ).2 P 4) ((p_Ex_agree (B + 5) (σ.2 P 1) (p_Ex_share (B + 5) σ) (σ.2 P 2) (σ.2 P 2) σ).2 (B + 5) 6)) = 0 then ((4 : Int32), (p_Ex_agree (B + 5) (σ.2 P 1) (p_Ex_share (B + 5) σ) (σ.2 P 2) (σ.2 P 2) σ)) else ((0 : Int32), (p_turn B (p_Ex_agree (B + 5) (σ.2 P 1) (p_Ex_share (B + 5) σ) (σ.2 P 2) (σ.2 P 2) σ)))) else (if (σ.2 P 1) = (σ.1 B 17).toInt64 then (if (f_verifies ((p_Ex_agree (B + 5) (σ.2 P 1) (p_Ex_share (B + 5) σ) (σ.2 P 2) (σ.2 P 2) σ).2 P 1) ((p_Ex_agree (B + 5) (σ.2 P 1) (p_Ex_share (B + 5) σ) (σ.2 P 2) (σ.2 P 2) σ).2 P 3) ((p_Ex_agree (B + 5) (σ.2 P 1) (p_Ex_share (B + 5) σ) (σ.2 P 2) (σ.2 P 2) σ).2 P 4) ((p_Ex_agree (B + 5) (σ.2 P 1) (p_Ex_share (B + 5) σ) (σ.2 P 2) (σ.2 P 2) σ).2 (B + 5) 6)) = 0 then ((4 : Int32), (p_Ex_agree (B + 5) (σ.2 P 1) (p_Ex_share (B + 5) σ) (σ.2 P 2) (σ.2 P 2) σ)) else ((0 : Int32), (p_turn B (p_Ex_agree (B + 5) (σ.2 P 1) (p_Ex_share (B + 5) σ) (σ.2 P 2) (σ.2 P 2) σ)))) else ((9 : Int32), σ)))) else ((2 : Int32), σ))
set_option maxHeartbeats 4000000 in
set_option maxRecDepth 100000 in
theorem c_Client_takeReply (l : Launch) (D : va_G) (α : Nat → Nat) (κ : Nat → ClassId) (hα : xb_inj α 35) (σ : xb_St) (B : Nat) (P : Nat) (iB : sp_isClient B) (iP : sp_isPacket P) (ok : sp_ok σ) : Met l y_Client_takeReply w_Client_takeReply ({ frames := 4, cells := 0, slots := 0, locals := 97 }) (va_Pc ([.ref (α B), .ref (α P)]) (sp_Pre D α κ σ)) (va_Qi (fun r (u : xb_St) => r = (p_Cl_reply B P σ).1 ∧ u = (p_Cl_reply B P σ).2) (sp_B D α κ) (xb_A α 35)) 0 0 (xb_A α 35) := by
  refine Met.ofW (cc := b_Client_takeReply) (maxL := 2) (ret := (some .int)) (by decide) rfl ?_
  intro p e s m args below meth c s₁ B_ hml hv
  obtain ⟨rfl, hP, hK, hN⟩ := hv
  have hx := B_.exec
  have hb := B_.bytes
  have hr := B_.returns
  have hts := atoms_spec (ws := w_Client_takeReply) B_.pre
  have ht : ∀ w ∈ xa, w.before _ s = true := fun w h => hts w (List.mem_cons_of_mem _ h)
  have hown : s.vm.findClass "SecurePair$Client" = some m.cls := findClass_of_methodNamed B_.named
  have hlocks := B_.notSynchronized
  have hD := sp_D hα κ
  have hS : va_S (xb_A α 35) s.heap s.heap [] := va_S.rf
  have hl := lv_entry ([.ref (α B), .ref (α P)]) (n := 2) (Nat.le_of_ble_eq_true rfl)
  rw [lg_entry_eq]
  generalize (lg_sl ([.ref (α B), .ref (α P)]) ++ List.replicate (2 - (lg_sl ([.ref (α B), .ref (α P)])).length) Slot.unset).toArray = ls at hl ⊢
  have hl : lv_has ls 2 [(0, .ref (α B)), (1, .ref (α P))] := hl
  refine lv_aload_n hx hb d_Client_takeReply_0 rfl (lv_at hl 0 rfl) ?_
  refine sp_g_Endpoint (v := .int (σ.1 B 9)) hx hb ht hown hK hP (by omega) 9 (by decide) (ht _ xw248) (fun x9 h9 => u_same (ht _ xw249) x9 h9) rfl d_Client_takeReply_1 ?_
  refine lv_iconst (v := 2) hx hb d_Client_takeReply_4 (by decide) ?_
  refine lv_icmp_eq (tgt := 10) hx hb d_Client_takeReply_5 (by decide) (fun c1 => ?_) (fun c1 => ?_)
  · skip
    refine lv_aload_n hx hb d_Client_takeReply_10 rfl (lv_at hl 1 rfl) ?_
    refine sp_g_Packet (v := .long (σ.2 P 2)) hx hb ht hown hK hP iP 2 (by decide) (ht _ xw69) (fun _ h_ => h_) rfl d_Client_takeReply_11 ?_
    refine vp_callSi (va_runSN (As := [.long (σ.2 P 2)]) (rest := []) ⟨hx, hb, hml, hown, hts⟩ (c_P_isShare l (σ.2 P 2)) ⟨va_cnB 1 hts (xa_g xw703) rfl rfl rfl (hN.at 13 rfl) (ht _ xw1) (by decide +kernel) ⟨Nat.le_of_ble_eq_true rfl, Nat.le_of_ble_eq_true rfl⟩, ht _ xw702, trivial⟩ preEq rfl rfl hl.1 rfl (lv_room (Nat.le_of_ble_eq_true rfl)) d_Client_takeReply_14 ⟨Nat.le_of_ble_eq_true rfl, Nat.le_of_ble_eq_true rfl⟩).run (fun r_ e_ => ?_)
    subst e_
    refine lv_if_ne (tgt := 22) hx hb d_Client_takeReply_17 (by decide) (fun c2 => ?_) (fun c2 => ?_)
    · skip
      refine lv_aload_n hx hb d_Client_takeReply_22 rfl (lv_at hl 0 rfl) ?_
      refine sp_g_Client (v := .int (σ.1 B 17)) hx hb ht hown hK hP iB 17 (by decide) (ht _ xw227) (fun _ h_ => h_) rfl d_Client_takeReply_23 ?_
      refine lv_if_eq (tgt := 45) hx hb d_Client_takeReply_26 (by decide) (fun c3 => ?_) (fun c3 => ?_)
      · skip
        refine lv_aload_n hx hb d_Client_takeReply_45 rfl (lv_at hl 0 rfl) ?_
        refine sp_g_Endpoint (v := .ref (α (B + 5))) hx hb ht hown hK hP (by omega) 7 (by decide) (ht _ xw240) (fun x9 h9 => u_same (ht _ xw241) x9 h9) rfl d_Client_takeReply_46 ?_
        refine lv_aload_n hx hb d_Client_takeReply_49 rfl (lv_at hl 1 rfl) ?_
        refine sp_g_Packet (v := .long (σ.2 P 1)) hx hb ht hown hK hP iP 1 (by decide) (ht _ xw65) (fun _ h_ => h_) rfl d_Client_takeReply_50 ?_
        refine lv_aload_n hx hb d_Client_takeReply_53 rfl (lv_at hl 0 rfl) ?_
        refine sp_g_Endpoint (v := .ref (α (B + 5))) hx hb ht hown hK hP (by omega) 7 (by decide) (ht _ xw240) (fun x9 h9 => u_same (ht _ xw241) x9 h9) rfl d_Client_takeReply_54 ?_
        refine sp_cl (va_runV (As := []) (rest := [.long (σ.2 P 1), .ref (α (B + 5))]) ⟨hx, hb, hml, hown, hts⟩ (c_Exchange_share l D α κ hα σ (B + 5) (by omega)) (cwV 0 hts (xa_V xw679 xw680 xw681 xw7 xw682) rfl rfl rfl (by decide +kernel) ⟨Nat.le_of_ble_eq_true rfl, Nat.le_of_ble_eq_true rfl⟩) ⟨sp_blind, va_recv hK hP rfl (sp_at_Exchange (by omega)), sp_pre hP hK hN _⟩ rfl rfl hl.1 rfl (lv_room (Nat.le_of_ble_eq_true rfl)) d_Client_takeReply_57 ⟨Nat.le_of_ble_eq_true rfl, Nat.le_of_ble_eq_true rfl⟩) hS (fun _ h_ => h_) (fun H locs hP hS => ?_)
        refine lv_aload_n hx hb d_Client_takeReply_60 rfl (lv_at hl 1 rfl) ?_
        refine sp_g_Packet (v := .long (σ.2 P 2)) hx hb ht hown hK hP iP 2 (by decide) (ht _ xw69) (fun _ h_ => h_) rfl d_Client_takeReply_61 ?_
        refine lv_aload_n hx hb d_Client_takeReply_64 rfl (lv_at hl 1 rfl) ?_
        refine sp_g_Packet (v := .long (σ.2 P 2)) hx hb ht hown hK hP iP 2 (by decide) (ht _ xw69) (fun _ h_ => h_) rfl d_Client_takeReply_65 ?_
        refine sp_cv (va_runV (As := [.long (σ.2 P 1), .long (p_Ex_share (B + 5) σ), .long (σ.2 P 2), .long (σ.2 P 2)]) (rest := []) ⟨hx, hb, hml, hown, hts⟩ (c_Exchange_agree l D α κ hα σ (B + 5) (σ.2 P 1) (p_Ex_share (B + 5) σ) (σ.2 P 2) (σ.2 P 2) (by omega)) (cwV 4 hts (xa_V xw745 xw710 xw711 xw7 xw712) rfl rfl rfl (by decide +kernel) ⟨Nat.le_of_ble_eq_true rfl, Nat.le_of_ble_eq_true rfl⟩) ⟨sp_blind, va_recv hK hP rfl (sp_at_Exchange (by omega)), sp_pre hP hK hN _⟩ rfl rfl hl.1 rfl (lv_room (Nat.le_of_ble_eq_true rfl)) d_Client_takeReply_68 ⟨Nat.le_of_ble_eq_true rfl, Nat.le_of_ble_eq_true rfl⟩) hS (fun _ h_ => h_) (fun H locs hP hS => ?_)
        obtain ⟨τ1, hτ1⟩ : ∃ t_, t_ = (p_Ex_agree (B + 5) (σ.2 P 1) (p_Ex_share (B + 5) σ) (σ.2 P 2) (σ.2 P 2) σ) := ⟨_, rfl⟩
        rw [← hτ1] at hP
        have okτ1 : sp_ok τ1 := by rw [hτ1]; exact (ok_p_Ex_agree (B + 5) (σ.2 P 1) (p_Ex_share (B + 5) σ) (σ.2 P 2) (σ.2 P 2) (by omega) ok)
        refine lv_aload_n hx hb d_Client_takeReply_71 rfl (lv_at hl 1 rfl) ?_
        refine sp_g_Packet (v := .long (τ1.2 P 1)) hx hb ht hown hK hP iP 1 (by decide) (ht _ xw65) (fun _ h_ => h_) rfl d_Client_takeReply_72 ?_
        refine lv_aload_n hx hb d_Client_takeReply_75 rfl (lv_at hl 1 rfl) ?_
        refine sp_g_Packet (v := .long (τ1.2 P 3)) hx hb ht hown hK hP iP 3 (by decide) (ht _ xw74) (fun _ h_ => h_) rfl d_Client_takeReply_76 ?_
        refine lv_aload_n hx hb d_Client_takeReply_79 rfl (lv_at hl 1 rfl) ?_
        refine sp_g_Packet (v := .long (τ1.2 P 4)) hx hb ht hown hK hP iP 4 (by decide) (ht _ xw78) (fun _ h_ => h_) rfl d_Client_takeReply_80 ?_
        refine lv_aload_n hx hb d_Client_takeReply_83 rfl (lv_at hl 0 rfl) ?_
        refine sp_g_Endpoint (v := .ref (α (B + 5))) hx hb ht hown hK hP (by omega) 7 (by decide) (ht _ xw240) (fun x9 h9 => u_same (ht _ xw241) x9 h9) rfl d_Client_takeReply_84 ?_
        refine sp_g_Exchange (v := .long (τ1.2 (B + 5) 6)) hx hb ht hown hK hP (by omega) 6 (by decide) (ht _ xw166) (fun _ h_ => h_) rfl d_Client_takeReply_87 ?_
        refine vp_callSi (va_runSN (As := [.long (τ1.2 P 1), .long (τ1.2 P 3), .long (τ1.2 P 4), .long (τ1.2 (B + 5) 6)]) (rest := []) ⟨hx, hb, hml, hown, hts⟩ (c_P_verifies l (τ1.2 P 1) (τ1.2 P 3) (τ1.2 P 4) (τ1.2 (B + 5) 6)) ⟨va_cnB 4 hts (xa_g xw748) rfl rfl rfl (hN.at 14 rfl) (ht _ xw1) (by decide +kernel) ⟨Nat.le_of_ble_eq_true rfl, Nat.le_of_ble_eq_true rfl⟩, ht _ xw747, trivial⟩ preEq rfl rfl hl.1 rfl (lv_room (Nat.le_of_ble_eq_true rfl)) d_Client_takeReply_90 ⟨Nat.le_of_ble_eq_true rfl, Nat.le_of_ble_eq_true rfl⟩).run (fun r_ e_ => ?_)
        subst e_
        refine lv_if_ne (tgt := 98) hx hb d_Client_takeReply_93 (by decide) (fun c4 => ?_) (fun c4 => ?_)
        · skip
          refine lv_aload_n hx hb d_Client_takeReply_98 rfl (lv_at hl 0 rfl) ?_
          refine sp_cv (va_runU (As := []) (rest := []) ⟨hx, hb, hml, hown, hts⟩ (c_Endpoint_turn l D α κ hα τ1 B (by omega) okτ1) (va_cwU (C := "SecurePair$Client") (owner := "SecurePair$Endpoint") 0 hts (xa_U xw753 xw754 xw755 xw732 xw3 xw733) rfl rfl rfl rfl ⟨by decide, by decide, by decide +kernel⟩ ⟨Nat.le_of_ble_eq_true rfl, Nat.le_of_ble_eq_true rfl⟩) ⟨sp_blind, va_recv hK hP rfl (sp_at_Client iB), sp_pre hP hK hN _⟩ rfl rfl hl.1 rfl (lv_room (Nat.le_of_ble_eq_true rfl)) d_Client_takeReply_99 ⟨Nat.le_of_ble_eq_true rfl, Nat.le_of_ble_eq_true rfl⟩) hS (fun _ h_ => h_) (fun H locs hP hS => ?_)
          obtain ⟨τ2, hτ2⟩ : ∃ t_, t_ = (p_turn B τ1) := ⟨_, rfl⟩
          rw [← hτ2] at hP
          have okτ2 : sp_ok τ2 := by rw [hτ2]; exact (ok_p_turn B (by omega) okτ1)
          refine lv_iconst (v := 0) hx hb d_Client_takeReply_102 (by decide) ?_
          exact W.iret (v := (0 : Int32)) hx hb hr (fun t ht_ hW => ⟨⟨(0 : Int32), τ2, rfl, ⟨congrArg Prod.fst (((by subst hτ2; subst hτ1; exact ((if_pos c1).trans ((if_neg c2).trans ((if_pos c3).trans ((if_neg c4))))).symm)) : ((0 : Int32), τ2) = p_Cl_reply B P σ), congrArg Prod.snd (((by subst hτ2; subst hτ1; exact ((if_pos c1).trans ((if_neg c2).trans ((if_pos c3).trans ((if_neg c4))))).symm)) : ((0 : Int32), τ2) = p_Cl_reply B P σ)⟩, by rw [sp_B, ht_]; exact hP⟩, hS.F ht_⟩) hS.2.2 d_Client_takeReply_103
        · skip
          refine lv_iconst (v := 4) hx hb d_Client_takeReply_96 (by decide) ?_
          exact W.iret (v := (4 : Int32)) hx hb hr (fun t ht_ hW => ⟨⟨(4 : Int32), τ1, rfl, ⟨congrArg Prod.fst (((by subst hτ1; exact ((if_pos c1).trans ((if_neg c2).trans ((if_pos c3).trans ((if_pos c4))))).symm)) : ((4 : Int32), τ1) = p_Cl_reply B P σ), congrArg Prod.snd (((by subst hτ1; exact ((if_pos c1).trans ((if_neg c2).trans ((if_pos c3).trans ((if_pos c4))))).symm)) : ((4 : Int32), τ1) = p_Cl_reply B P σ)⟩, by rw [sp_B, ht_]; exact hP⟩, hS.F ht_⟩) hS.2.2 d_Client_takeReply_97
      · skip
        refine lv_aload_n hx hb d_Client_takeReply_29 rfl (lv_at hl 1 rfl) ?_
        refine sp_g_Packet (v := .long (σ.2 P 1)) hx hb ht hown hK hP iP 1 (by decide) (ht _ xw65) (fun _ h_ => h_) rfl d_Client_takeReply_30 ?_
        refine lv_aload_n hx hb d_Client_takeReply_33 rfl (lv_at hl 0 rfl) ?_
        refine sp_g_Client (v := .int (σ.1 B 17)) hx hb ht hown hK hP iB 17 (by decide) (ht _ xw227) (fun _ h_ => h_) rfl d_Client_takeReply_34 ?_
        refine lv_i2l (v := (σ.1 B 17).toInt64) hx hb d_Client_takeReply_37 (by rfl) ?_
        refine xb_leq (tgt := 45) hx hb d_Client_takeReply_38 d_Client_takeReply_39 (by decide) (fun c5 => ?_) (fun c5 => ?_)
        · skip
          refine lv_aload_n hx hb d_Client_takeReply_45 rfl (lv_at hl 0 rfl) ?_
          refine sp_g_Endpoint (v := .ref (α (B + 5))) hx hb ht hown hK hP (by omega) 7 (by decide) (ht _ xw240) (fun x9 h9 => u_same (ht _ xw241) x9 h9) rfl d_Client_takeReply_46 ?_
          refine lv_aload_n hx hb d_Client_takeReply_49 rfl (lv_at hl 1 rfl) ?_
          refine sp_g_Packet (v := .long (σ.2 P 1)) hx hb ht hown hK hP iP 1 (by decide) (ht _ xw65) (fun _ h_ => h_) rfl d_Client_takeReply_50 ?_
          refine lv_aload_n hx hb d_Client_takeReply_53 rfl (lv_at hl 0 rfl) ?_
          refine sp_g_Endpoint (v := .ref (α (B + 5))) hx hb ht hown hK hP (by omega) 7 (by decide) (ht _ xw240) (fun x9 h9 => u_same (ht _ xw241) x9 h9) rfl d_Client_takeReply_54 ?_
          refine sp_cl (va_runV (As := []) (rest := [.long (σ.2 P 1), .ref (α (B + 5))]) ⟨hx, hb, hml, hown, hts⟩ (c_Exchange_share l D α κ hα σ (B + 5) (by omega)) (cwV 0 hts (xa_V xw679 xw680 xw681 xw7 xw682) rfl rfl rfl (by decide +kernel) ⟨Nat.le_of_ble_eq_true rfl, Nat.le_of_ble_eq_true rfl⟩) ⟨sp_blind, va_recv hK hP rfl (sp_at_Exchange (by omega)), sp_pre hP hK hN _⟩ rfl rfl hl.1 rfl (lv_room (Nat.le_of_ble_eq_true rfl)) d_Client_takeReply_57 ⟨Nat.le_of_ble_eq_true rfl, Nat.le_of_ble_eq_true rfl⟩) hS (fun _ h_ => h_) (fun H locs hP hS => ?_)
          refine lv_aload_n hx hb d_Client_takeReply_60 rfl (lv_at hl 1 rfl) ?_
          refine sp_g_Packet (v := .long (σ.2 P 2)) hx hb ht hown hK hP iP 2 (by decide) (ht _ xw69) (fun _ h_ => h_) rfl d_Client_takeReply_61 ?_
          refine lv_aload_n hx hb d_Client_takeReply_64 rfl (lv_at hl 1 rfl) ?_
          refine sp_g_Packet (v := .long (σ.2 P 2)) hx hb ht hown hK hP iP 2 (by decide) (ht _ xw69) (fun _ h_ => h_) rfl d_Client_takeReply_65 ?_
          refine sp_cv (va_runV (As := [.long (σ.2 P 1), .long (p_Ex_share (B + 5) σ), .long (σ.2 P 2), .long (σ.2 P 2)]) (rest := []) ⟨hx, hb, hml, hown, hts⟩ (c_Exchange_agree l D α κ hα σ (B + 5) (σ.2 P 1) (p_Ex_share (B + 5) σ) (σ.2 P 2) (σ.2 P 2) (by omega)) (cwV 4 hts (xa_V xw745 xw710 xw711 xw7 xw712) rfl rfl rfl (by decide +kernel) ⟨Nat.le_of_ble_eq_true rfl, Nat.le_of_ble_eq_true rfl⟩) ⟨sp_blind, va_recv hK hP rfl (sp_at_Exchange (by omega)), sp_pre hP hK hN _⟩ rfl rfl hl.1 rfl (lv_room (Nat.le_of_ble_eq_true rfl)) d_Client_takeReply_68 ⟨Nat.le_of_ble_eq_true rfl, Nat.le_of_ble_eq_true rfl⟩) hS (fun _ h_ => h_) (fun H locs hP hS => ?_)
          obtain ⟨τ3, hτ3⟩ : ∃ t_, t_ = (p_Ex_agree (B + 5) (σ.2 P 1) (p_Ex_share (B + 5) σ) (σ.2 P 2) (σ.2 P 2) σ) := ⟨_, rfl⟩
          rw [← hτ3] at hP
          have okτ3 : sp_ok τ3 := by rw [hτ3]; exact (ok_p_Ex_agree (B + 5) (σ.2 P 1) (p_Ex_share (B + 5) σ) (σ.2 P 2) (σ.2 P 2) (by omega) ok)
          refine lv_aload_n hx hb d_Client_takeReply_71 rfl (lv_at hl 1 rfl) ?_
          refine sp_g_Packet (v := .long (τ3.2 P 1)) hx hb ht hown hK hP iP 1 (by decide) (ht _ xw65) (fun _ h_ => h_) rfl d_Client_takeReply_72 ?_
          refine lv_aload_n hx hb d_Client_takeReply_75 rfl (lv_at hl 1 rfl) ?_
          refine sp_g_Packet (v := .long (τ3.2 P 3)) hx hb ht hown hK hP iP 3 (by decide) (ht _ xw74) (fun _ h_ => h_) rfl d_Client_takeReply_76 ?_
          refine lv_aload_n hx hb d_Client_takeReply_79 rfl (lv_at hl 1 rfl) ?_
          refine sp_g_Packet (v := .long (τ3.2 P 4)) hx hb ht hown hK hP iP 4 (by decide) (ht _ xw78) (fun _ h_ => h_) rfl d_Client_takeReply_80 ?_
          refine lv_aload_n hx hb d_Client_takeReply_83 rfl (lv_at hl 0 rfl) ?_
          refine sp_g_Endpoint (v := .ref (α (B + 5))) hx hb ht hown hK hP (by omega) 7 (by decide) (ht _ xw240) (fun x9 h9 => u_same (ht _ xw241) x9 h9) rfl d_Client_takeReply_84 ?_
          refine sp_g_Exchange (v := .long (τ3.2 (B + 5) 6)) hx hb ht hown hK hP (by omega) 6 (by decide) (ht _ xw166) (fun _ h_ => h_) rfl d_Client_takeReply_87 ?_
          refine vp_callSi (va_runSN (As := [.long (τ3.2 P 1), .long (τ3.2 P 3), .long (τ3.2 P 4), .long (τ3.2 (B + 5) 6)]) (rest := []) ⟨hx, hb, hml, hown, hts⟩ (c_P_verifies l (τ3.2 P 1) (τ3.2 P 3) (τ3.2 P 4) (τ3.2 (B + 5) 6)) ⟨va_cnB 4 hts (xa_g xw748) rfl rfl rfl (hN.at 14 rfl) (ht _ xw1) (by decide +kernel) ⟨Nat.le_of_ble_eq_true rfl, Nat.le_of_ble_eq_true rfl⟩, ht _ xw747, trivial⟩ preEq rfl rfl hl.1 rfl (lv_room (Nat.le_of_ble_eq_true rfl)) d_Client_takeReply_90 ⟨Nat.le_of_ble_eq_true rfl, Nat.le_of_ble_eq_true rfl⟩).run (fun r_ e_ => ?_)
          subst e_
          refine lv_if_ne (tgt := 98) hx hb d_Client_takeReply_93 (by decide) (fun c6 => ?_) (fun c6 => ?_)
          · skip
            refine lv_aload_n hx hb d_Client_takeReply_98 rfl (lv_at hl 0 rfl) ?_
            refine sp_cv (va_runU (As := []) (rest := []) ⟨hx, hb, hml, hown, hts⟩ (c_Endpoint_turn l D α κ hα τ3 B (by omega) okτ3) (va_cwU (C := "SecurePair$Client") (owner := "SecurePair$Endpoint") 0 hts (xa_U xw753 xw754 xw755 xw732 xw3 xw733) rfl rfl rfl rfl ⟨by decide, by decide, by decide +kernel⟩ ⟨Nat.le_of_ble_eq_true rfl, Nat.le_of_ble_eq_true rfl⟩) ⟨sp_blind, va_recv hK hP rfl (sp_at_Client iB), sp_pre hP hK hN _⟩ rfl rfl hl.1 rfl (lv_room (Nat.le_of_ble_eq_true rfl)) d_Client_takeReply_99 ⟨Nat.le_of_ble_eq_true rfl, Nat.le_of_ble_eq_true rfl⟩) hS (fun _ h_ => h_) (fun H locs hP hS => ?_)
            obtain ⟨τ4, hτ4⟩ : ∃ t_, t_ = (p_turn B τ3) := ⟨_, rfl⟩
            rw [← hτ4] at hP
            have okτ4 : sp_ok τ4 := by rw [hτ4]; exact (ok_p_turn B (by omega) okτ3)
            refine lv_iconst (v := 0) hx hb d_Client_takeReply_102 (by decide) ?_
            exact W.iret (v := (0 : Int32)) hx hb hr (fun t ht_ hW => ⟨⟨(0 : Int32), τ4, rfl, ⟨congrArg Prod.fst (((by subst hτ4; subst hτ3; exact ((if_pos c1).trans ((if_neg c2).trans ((if_neg c3).trans ((if_pos c5).trans ((if_neg c6)))))).symm)) : ((0 : Int32), τ4) = p_Cl_reply B P σ), congrArg Prod.snd (((by subst hτ4; subst hτ3; exact ((if_pos c1).trans ((if_neg c2).trans ((if_neg c3).trans ((if_pos c5).trans ((if_neg c6)))))).symm)) : ((0 : Int32), τ4) = p_Cl_reply B P σ)⟩, by rw [sp_B, ht_]; exact hP⟩, hS.F ht_⟩) hS.2.2 d_Client_takeReply_103
          · skip
            refine lv_iconst (v := 4) hx hb d_Client_takeReply_96 (by decide) ?_
            exact W.iret (v := (4 : Int32)) hx hb hr (fun t ht_ hW => ⟨⟨(4 : Int32), τ3, rfl, ⟨congrArg Prod.fst (((by subst hτ3; exact ((if_pos c1).trans ((if_neg c2).trans ((if_neg c3).trans ((if_pos c5).trans ((if_pos c6)))))).symm)) : ((4 : Int32), τ3) = p_Cl_reply B P σ), congrArg Prod.snd (((by subst hτ3; exact ((if_pos c1).trans ((if_neg c2).trans ((if_neg c3).trans ((if_pos c5).trans ((if_pos c6)))))).symm)) : ((4 : Int32), τ3) = p_Cl_reply B P σ)⟩, by rw [sp_B, ht_]; exact hP⟩, hS.F ht_⟩) hS.2.2 d_Client_takeReply_97
        · skip
          refine lv_bipush (v := 9) hx hb d_Client_takeReply_42 (by decide) ?_
          exact W.iret (v := (9 : Int32)) hx hb hr (fun t ht_ hW => ⟨⟨(9 : Int32), σ, rfl, ⟨congrArg Prod.fst ((((if_pos c1).trans ((if_neg c2).trans ((if_neg c3).trans ((if_neg c5))))).symm) : ((9 : Int32), σ) = p_Cl_reply B P σ), congrArg Prod.snd ((((if_pos c1).trans ((if_neg c2).trans ((if_neg c3).trans ((if_neg c5))))).symm) : ((9 : Int32), σ) = p_Cl_reply B P σ)⟩, by rw [sp_B, ht_]; exact hP⟩, hS.F ht_⟩) hS.2.2 d_Client_takeReply_44
    · skip
      refine lv_iconst (v := 3) hx hb d_Client_takeReply_20 (by decide) ?_
      exact W.iret (v := (3 : Int32)) hx hb hr (fun t ht_ hW => ⟨⟨(3 : Int32), σ, rfl, ⟨congrArg Prod.fst ((((if_pos c1).trans ((if_pos c2))).symm) : ((3 : Int32), σ) = p_Cl_reply B P σ), congrArg Prod.snd ((((if_pos c1).trans ((if_pos c2))).symm) : ((3 : Int32), σ) = p_Cl_reply B P σ)⟩, by rw [sp_B, ht_]; exact hP⟩, hS.F ht_⟩) hS.2.2 d_Client_takeReply_21
  · skip
    refine lv_iconst (v := 2) hx hb d_Client_takeReply_8 (by decide) ?_
    exact W.iret (v := (2 : Int32)) hx hb hr (fun t ht_ hW => ⟨⟨(2 : Int32), σ, rfl, ⟨congrArg Prod.fst ((((if_neg c1)).symm) : ((2 : Int32), σ) = p_Cl_reply B P σ), congrArg Prod.snd ((((if_neg c1)).symm) : ((2 : Int32), σ) = p_Cl_reply B P σ)⟩, by rw [sp_B, ht_]; exact hP⟩, hS.F ht_⟩) hS.2.2 d_Client_takeReply_9
theorem ok_p_Cl_reply {σ : xb_St} (B : Nat) (P : Nat) (iB : sp_isClient B) (iP : sp_isPacket P) (ok : sp_ok σ) : sp_ok (p_Cl_reply B P σ).2 := by
  unfold p_Cl_reply
  by_cases c1 : (σ.1 B 9) = (2 : Int32)
  · rw [if_pos c1]
    by_cases c2 : (f_isShare (σ.2 P 2)) = 0
    · rw [if_pos c2]
      exact ok
    · rw [if_neg c2]
      by_cases c3 : (σ.1 B 17) = 0
      · rw [if_pos c3]
        by_cases c4 : (f_verifies ((p_Ex_agree (B + 5) (σ.2 P 1) (p_Ex_share (B + 5) σ) (σ.2 P 2) (σ.2 P 2) σ).2 P 1) ((p_Ex_agree (B + 5) (σ.2 P 1) (p_Ex_share (B + 5) σ) (σ.2 P 2) (σ.2 P 2) σ).2 P 3) ((p_Ex_agree (B + 5) (σ.2 P 1) (p_Ex_share (B + 5) σ) (σ.2 P 2) (σ.2 P 2) σ).2 P 4) ((p_Ex_agree (B + 5) (σ.2 P 1) (p_Ex_share (B + 5) σ) (σ.2 P 2) (σ.2 P 2) σ).2 (B + 5) 6)) = 0
        · rw [if_pos c4]
          exact (ok_p_Ex_agree (B + 5) (σ.2 P 1) (p_Ex_share (B + 5) σ) (σ.2 P 2) (σ.2 P 2) (by omega) ok)
        · rw [if_neg c4]
          exact (ok_p_turn B (by omega) (ok_p_Ex_agree (B + 5) (σ.2 P 1) (p_Ex_share (B + 5) σ) (σ.2 P 2) (σ.2 P 2) (by omega) ok))
      · rw [if_neg c3]
        by_cases c5 : (σ.2 P 1) = (σ.1 B 17).toInt64
        · rw [if_pos c5]
          by_cases c6 : (f_verifies ((p_Ex_agree (B + 5) (σ.2 P 1) (p_Ex_share (B + 5) σ) (σ.2 P 2) (σ.2 P 2) σ).2 P 1) ((p_Ex_agree (B + 5) (σ.2 P 1) (p_Ex_share (B + 5) σ) (σ.2 P 2) (σ.2 P 2) σ).2 P 3) ((p_Ex_agree (B + 5) (σ.2 P 1) (p_Ex_share (B + 5) σ) (σ.2 P 2) (σ.2 P 2) σ).2 P 4) ((p_Ex_agree (B + 5) (σ.2 P 1) (p_Ex_share (B + 5) σ) (σ.2 P 2) (σ.2 P 2) σ).2 (B + 5) 6)) = 0
          · rw [if_pos c6]
            exact (ok_p_Ex_agree (B + 5) (σ.2 P 1) (p_Ex_share (B + 5) σ) (σ.2 P 2) (σ.2 P 2) (by omega) ok)
          · rw [if_neg c6]
            exact (ok_p_turn B (by omega) (ok_p_Ex_agree (B + 5) (σ.2 P 1) (p_Ex_share (B + 5) σ) (σ.2 P 2) (σ.2 P 2) (by omega) ok))
        · rw [if_neg c5]
          exact ok
  · rw [if_neg c1]
    exact ok
abbrev b_Server_takeShare : ByteArray := prog_10_method_3_code
def y_Server_takeShare : MethodName := ⟨"SecurePair$Server", "takeShare", "(LSecurePair$Packet;)I"⟩
abbrev w_Server_takeShare : List Cond := .code y_Server_takeShare b_Server_takeShare 10 (some .int) :: xa
theorem d_Server_takeShare_0 : decode b_Server_takeShare 0 = .ok (.aload_n 0, 1) := by decide +kernel
theorem d_Server_takeShare_1 : decode b_Server_takeShare 1 = .ok (.getfield 15, 3) := by decide +kernel
theorem d_Server_takeShare_4 : decode b_Server_takeShare 4 = .ok (.iconst 2, 1) := by decide +kernel
theorem d_Server_takeShare_5 : decode b_Server_takeShare 5 = .ok (.if_icmp .eq 5, 3) := by decide +kernel
theorem d_Server_takeShare_8 : decode b_Server_takeShare 8 = .ok (.iconst 2, 1) := by decide +kernel
theorem d_Server_takeShare_9 : decode b_Server_takeShare 9 = .ok (.ireturn, 1) := by decide +kernel
theorem d_Server_takeShare_10 : decode b_Server_takeShare 10 = .ok (.aload_n 1, 1) := by decide +kernel
theorem d_Server_takeShare_11 : decode b_Server_takeShare 11 = .ok (.getfield 18, 3) := by decide +kernel
theorem d_Server_takeShare_14 : decode b_Server_takeShare 14 = .ok (.invokestatic 24, 3) := by decide +kernel
theorem d_Server_takeShare_17 : decode b_Server_takeShare 17 = .ok (.ifCond .ne 5, 3) := by decide +kernel
theorem d_Server_takeShare_20 : decode b_Server_takeShare 20 = .ok (.iconst 3, 1) := by decide +kernel
theorem d_Server_takeShare_21 : decode b_Server_takeShare 21 = .ok (.ireturn, 1) := by decide +kernel
theorem d_Server_takeShare_22 : decode b_Server_takeShare 22 = .ok (.ldc2_w 28, 3) := by decide +kernel
theorem d_Server_takeShare_25 : decode b_Server_takeShare 25 = .ok (.aload_n 0, 1) := by decide +kernel
theorem d_Server_takeShare_26 : decode b_Server_takeShare 26 = .ok (.getfield 9, 3) := by decide +kernel
theorem d_Server_takeShare_29 : decode b_Server_takeShare 29 = .ok (.i2l, 1) := by decide +kernel
theorem d_Server_takeShare_30 : decode b_Server_takeShare 30 = .ok (.invokestatic 30, 3) := by decide +kernel
theorem d_Server_takeShare_33 : decode b_Server_takeShare 33 = .ok (.lstore_n 2, 1) := by decide +kernel
theorem d_Server_takeShare_34 : decode b_Server_takeShare 34 = .ok (.aload_n 0, 1) := by decide +kernel
theorem d_Server_takeShare_35 : decode b_Server_takeShare 35 = .ok (.getfield 34, 3) := by decide +kernel
theorem d_Server_takeShare_38 : decode b_Server_takeShare 38 = .ok (.lload_n 2, 1) := by decide +kernel
theorem d_Server_takeShare_39 : decode b_Server_takeShare 39 = .ok (.aload_n 1, 1) := by decide +kernel
theorem d_Server_takeShare_40 : decode b_Server_takeShare 40 = .ok (.getfield 18, 3) := by decide +kernel
theorem d_Server_takeShare_43 : decode b_Server_takeShare 43 = .ok (.aload_n 0, 1) := by decide +kernel
theorem d_Server_takeShare_44 : decode b_Server_takeShare 44 = .ok (.getfield 34, 3) := by decide +kernel
theorem d_Server_takeShare_47 : decode b_Server_takeShare 47 = .ok (.invokevirtual 38, 3) := by decide +kernel
theorem d_Server_takeShare_50 : decode b_Server_takeShare 50 = .ok (.aload_n 1, 1) := by decide +kernel
theorem d_Server_takeShare_51 : decode b_Server_takeShare 51 = .ok (.getfield 18, 3) := by decide +kernel
theorem d_Server_takeShare_54 : decode b_Server_takeShare 54 = .ok (.invokevirtual 44, 3) := by decide +kernel
theorem d_Server_takeShare_57 : decode b_Server_takeShare 57 = .ok (.aload_n 0, 1) := by decide +kernel
theorem d_Server_takeShare_58 : decode b_Server_takeShare 58 = .ok (.getfield 34, 3) := by decide +kernel
theorem d_Server_takeShare_61 : decode b_Server_takeShare 61 = .ok (.getfield 48, 3) := by decide +kernel
theorem d_Server_takeShare_64 : decode b_Server_takeShare 64 = .ok (.ldc2_w 51, 3) := by decide +kernel
theorem d_Server_takeShare_67 : decode b_Server_takeShare 67 = .ok (.land, 1) := by decide +kernel
theorem d_Server_takeShare_68 : decode b_Server_takeShare 68 = .ok (.lconst 1, 1) := by decide +kernel
theorem d_Server_takeShare_69 : decode b_Server_takeShare 69 = .ok (.ladd, 1) := by decide +kernel
theorem d_Server_takeShare_70 : decode b_Server_takeShare 70 = .ok (.lstore 4, 2) := by decide +kernel
theorem d_Server_takeShare_72 : decode b_Server_takeShare 72 = .ok (.ldc2_w 28, 3) := by decide +kernel
theorem d_Server_takeShare_75 : decode b_Server_takeShare 75 = .ok (.lload 4, 2) := by decide +kernel
theorem d_Server_takeShare_77 : decode b_Server_takeShare 77 = .ok (.invokestatic 30, 3) := by decide +kernel
theorem d_Server_takeShare_80 : decode b_Server_takeShare 80 = .ok (.lstore 6, 2) := by decide +kernel
theorem d_Server_takeShare_82 : decode b_Server_takeShare 82 = .ok (.lload 4, 2) := by decide +kernel
theorem d_Server_takeShare_84 : decode b_Server_takeShare 84 = .ok (.lload 6, 2) := by decide +kernel
theorem d_Server_takeShare_86 : decode b_Server_takeShare 86 = .ok (.aload_n 0, 1) := by decide +kernel
theorem d_Server_takeShare_87 : decode b_Server_takeShare 87 = .ok (.getfield 34, 3) := by decide +kernel
theorem d_Server_takeShare_90 : decode b_Server_takeShare 90 = .ok (.getfield 48, 3) := by decide +kernel
theorem d_Server_takeShare_93 : decode b_Server_takeShare 93 = .ok (.invokestatic 53, 3) := by decide +kernel
theorem d_Server_takeShare_96 : decode b_Server_takeShare 96 = .ok (.aload_n 0, 1) := by decide +kernel
theorem d_Server_takeShare_97 : decode b_Server_takeShare 97 = .ok (.getfield 9, 3) := by decide +kernel
theorem d_Server_takeShare_100 : decode b_Server_takeShare 100 = .ok (.i2l, 1) := by decide +kernel
theorem d_Server_takeShare_101 : decode b_Server_takeShare 101 = .ok (.lmul, 1) := by decide +kernel
theorem d_Server_takeShare_102 : decode b_Server_takeShare 102 = .ok (.ladd, 1) := by decide +kernel
theorem d_Server_takeShare_103 : decode b_Server_takeShare 103 = .ok (.ldc2_w 56, 3) := by decide +kernel
theorem d_Server_takeShare_106 : decode b_Server_takeShare 106 = .ok (.lrem, 1) := by decide +kernel
theorem d_Server_takeShare_107 : decode b_Server_takeShare 107 = .ok (.lstore 8, 2) := by decide +kernel
theorem d_Server_takeShare_109 : decode b_Server_takeShare 109 = .ok (.aload_n 0, 1) := by decide +kernel
theorem d_Server_takeShare_110 : decode b_Server_takeShare 110 = .ok (.bipush 31, 2) := by decide +kernel
theorem d_Server_takeShare_112 : decode b_Server_takeShare 112 = .ok (.lload_n 2, 1) := by decide +kernel
theorem d_Server_takeShare_113 : decode b_Server_takeShare 113 = .ok (.aload_n 0, 1) := by decide +kernel
theorem d_Server_takeShare_114 : decode b_Server_takeShare 114 = .ok (.getfield 34, 3) := by decide +kernel
theorem d_Server_takeShare_117 : decode b_Server_takeShare 117 = .ok (.invokevirtual 38, 3) := by decide +kernel
theorem d_Server_takeShare_120 : decode b_Server_takeShare 120 = .ok (.lload 6, 2) := by decide +kernel
theorem d_Server_takeShare_122 : decode b_Server_takeShare 122 = .ok (.lload 8, 2) := by decide +kernel
theorem d_Server_takeShare_124 : decode b_Server_takeShare 124 = .ok (.invokevirtual 58, 3) := by decide +kernel
theorem d_Server_takeShare_127 : decode b_Server_takeShare 127 = .ok (.aload_n 0, 1) := by decide +kernel
theorem d_Server_takeShare_128 : decode b_Server_takeShare 128 = .ok (.invokevirtual 62, 3) := by decide +kernel
theorem d_Server_takeShare_131 : decode b_Server_takeShare 131 = .ok (.iconst 0, 1) := by decide +kernel
theorem d_Server_takeShare_132 : decode b_Server_takeShare 132 = .ok (.ireturn, 1) := by decide +kernel
theorem xw64 : (Cond.fieldLink "SecurePair$Server" (18 : Nat) "SecurePair$Packet" "w" "J") ∈ xa := xa_t 64 (by decide +kernel) (by decide +kernel)
theorem xw164 : (Cond.fieldLink "SecurePair$Server" (48 : Nat) "SecurePair$Exchange" "hash" "J") ∈ xa := xa_t 164 (by decide +kernel) (by decide +kernel)
theorem xw242 : (Cond.fieldLink "SecurePair$Server" (34 : Nat) "SecurePair$Server" "exchange" "LSecurePair$Exchange;") ∈ xa := xa_t 242 (by decide +kernel) (by decide +kernel)
theorem xw243 : (Cond.sameField "SecurePair$Server" "SecurePair$Endpoint" "exchange" "LSecurePair$Exchange;") ∈ xa := xa_t 243 (by decide +kernel) (by decide +kernel)
theorem xw246 : (Cond.fieldLink "SecurePair$Server" (15 : Nat) "SecurePair$Server" "phase" "I") ∈ xa := xa_t 246 (by decide +kernel) (by decide +kernel)
theorem xw247 : (Cond.sameField "SecurePair$Server" "SecurePair$Endpoint" "phase" "I") ∈ xa := xa_t 247 (by decide +kernel) (by decide +kernel)
theorem xw307 : (Cond.fieldLink "SecurePair$Server" (9 : Nat) "SecurePair$Server" "hostSecret" "I") ∈ xa := xa_t 307 (by decide +kernel) (by decide +kernel)
theorem xw706 : (Cond.constantLong "SecurePair$Server" (28 : Nat) (7 : Int64)) ∈ xa := xa_t 706 (by decide +kernel) (by decide +kernel)
theorem xw708 : (Cond.methodLink "SecurePair$Server" (38 : Nat) ({ cls := "SecurePair$Exchange", name := "share", desc := "()J" } : MethodName)) ∈ xa := xa_t 708 (by decide +kernel) (by decide +kernel)
theorem xw709 : (Cond.methodLink "SecurePair$Server" (44 : Nat) ({ cls := "SecurePair$Exchange", name := "agree", desc := "(JJJJ)V" } : MethodName)) ∈ xa := xa_t 709 (by decide +kernel) (by decide +kernel)
theorem xw719 : (Cond.constantLong "SecurePair$Server" (51 : Nat) (1073741823 : Int64)) ∈ xa := xa_t 719 (by decide +kernel) (by decide +kernel)
theorem xw724 : (Cond.constantLong "SecurePair$Server" (56 : Nat) (2147483646 : Int64)) ∈ xa := xa_t 724 (by decide +kernel) (by decide +kernel)
theorem xw725 : (Cond.methodLink "SecurePair$Server" (58 : Nat) ({ cls := "SecurePair$Server", name := "send", desc := "(IJJJJ)V" } : MethodName)) ∈ xa := xa_t 725 (by decide +kernel) (by decide +kernel)
theorem xw726 : (Cond.sameMethod "SecurePair$Server" "SecurePair$Endpoint" "send" "(IJJJJ)V") ∈ xa := xa_t 726 (by decide +kernel) (by decide +kernel)
theorem xw727 : (Cond.selects "SecurePair$Server" ({ cls := "SecurePair$Server", name := "send", desc := "(IJJJJ)V" } : MethodName) ({ cls := "SecurePair$Endpoint", name := "send", desc := "(IJJJJ)V" } : MethodName)) ∈ xa := xa_t 727 (by decide +kernel) (by decide +kernel)
theorem xw728 : (Cond.methodLink "SecurePair$Server" (62 : Nat) ({ cls := "SecurePair$Server", name := "turn", desc := "()V" } : MethodName)) ∈ xa := xa_t 728 (by decide +kernel) (by decide +kernel)
theorem xw729 : (Cond.sameMethod "SecurePair$Server" "SecurePair$Endpoint" "turn" "()V") ∈ xa := xa_t 729 (by decide +kernel) (by decide +kernel)
theorem xw731 : (Cond.selects "SecurePair$Server" ({ cls := "SecurePair$Server", name := "turn", desc := "()V" } : MethodName) ({ cls := "SecurePair$Endpoint", name := "turn", desc := "()V" } : MethodName)) ∈ xa := xa_t 731 (by decide +kernel) (by decide +kernel)
def p_Sv_share (B : Nat) (P : Nat) (σ : xb_St) : Int32 × xb_St := (if (σ.1 B 9) = (2 : Int32) then (if (f_isShare (σ.2 P 1)) = 0 then ((3 : Int32), σ) else ((0 : Int32), (p_turn B (p_send B (31 : Int32) (f_power (7 : Int64) ((σ.1 B 17).toInt64)) (p_Ex_share (B + 5) (p_Ex_agree (B + 5) (f_power (7 : Int64) ((σ.1 B 17).toInt64)) (σ.2 P 1) (p_Ex_share (B + 5) σ) (σ.2 P 1) σ)) (f_power (7 : Int64) ((((p_Ex_agree (B + 5) (f_power (7 : Int64) ((σ.1 B 17).toInt64)) (σ.2 P 1) (p_Ex_share (B + 5) σ) (σ.2 P 1) σ).2 (B + 5) 6) &&& (1073741823 : Int64)) + (1 : Int64))) (xb_lrem (((((p_Ex_agree (B + 5) (f_power (7 : Int64) ((σ.1 B 17).toInt64)) (σ.2 P 1) (p_Ex_share (B + 5) σ) (σ.2 P 1) σ).2 (B + 5) 6) &&& (1073741823 : Int64)) + (1 : Int64)) + ((f_chal (f_power (7 : Int64) ((((p_Ex_agree (B + 5) (f_power (7 : Int64) ((σ.1 B 17).toInt64)) (σ.2 P 1) (p_Ex_share (B + 5) σ) (σ.2 P 1) σ).2 (B + 5) 6) &&& (1073741823 : Int64)) + (1 : Int64))) ((p_Ex_agree (B + 5) (f_power (7 : Int64) ((σ.1 B 17).toInt64)) (σ.2 P 1) (p_Ex_share (B + 5) σ) (σ.2 P 1) σ).2 (B + 5) 6)) * ((p_Ex_agree (B + 5) (f_power (7 : Int64) ((σ.1 B 17).toInt64)) (σ.2 P 1) (p_Ex_share (B + 5) σ) (σ.2 P 1) σ).1 B 17).toInt64)) (2147483646 : Int64)) (p_Ex_agree (B + 5) (f_power (7 : Int64) ((σ.1 B 17).toInt64)) (σ.2 P 1) (p_Ex_share (B + 5) σ) (σ.2 P 1) σ))))) else ((2 : Int32), σ))
set_option maxHeartbeats 4000000 in
set_option maxRecDepth 100000 in
theorem c_Server_takeShare (l : Launch) (D : va_G) (α : Nat → Nat) (κ : Nat → ClassId) (hα : xb_inj α 35) (σ : xb_St) (B : Nat) (P : Nat) (iB : sp_isServer B) (iP : sp_isPacket P) (ok : sp_ok σ) : Met l y_Server_takeShare w_Server_takeShare ({ frames := 4, cells := 0, slots := 0, locals := 97 }) (va_Pc ([.ref (α B), .ref (α P)]) (sp_Pre D α κ σ)) (va_Qi (fun r (u : xb_St) => r = (p_Sv_share B P σ).1 ∧ u = (p_Sv_share B P σ).2) (sp_B D α κ) (xb_A α 35)) 0 0 (xb_A α 35) := by
  refine Met.ofW (cc := b_Server_takeShare) (maxL := 10) (ret := (some .int)) (by decide) rfl ?_
  intro p e s m args below meth c s₁ B_ hml hv
  obtain ⟨rfl, hP, hK, hN⟩ := hv
  have hx := B_.exec
  have hb := B_.bytes
  have hr := B_.returns
  have hts := atoms_spec (ws := w_Server_takeShare) B_.pre
  have ht : ∀ w ∈ xa, w.before _ s = true := fun w h => hts w (List.mem_cons_of_mem _ h)
  have hown : s.vm.findClass "SecurePair$Server" = some m.cls := findClass_of_methodNamed B_.named
  have hlocks := B_.notSynchronized
  have hD := sp_D hα κ
  have hS : va_S (xb_A α 35) s.heap s.heap [] := va_S.rf
  have hl := lv_entry ([.ref (α B), .ref (α P)]) (n := 10) (Nat.le_of_ble_eq_true rfl)
  rw [lg_entry_eq]
  generalize (lg_sl ([.ref (α B), .ref (α P)]) ++ List.replicate (10 - (lg_sl ([.ref (α B), .ref (α P)])).length) Slot.unset).toArray = ls at hl ⊢
  have hl : lv_has ls 10 [(0, .ref (α B)), (1, .ref (α P))] := hl
  refine lv_aload_n hx hb d_Server_takeShare_0 rfl (lv_at hl 0 rfl) ?_
  refine sp_g_Endpoint (v := .int (σ.1 B 9)) hx hb ht hown hK hP (by omega) 9 (by decide) (ht _ xw246) (fun x9 h9 => u_same (ht _ xw247) x9 h9) rfl d_Server_takeShare_1 ?_
  refine lv_iconst (v := 2) hx hb d_Server_takeShare_4 (by decide) ?_
  refine lv_icmp_eq (tgt := 10) hx hb d_Server_takeShare_5 (by decide) (fun c1 => ?_) (fun c1 => ?_)
  · skip
    refine lv_aload_n hx hb d_Server_takeShare_10 rfl (lv_at hl 1 rfl) ?_
    refine sp_g_Packet (v := .long (σ.2 P 1)) hx hb ht hown hK hP iP 1 (by decide) (ht _ xw64) (fun _ h_ => h_) rfl d_Server_takeShare_11 ?_
    refine vp_callSi (va_runSN (As := [.long (σ.2 P 1)]) (rest := []) ⟨hx, hb, hml, hown, hts⟩ (c_P_isShare l (σ.2 P 1)) ⟨va_cnB 1 hts (xa_g xw703) rfl rfl rfl (hN.at 8 rfl) (ht _ xw1) (by decide +kernel) ⟨Nat.le_of_ble_eq_true rfl, Nat.le_of_ble_eq_true rfl⟩, ht _ xw702, trivial⟩ preEq rfl rfl hl.1 rfl (lv_room (Nat.le_of_ble_eq_true rfl)) d_Server_takeShare_14 ⟨Nat.le_of_ble_eq_true rfl, Nat.le_of_ble_eq_true rfl⟩).run (fun r_ e_ => ?_)
    subst e_
    refine lv_if_ne (tgt := 22) hx hb d_Server_takeShare_17 (by decide) (fun c2 => ?_) (fun c2 => ?_)
    · skip
      refine lv_ldc2 hx hb hown (ht _ xw706) d_Server_takeShare_22 ?_
      refine lv_aload_n hx hb d_Server_takeShare_25 rfl (lv_at hl 0 rfl) ?_
      refine sp_g_Server (v := .int (σ.1 B 17)) hx hb ht hown hK hP iB 17 (by decide) (ht _ xw307) (fun _ h_ => h_) rfl d_Server_takeShare_26 ?_
      refine lv_i2l (v := (σ.1 B 17).toInt64) hx hb d_Server_takeShare_29 (by rfl) ?_
      refine vp_callSl (va_runSN (As := [.long (7 : Int64), .long ((σ.1 B 17).toInt64)]) (rest := []) ⟨hx, hb, hml, hown, hts⟩ (c_P_power l (7 : Int64) ((σ.1 B 17).toInt64)) ⟨va_cnB 2 hts (xa_g xw363) rfl rfl rfl (hN.at 9 rfl) (ht _ xw1) (by decide +kernel) ⟨Nat.le_of_ble_eq_true rfl, Nat.le_of_ble_eq_true rfl⟩, ht _ xw362, trivial⟩ preEq rfl rfl hl.1 rfl (lv_room (Nat.le_of_ble_eq_true rfl)) d_Server_takeShare_30 ⟨Nat.le_of_ble_eq_true rfl, Nat.le_of_ble_eq_true rfl⟩).run (fun r_ e_ => ?_)
      subst e_
      refine lv_lstore_n (lv' := [(2, .long (f_power (7 : Int64) ((σ.1 B 17).toInt64))), (0, .ref (α B)), (1, .ref (α P))]) hx hb d_Server_takeShare_33 rfl hl (by decide) rfl (fun ls hl => ?_)
      refine lv_aload_n hx hb d_Server_takeShare_34 rfl (lv_at hl 1 rfl) ?_
      refine sp_g_Endpoint (v := .ref (α (B + 5))) hx hb ht hown hK hP (by omega) 7 (by decide) (ht _ xw242) (fun x9 h9 => u_same (ht _ xw243) x9 h9) rfl d_Server_takeShare_35 ?_
      refine lv_lload_n hx hb d_Server_takeShare_38 rfl (lv_at hl 0 rfl) ?_
      refine lv_aload_n hx hb d_Server_takeShare_39 rfl (lv_at hl 2 rfl) ?_
      refine sp_g_Packet (v := .long (σ.2 P 1)) hx hb ht hown hK hP iP 1 (by decide) (ht _ xw64) (fun _ h_ => h_) rfl d_Server_takeShare_40 ?_
      refine lv_aload_n hx hb d_Server_takeShare_43 rfl (lv_at hl 1 rfl) ?_
      refine sp_g_Endpoint (v := .ref (α (B + 5))) hx hb ht hown hK hP (by omega) 7 (by decide) (ht _ xw242) (fun x9 h9 => u_same (ht _ xw243) x9 h9) rfl d_Server_takeShare_44 ?_
      refine sp_cl (va_runV (As := []) (rest := [.long (σ.2 P 1), .long (f_power (7 : Int64) ((σ.1 B 17).toInt64)), .ref (α (B + 5))]) ⟨hx, hb, hml, hown, hts⟩ (c_Exchange_share l D α κ hα σ (B + 5) (by omega)) (cwV 0 hts (xa_V xw708 xw680 xw681 xw7 xw682) rfl rfl rfl (by decide +kernel) ⟨Nat.le_of_ble_eq_true rfl, Nat.le_of_ble_eq_true rfl⟩) ⟨sp_blind, va_recv hK hP rfl (sp_at_Exchange (by omega)), sp_pre hP hK hN _⟩ rfl rfl hl.1 rfl (lv_room (Nat.le_of_ble_eq_true rfl)) d_Server_takeShare_47 ⟨Nat.le_of_ble_eq_true rfl, Nat.le_of_ble_eq_true rfl⟩) hS (fun _ h_ => h_) (fun H locs hP hS => ?_)
      refine lv_aload_n hx hb d_Server_takeShare_50 rfl (lv_at hl 2 rfl) ?_
      refine sp_g_Packet (v := .long (σ.2 P 1)) hx hb ht hown hK hP iP 1 (by decide) (ht _ xw64) (fun _ h_ => h_) rfl d_Server_takeShare_51 ?_
      refine sp_cv (va_runV (As := [.long (f_power (7 : Int64) ((σ.1 B 17).toInt64)), .long (σ.2 P 1), .long (p_Ex_share (B + 5) σ), .long (σ.2 P 1)]) (rest := []) ⟨hx, hb, hml, hown, hts⟩ (c_Exchange_agree l D α κ hα σ (B + 5) (f_power (7 : Int64) ((σ.1 B 17).toInt64)) (σ.2 P 1) (p_Ex_share (B + 5) σ) (σ.2 P 1) (by omega)) (cwV 4 hts (xa_V xw709 xw710 xw711 xw7 xw712) rfl rfl rfl (by decide +kernel) ⟨Nat.le_of_ble_eq_true rfl, Nat.le_of_ble_eq_true rfl⟩) ⟨sp_blind, va_recv hK hP rfl (sp_at_Exchange (by omega)), sp_pre hP hK hN _⟩ rfl rfl hl.1 rfl (lv_room (Nat.le_of_ble_eq_true rfl)) d_Server_takeShare_54 ⟨Nat.le_of_ble_eq_true rfl, Nat.le_of_ble_eq_true rfl⟩) hS (fun _ h_ => h_) (fun H locs hP hS => ?_)
      obtain ⟨τ1, hτ1⟩ : ∃ t_, t_ = (p_Ex_agree (B + 5) (f_power (7 : Int64) ((σ.1 B 17).toInt64)) (σ.2 P 1) (p_Ex_share (B + 5) σ) (σ.2 P 1) σ) := ⟨_, rfl⟩
      rw [← hτ1] at hP
      have okτ1 : sp_ok τ1 := by rw [hτ1]; exact (ok_p_Ex_agree (B + 5) (f_power (7 : Int64) ((σ.1 B 17).toInt64)) (σ.2 P 1) (p_Ex_share (B + 5) σ) (σ.2 P 1) (by omega) ok)
      refine lv_aload_n hx hb d_Server_takeShare_57 rfl (lv_at hl 1 rfl) ?_
      refine sp_g_Endpoint (v := .ref (α (B + 5))) hx hb ht hown hK hP (by omega) 7 (by decide) (ht _ xw242) (fun x9 h9 => u_same (ht _ xw243) x9 h9) rfl d_Server_takeShare_58 ?_
      refine sp_g_Exchange (v := .long (τ1.2 (B + 5) 6)) hx hb ht hown hK hP (by omega) 6 (by decide) (ht _ xw164) (fun _ h_ => h_) rfl d_Server_takeShare_61 ?_
      refine lv_ldc2 hx hb hown (ht _ xw719) d_Server_takeShare_64 ?_
      refine lv_land hx hb d_Server_takeShare_67 ?_
      refine lv_lconst (v := 1) hx hb d_Server_takeShare_68 (by decide) ?_
      refine lv_ladd hx hb d_Server_takeShare_69 ?_
      refine lv_lstore (lv' := [(4, .long (((τ1.2 (B + 5) 6) &&& (1073741823 : Int64)) + (1 : Int64))), (2, .long (f_power (7 : Int64) ((σ.1 B 17).toInt64))), (0, .ref (α B)), (1, .ref (α P))]) hx hb d_Server_takeShare_70 hl (by decide) rfl (fun ls hl => ?_)
      refine lv_ldc2 hx hb hown (ht _ xw706) d_Server_takeShare_72 ?_
      refine lv_lload hx hb d_Server_takeShare_75 (lv_at hl 0 rfl) ?_
      refine vp_callSl (va_runSN (As := [.long (7 : Int64), .long (((τ1.2 (B + 5) 6) &&& (1073741823 : Int64)) + (1 : Int64))]) (rest := []) ⟨hx, hb, hml, hown, hts⟩ (c_P_power l (7 : Int64) (((τ1.2 (B + 5) 6) &&& (1073741823 : Int64)) + (1 : Int64))) ⟨va_cnB 2 hts (xa_g xw363) rfl rfl rfl (hN.at 9 rfl) (ht _ xw1) (by decide +kernel) ⟨Nat.le_of_ble_eq_true rfl, Nat.le_of_ble_eq_true rfl⟩, ht _ xw362, trivial⟩ preEq rfl rfl hl.1 rfl (lv_room (Nat.le_of_ble_eq_true rfl)) d_Server_takeShare_77 ⟨Nat.le_of_ble_eq_true rfl, Nat.le_of_ble_eq_true rfl⟩).run (fun r_ e_ => ?_)
      subst e_
      refine lv_lstore (lv' := [(6, .long (f_power (7 : Int64) (((τ1.2 (B + 5) 6) &&& (1073741823 : Int64)) + (1 : Int64)))), (4, .long (((τ1.2 (B + 5) 6) &&& (1073741823 : Int64)) + (1 : Int64))), (2, .long (f_power (7 : Int64) ((σ.1 B 17).toInt64))), (0, .ref (α B)), (1, .ref (α P))]) hx hb d_Server_takeShare_80 hl (by decide) rfl (fun ls hl => ?_)
      refine lv_lload hx hb d_Server_takeShare_82 (lv_at hl 1 rfl) ?_
      refine lv_lload hx hb d_Server_takeShare_84 (lv_at hl 0 rfl) ?_
      refine lv_aload_n hx hb d_Server_takeShare_86 rfl (lv_at hl 3 rfl) ?_
      refine sp_g_Endpoint (v := .ref (α (B + 5))) hx hb ht hown hK hP (by omega) 7 (by decide) (ht _ xw242) (fun x9 h9 => u_same (ht _ xw243) x9 h9) rfl d_Server_takeShare_87 ?_
      refine sp_g_Exchange (v := .long (τ1.2 (B + 5) 6)) hx hb ht hown hK hP (by omega) 6 (by decide) (ht _ xw164) (fun _ h_ => h_) rfl d_Server_takeShare_90 ?_
      refine vp_callSl (va_runSN (As := [.long (f_power (7 : Int64) (((τ1.2 (B + 5) 6) &&& (1073741823 : Int64)) + (1 : Int64))), .long (τ1.2 (B + 5) 6)]) (rest := [.long (((τ1.2 (B + 5) 6) &&& (1073741823 : Int64)) + (1 : Int64))]) ⟨hx, hb, hml, hown, hts⟩ (c_P_challenge l (f_power (7 : Int64) (((τ1.2 (B + 5) 6) &&& (1073741823 : Int64)) + (1 : Int64))) (τ1.2 (B + 5) 6)) ⟨va_cnB 2 hts (xa_g xw722) rfl rfl rfl (hN.at 12 rfl) (ht _ xw1) (by decide +kernel) ⟨Nat.le_of_ble_eq_true rfl, Nat.le_of_ble_eq_true rfl⟩, ht _ xw721, trivial⟩ preEq rfl rfl hl.1 rfl (lv_room (Nat.le_of_ble_eq_true rfl)) d_Server_takeShare_93 ⟨Nat.le_of_ble_eq_true rfl, Nat.le_of_ble_eq_true rfl⟩).run (fun r_ e_ => ?_)
      subst e_
      refine lv_aload_n hx hb d_Server_takeShare_96 rfl (lv_at hl 3 rfl) ?_
      refine sp_g_Server (v := .int (τ1.1 B 17)) hx hb ht hown hK hP iB 17 (by decide) (ht _ xw307) (fun _ h_ => h_) rfl d_Server_takeShare_97 ?_
      refine lv_i2l (v := (τ1.1 B 17).toInt64) hx hb d_Server_takeShare_100 (by rfl) ?_
      refine lv_lmul hx hb d_Server_takeShare_101 ?_
      refine lv_ladd hx hb d_Server_takeShare_102 ?_
      refine lv_ldc2 hx hb hown (ht _ xw724) d_Server_takeShare_103 ?_
      refine lv_lrem hx hb d_Server_takeShare_106 (by decide) ?_
      refine lv_lstore (lv' := [(8, .long (xb_lrem ((((τ1.2 (B + 5) 6) &&& (1073741823 : Int64)) + (1 : Int64)) + ((f_chal (f_power (7 : Int64) (((τ1.2 (B + 5) 6) &&& (1073741823 : Int64)) + (1 : Int64))) (τ1.2 (B + 5) 6)) * (τ1.1 B 17).toInt64)) (2147483646 : Int64))), (6, .long (f_power (7 : Int64) (((τ1.2 (B + 5) 6) &&& (1073741823 : Int64)) + (1 : Int64)))), (4, .long (((τ1.2 (B + 5) 6) &&& (1073741823 : Int64)) + (1 : Int64))), (2, .long (f_power (7 : Int64) ((σ.1 B 17).toInt64))), (0, .ref (α B)), (1, .ref (α P))]) hx hb d_Server_takeShare_107 hl (by decide) rfl (fun ls hl => ?_)
      refine lv_aload_n hx hb d_Server_takeShare_109 rfl (lv_at hl 4 rfl) ?_
      refine lv_bipush (v := 31) hx hb d_Server_takeShare_110 (by decide) ?_
      refine lv_lload_n hx hb d_Server_takeShare_112 rfl (lv_at hl 3 rfl) ?_
      refine lv_aload_n hx hb d_Server_takeShare_113 rfl (lv_at hl 4 rfl) ?_
      refine sp_g_Endpoint (v := .ref (α (B + 5))) hx hb ht hown hK hP (by omega) 7 (by decide) (ht _ xw242) (fun x9 h9 => u_same (ht _ xw243) x9 h9) rfl d_Server_takeShare_114 ?_
      refine sp_cl (va_runV (As := []) (rest := [.long (f_power (7 : Int64) ((σ.1 B 17).toInt64)), .int (31 : Int32), .ref (α B)]) ⟨hx, hb, hml, hown, hts⟩ (c_Exchange_share l D α κ hα τ1 (B + 5) (by omega)) (cwV 0 hts (xa_V xw708 xw680 xw681 xw7 xw682) rfl rfl rfl (by decide +kernel) ⟨Nat.le_of_ble_eq_true rfl, Nat.le_of_ble_eq_true rfl⟩) ⟨sp_blind, va_recv hK hP rfl (sp_at_Exchange (by omega)), sp_pre hP hK hN _⟩ rfl rfl hl.1 rfl (lv_room (Nat.le_of_ble_eq_true rfl)) d_Server_takeShare_117 ⟨Nat.le_of_ble_eq_true rfl, Nat.le_of_ble_eq_true rfl⟩) hS (fun _ h_ => h_) (fun H locs hP hS => ?_)
      refine lv_lload hx hb d_Server_takeShare_120 (lv_at hl 1 rfl) ?_
      refine lv_lload hx hb d_Server_takeShare_122 (lv_at hl 0 rfl) ?_
      refine sp_cv (va_runU (As := [.int (31 : Int32), .long (f_power (7 : Int64) ((σ.1 B 17).toInt64)), .long (p_Ex_share (B + 5) τ1), .long (f_power (7 : Int64) (((τ1.2 (B + 5) 6) &&& (1073741823 : Int64)) + (1 : Int64))), .long (xb_lrem ((((τ1.2 (B + 5) 6) &&& (1073741823 : Int64)) + (1 : Int64)) + ((f_chal (f_power (7 : Int64) (((τ1.2 (B + 5) 6) &&& (1073741823 : Int64)) + (1 : Int64))) (τ1.2 (B + 5) 6)) * (τ1.1 B 17).toInt64)) (2147483646 : Int64))]) (rest := []) ⟨hx, hb, hml, hown, hts⟩ (c_Endpoint_send l D α κ hα τ1 B (31 : Int32) (f_power (7 : Int64) ((σ.1 B 17).toInt64)) (p_Ex_share (B + 5) τ1) (f_power (7 : Int64) (((τ1.2 (B + 5) 6) &&& (1073741823 : Int64)) + (1 : Int64))) (xb_lrem ((((τ1.2 (B + 5) 6) &&& (1073741823 : Int64)) + (1 : Int64)) + ((f_chal (f_power (7 : Int64) (((τ1.2 (B + 5) 6) &&& (1073741823 : Int64)) + (1 : Int64))) (τ1.2 (B + 5) 6)) * (τ1.1 B 17).toInt64)) (2147483646 : Int64)) (by omega) okτ1) (va_cwU (C := "SecurePair$Server") (owner := "SecurePair$Endpoint") 5 hts (xa_U xw725 xw726 xw727 xw380 xw3 xw384) rfl rfl rfl rfl ⟨by decide, by decide, by decide +kernel⟩ ⟨Nat.le_of_ble_eq_true rfl, Nat.le_of_ble_eq_true rfl⟩) ⟨sp_blind, va_recv hK hP rfl (sp_at_Server iB), sp_pre hP hK hN _⟩ rfl rfl hl.1 rfl (lv_room (Nat.le_of_ble_eq_true rfl)) d_Server_takeShare_124 ⟨Nat.le_of_ble_eq_true rfl, Nat.le_of_ble_eq_true rfl⟩) hS (fun _ h_ => h_) (fun H locs hP hS => ?_)
      obtain ⟨τ2, hτ2⟩ : ∃ t_, t_ = (p_send B (31 : Int32) (f_power (7 : Int64) ((σ.1 B 17).toInt64)) (p_Ex_share (B + 5) τ1) (f_power (7 : Int64) (((τ1.2 (B + 5) 6) &&& (1073741823 : Int64)) + (1 : Int64))) (xb_lrem ((((τ1.2 (B + 5) 6) &&& (1073741823 : Int64)) + (1 : Int64)) + ((f_chal (f_power (7 : Int64) (((τ1.2 (B + 5) 6) &&& (1073741823 : Int64)) + (1 : Int64))) (τ1.2 (B + 5) 6)) * (τ1.1 B 17).toInt64)) (2147483646 : Int64)) τ1) := ⟨_, rfl⟩
      rw [← hτ2] at hP
      have okτ2 : sp_ok τ2 := by rw [hτ2]; exact (ok_p_send B (31 : Int32) (f_power (7 : Int64) ((σ.1 B 17).toInt64)) (p_Ex_share (B + 5) τ1) (f_power (7 : Int64) (((τ1.2 (B + 5) 6) &&& (1073741823 : Int64)) + (1 : Int64))) (xb_lrem ((((τ1.2 (B + 5) 6) &&& (1073741823 : Int64)) + (1 : Int64)) + ((f_chal (f_power (7 : Int64) (((τ1.2 (B + 5) 6) &&& (1073741823 : Int64)) + (1 : Int64))) (τ1.2 (B + 5) 6)) * (τ1.1 B 17).toInt64)) (2147483646 : Int64)) (by omega) okτ1)
      refine lv_aload_n hx hb d_Server_takeShare_127 rfl (lv_at hl 4 rfl) ?_
      refine sp_cv (va_runU (As := []) (rest := []) ⟨hx, hb, hml, hown, hts⟩ (c_Endpoint_turn l D α κ hα τ2 B (by omega) okτ2) (va_cwU (C := "SecurePair$Server") (owner := "SecurePair$Endpoint") 0 hts (xa_U xw728 xw729 xw731 xw732 xw3 xw733) rfl rfl rfl rfl ⟨by decide, by decide, by decide +kernel⟩ ⟨Nat.le_of_ble_eq_true rfl, Nat.le_of_ble_eq_true rfl⟩) ⟨sp_blind, va_recv hK hP rfl (sp_at_Server iB), sp_pre hP hK hN _⟩ rfl rfl hl.1 rfl (lv_room (Nat.le_of_ble_eq_true rfl)) d_Server_takeShare_128 ⟨Nat.le_of_ble_eq_true rfl, Nat.le_of_ble_eq_true rfl⟩) hS (fun _ h_ => h_) (fun H locs hP hS => ?_)
      obtain ⟨τ3, hτ3⟩ : ∃ t_, t_ = (p_turn B τ2) := ⟨_, rfl⟩
      rw [← hτ3] at hP
      have okτ3 : sp_ok τ3 := by rw [hτ3]; exact (ok_p_turn B (by omega) okτ2)
      refine lv_iconst (v := 0) hx hb d_Server_takeShare_131 (by decide) ?_
      exact W.iret (v := (0 : Int32)) hx hb hr (fun t ht_ hW => ⟨⟨(0 : Int32), τ3, rfl, ⟨congrArg Prod.fst (((by subst hτ3; subst hτ2; subst hτ1; exact ((if_pos c1).trans ((if_neg c2))).symm)) : ((0 : Int32), τ3) = p_Sv_share B P σ), congrArg Prod.snd (((by subst hτ3; subst hτ2; subst hτ1; exact ((if_pos c1).trans ((if_neg c2))).symm)) : ((0 : Int32), τ3) = p_Sv_share B P σ)⟩, by rw [sp_B, ht_]; exact hP⟩, hS.F ht_⟩) hS.2.2 d_Server_takeShare_132
    · skip
      refine lv_iconst (v := 3) hx hb d_Server_takeShare_20 (by decide) ?_
      exact W.iret (v := (3 : Int32)) hx hb hr (fun t ht_ hW => ⟨⟨(3 : Int32), σ, rfl, ⟨congrArg Prod.fst ((((if_pos c1).trans ((if_pos c2))).symm) : ((3 : Int32), σ) = p_Sv_share B P σ), congrArg Prod.snd ((((if_pos c1).trans ((if_pos c2))).symm) : ((3 : Int32), σ) = p_Sv_share B P σ)⟩, by rw [sp_B, ht_]; exact hP⟩, hS.F ht_⟩) hS.2.2 d_Server_takeShare_21
  · skip
    refine lv_iconst (v := 2) hx hb d_Server_takeShare_8 (by decide) ?_
    exact W.iret (v := (2 : Int32)) hx hb hr (fun t ht_ hW => ⟨⟨(2 : Int32), σ, rfl, ⟨congrArg Prod.fst ((((if_neg c1)).symm) : ((2 : Int32), σ) = p_Sv_share B P σ), congrArg Prod.snd ((((if_neg c1)).symm) : ((2 : Int32), σ) = p_Sv_share B P σ)⟩, by rw [sp_B, ht_]; exact hP⟩, hS.F ht_⟩) hS.2.2 d_Server_takeShare_9
theorem ok_p_Sv_share {σ : xb_St} (B : Nat) (P : Nat) (iB : sp_isServer B) (iP : sp_isPacket P) (ok : sp_ok σ) : sp_ok (p_Sv_share B P σ).2 := by
  unfold p_Sv_share
  by_cases c1 : (σ.1 B 9) = (2 : Int32)
  · rw [if_pos c1]
    by_cases c2 : (f_isShare (σ.2 P 1)) = 0
    · rw [if_pos c2]
      exact ok
    · rw [if_neg c2]
      exact (ok_p_turn B (by omega) (ok_p_send B (31 : Int32) (f_power (7 : Int64) ((σ.1 B 17).toInt64)) (p_Ex_share (B + 5) (p_Ex_agree (B + 5) (f_power (7 : Int64) ((σ.1 B 17).toInt64)) (σ.2 P 1) (p_Ex_share (B + 5) σ) (σ.2 P 1) σ)) (f_power (7 : Int64) ((((p_Ex_agree (B + 5) (f_power (7 : Int64) ((σ.1 B 17).toInt64)) (σ.2 P 1) (p_Ex_share (B + 5) σ) (σ.2 P 1) σ).2 (B + 5) 6) &&& (1073741823 : Int64)) + (1 : Int64))) (xb_lrem (((((p_Ex_agree (B + 5) (f_power (7 : Int64) ((σ.1 B 17).toInt64)) (σ.2 P 1) (p_Ex_share (B + 5) σ) (σ.2 P 1) σ).2 (B + 5) 6) &&& (1073741823 : Int64)) + (1 : Int64)) + ((f_chal (f_power (7 : Int64) ((((p_Ex_agree (B + 5) (f_power (7 : Int64) ((σ.1 B 17).toInt64)) (σ.2 P 1) (p_Ex_share (B + 5) σ) (σ.2 P 1) σ).2 (B + 5) 6) &&& (1073741823 : Int64)) + (1 : Int64))) ((p_Ex_agree (B + 5) (f_power (7 : Int64) ((σ.1 B 17).toInt64)) (σ.2 P 1) (p_Ex_share (B + 5) σ) (σ.2 P 1) σ).2 (B + 5) 6)) * ((p_Ex_agree (B + 5) (f_power (7 : Int64) ((σ.1 B 17).toInt64)) (σ.2 P 1) (p_Ex_share (B + 5) σ) (σ.2 P 1) σ).1 B 17).toInt64)) (2147483646 : Int64)) (by omega) (ok_p_Ex_agree (B + 5) (f_power (7 : Int64) ((σ.1 B 17).toInt64)) (σ.2 P 1) (p_Ex_share (B + 5) σ) (σ.2 P 1) (by omega) ok)))
  · rw [if_neg c1]
    exact ok
