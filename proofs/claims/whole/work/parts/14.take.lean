abbrev b_Endpoint_take : ByteArray := prog_4_method_13_code
def y_Endpoint_take : MethodName := ⟨"SecurePair$Endpoint", "take", "(LSecurePair$Packet;)I"⟩
abbrev w_Endpoint_take : List Cond := .code y_Endpoint_take b_Endpoint_take 2 (some .int) :: xa
theorem d_Endpoint_take_0 : decode b_Endpoint_take 0 = .ok (.aload_n 1, 1) := by decide +kernel
theorem d_Endpoint_take_1 : decode b_Endpoint_take 1 = .ok (.getfield 101, 3) := by decide +kernel
theorem d_Endpoint_take_4 : decode b_Endpoint_take 4 = .ok (.lookupswitch 177 #[(1, 108), (2, 118), (20, 134), (21, 152), (30, 140), (31, 146), (90, 157), (91, 157), (92, 157), (93, 157), (94, 157), (97, 157)], 108) := by decide +kernel
theorem d_Endpoint_take_112 : decode b_Endpoint_take 112 = .ok (.aload_n 0, 1) := by decide +kernel
theorem d_Endpoint_take_113 : decode b_Endpoint_take 113 = .ok (.aload_n 1, 1) := by decide +kernel
theorem d_Endpoint_take_114 : decode b_Endpoint_take 114 = .ok (.getfield 104, 3) := by decide +kernel
theorem d_Endpoint_take_117 : decode b_Endpoint_take 117 = .ok (.invokevirtual 135, 3) := by decide +kernel
theorem d_Endpoint_take_120 : decode b_Endpoint_take 120 = .ok (.iconst 0, 1) := by decide +kernel
theorem d_Endpoint_take_121 : decode b_Endpoint_take 121 = .ok (.ireturn, 1) := by decide +kernel
theorem d_Endpoint_take_122 : decode b_Endpoint_take 122 = .ok (.aload_n 0, 1) := by decide +kernel
theorem d_Endpoint_take_123 : decode b_Endpoint_take 123 = .ok (.getfield 24, 3) := by decide +kernel
theorem d_Endpoint_take_126 : decode b_Endpoint_take 126 = .ok (.getfield 156, 3) := by decide +kernel
theorem d_Endpoint_take_129 : decode b_Endpoint_take 129 = .ok (.ifCond .eq 7, 3) := by decide +kernel
theorem d_Endpoint_take_132 : decode b_Endpoint_take 132 = .ok (.iconst 0, 1) := by decide +kernel
theorem d_Endpoint_take_133 : decode b_Endpoint_take 133 = .ok (.goto 4, 3) := by decide +kernel
theorem d_Endpoint_take_136 : decode b_Endpoint_take 136 = .ok (.iconst 2, 1) := by decide +kernel
theorem d_Endpoint_take_137 : decode b_Endpoint_take 137 = .ok (.ireturn, 1) := by decide +kernel
theorem d_Endpoint_take_138 : decode b_Endpoint_take 138 = .ok (.aload_n 0, 1) := by decide +kernel
theorem d_Endpoint_take_139 : decode b_Endpoint_take 139 = .ok (.aload_n 1, 1) := by decide +kernel
theorem d_Endpoint_take_140 : decode b_Endpoint_take 140 = .ok (.invokevirtual 160, 3) := by decide +kernel
theorem d_Endpoint_take_143 : decode b_Endpoint_take 143 = .ok (.ireturn, 1) := by decide +kernel
theorem d_Endpoint_take_144 : decode b_Endpoint_take 144 = .ok (.aload_n 0, 1) := by decide +kernel
theorem d_Endpoint_take_145 : decode b_Endpoint_take 145 = .ok (.aload_n 1, 1) := by decide +kernel
theorem d_Endpoint_take_146 : decode b_Endpoint_take 146 = .ok (.invokevirtual 163, 3) := by decide +kernel
theorem d_Endpoint_take_149 : decode b_Endpoint_take 149 = .ok (.ireturn, 1) := by decide +kernel
theorem d_Endpoint_take_150 : decode b_Endpoint_take 150 = .ok (.aload_n 0, 1) := by decide +kernel
theorem d_Endpoint_take_151 : decode b_Endpoint_take 151 = .ok (.aload_n 1, 1) := by decide +kernel
theorem d_Endpoint_take_152 : decode b_Endpoint_take 152 = .ok (.invokevirtual 166, 3) := by decide +kernel
theorem d_Endpoint_take_155 : decode b_Endpoint_take 155 = .ok (.ireturn, 1) := by decide +kernel
theorem d_Endpoint_take_156 : decode b_Endpoint_take 156 = .ok (.aload_n 0, 1) := by decide +kernel
theorem d_Endpoint_take_157 : decode b_Endpoint_take 157 = .ok (.invokevirtual 169, 3) := by decide +kernel
theorem d_Endpoint_take_160 : decode b_Endpoint_take 160 = .ok (.ireturn, 1) := by decide +kernel
theorem d_Endpoint_take_161 : decode b_Endpoint_take 161 = .ok (.aload_n 0, 1) := by decide +kernel
theorem d_Endpoint_take_162 : decode b_Endpoint_take 162 = .ok (.getfield 24, 3) := by decide +kernel
theorem d_Endpoint_take_165 : decode b_Endpoint_take 165 = .ok (.getfield 156, 3) := by decide +kernel
theorem d_Endpoint_take_168 : decode b_Endpoint_take 168 = .ok (.ifCond .eq 11, 3) := by decide +kernel
theorem d_Endpoint_take_171 : decode b_Endpoint_take 171 = .ok (.aload_n 0, 1) := by decide +kernel
theorem d_Endpoint_take_172 : decode b_Endpoint_take 172 = .ok (.aload_n 1, 1) := by decide +kernel
theorem d_Endpoint_take_173 : decode b_Endpoint_take 173 = .ok (.invokevirtual 173, 3) := by decide +kernel
theorem d_Endpoint_take_176 : decode b_Endpoint_take 176 = .ok (.goto 4, 3) := by decide +kernel
theorem d_Endpoint_take_179 : decode b_Endpoint_take 179 = .ok (.iconst 2, 1) := by decide +kernel
theorem d_Endpoint_take_180 : decode b_Endpoint_take 180 = .ok (.ireturn, 1) := by decide +kernel
theorem d_Endpoint_take_181 : decode b_Endpoint_take 181 = .ok (.iconst 2, 1) := by decide +kernel
theorem d_Endpoint_take_182 : decode b_Endpoint_take 182 = .ok (.ireturn, 1) := by decide +kernel
theorem xw103 : (Cond.fieldLink "SecurePair$Endpoint" (156 : Nat) "SecurePair$Keys" "present" "Z") ∈ xa := xa_t 103 (by decide +kernel) (by decide +kernel)
theorem xw649 : (Cond.methodLink "SecurePair$Endpoint" (160 : Nat) ({ cls := "SecurePair$Endpoint", name := "takeInit", desc := "(LSecurePair$Packet;)I" } : MethodName)) ∈ xa := xa_t 649 (by decide +kernel) (by decide +kernel)
theorem xw650 : (Cond.instanceMethod ({ cls := "SecurePair$Endpoint", name := "takeInit", desc := "(LSecurePair$Packet;)I" } : MethodName)) ∈ xa := xa_t 650 (by decide +kernel) (by decide +kernel)
theorem xw651 : (Cond.sameMethod "SecurePair$Endpoint" "SecurePair$Endpoint" "takeInit" "(LSecurePair$Packet;)I") ∈ xa := xa_t 651 (by decide +kernel) (by decide +kernel)
theorem xw652 : (Cond.selects "SecurePair$Client" ({ cls := "SecurePair$Endpoint", name := "takeInit", desc := "(LSecurePair$Packet;)I" } : MethodName) ({ cls := "SecurePair$Endpoint", name := "takeInit", desc := "(LSecurePair$Packet;)I" } : MethodName)) ∈ xa := xa_t 652 (by decide +kernel) (by decide +kernel)
theorem xw653 : (Cond.selects "SecurePair$Server" ({ cls := "SecurePair$Endpoint", name := "takeInit", desc := "(LSecurePair$Packet;)I" } : MethodName) ({ cls := "SecurePair$Endpoint", name := "takeInit", desc := "(LSecurePair$Packet;)I" } : MethodName)) ∈ xa := xa_t 653 (by decide +kernel) (by decide +kernel)
theorem xw654 : (Cond.code ({ cls := "SecurePair$Endpoint", name := "takeInit", desc := "(LSecurePair$Packet;)I" } : MethodName) prog_4_method_14_code (2 : Nat) (Option.some ClassFile.FieldType.int)) ∈ xa := xa_t 654 (by decide +kernel) (by decide +kernel)
theorem xw692 : (Cond.methodLink "SecurePair$Endpoint" (163 : Nat) ({ cls := "SecurePair$Endpoint", name := "takeShare", desc := "(LSecurePair$Packet;)I" } : MethodName)) ∈ xa := xa_t 692 (by decide +kernel) (by decide +kernel)
theorem xw694 : (Cond.sameMethod "SecurePair$Endpoint" "SecurePair$Endpoint" "takeShare" "(LSecurePair$Packet;)I") ∈ xa := xa_t 694 (by decide +kernel) (by decide +kernel)
theorem xw695 : (Cond.selects "SecurePair$Client" ({ cls := "SecurePair$Endpoint", name := "takeShare", desc := "(LSecurePair$Packet;)I" } : MethodName) ({ cls := "SecurePair$Client", name := "takeShare", desc := "(LSecurePair$Packet;)I" } : MethodName)) ∈ xa := xa_t 695 (by decide +kernel) (by decide +kernel)
theorem xw696 : (Cond.instanceMethod ({ cls := "SecurePair$Client", name := "takeShare", desc := "(LSecurePair$Packet;)I" } : MethodName)) ∈ xa := xa_t 696 (by decide +kernel) (by decide +kernel)
theorem xw697 : (Cond.code ({ cls := "SecurePair$Client", name := "takeShare", desc := "(LSecurePair$Packet;)I" } : MethodName) prog_3_method_3_code (2 : Nat) (Option.some ClassFile.FieldType.int)) ∈ xa := xa_t 697 (by decide +kernel) (by decide +kernel)
theorem xw698 : (Cond.selects "SecurePair$Server" ({ cls := "SecurePair$Endpoint", name := "takeShare", desc := "(LSecurePair$Packet;)I" } : MethodName) ({ cls := "SecurePair$Server", name := "takeShare", desc := "(LSecurePair$Packet;)I" } : MethodName)) ∈ xa := xa_t 698 (by decide +kernel) (by decide +kernel)
theorem xw699 : (Cond.instanceMethod ({ cls := "SecurePair$Server", name := "takeShare", desc := "(LSecurePair$Packet;)I" } : MethodName)) ∈ xa := xa_t 699 (by decide +kernel) (by decide +kernel)
theorem xw700 : (Cond.code ({ cls := "SecurePair$Server", name := "takeShare", desc := "(LSecurePair$Packet;)I" } : MethodName) prog_10_method_3_code (10 : Nat) (Option.some ClassFile.FieldType.int)) ∈ xa := xa_t 700 (by decide +kernel) (by decide +kernel)
theorem xw738 : (Cond.methodLink "SecurePair$Endpoint" (166 : Nat) ({ cls := "SecurePair$Endpoint", name := "takeReply", desc := "(LSecurePair$Packet;)I" } : MethodName)) ∈ xa := xa_t 738 (by decide +kernel) (by decide +kernel)
theorem xw740 : (Cond.sameMethod "SecurePair$Endpoint" "SecurePair$Endpoint" "takeReply" "(LSecurePair$Packet;)I") ∈ xa := xa_t 740 (by decide +kernel) (by decide +kernel)
theorem xw741 : (Cond.selects "SecurePair$Client" ({ cls := "SecurePair$Endpoint", name := "takeReply", desc := "(LSecurePair$Packet;)I" } : MethodName) ({ cls := "SecurePair$Client", name := "takeReply", desc := "(LSecurePair$Packet;)I" } : MethodName)) ∈ xa := xa_t 741 (by decide +kernel) (by decide +kernel)
theorem xw742 : (Cond.instanceMethod ({ cls := "SecurePair$Client", name := "takeReply", desc := "(LSecurePair$Packet;)I" } : MethodName)) ∈ xa := xa_t 742 (by decide +kernel) (by decide +kernel)
theorem xw743 : (Cond.code ({ cls := "SecurePair$Client", name := "takeReply", desc := "(LSecurePair$Packet;)I" } : MethodName) prog_3_method_4_code (2 : Nat) (Option.some ClassFile.FieldType.int)) ∈ xa := xa_t 743 (by decide +kernel) (by decide +kernel)
theorem xw756 : (Cond.selects "SecurePair$Server" ({ cls := "SecurePair$Endpoint", name := "takeReply", desc := "(LSecurePair$Packet;)I" } : MethodName) ({ cls := "SecurePair$Server", name := "takeReply", desc := "(LSecurePair$Packet;)I" } : MethodName)) ∈ xa := xa_t 756 (by decide +kernel) (by decide +kernel)
theorem xw757 : (Cond.instanceMethod ({ cls := "SecurePair$Server", name := "takeReply", desc := "(LSecurePair$Packet;)I" } : MethodName)) ∈ xa := xa_t 757 (by decide +kernel) (by decide +kernel)
theorem xw758 : (Cond.code ({ cls := "SecurePair$Server", name := "takeReply", desc := "(LSecurePair$Packet;)I" } : MethodName) prog_10_method_4_code (2 : Nat) (Option.some ClassFile.FieldType.int)) ∈ xa := xa_t 758 (by decide +kernel) (by decide +kernel)
theorem xw759 : (Cond.methodLink "SecurePair$Endpoint" (169 : Nat) ({ cls := "SecurePair$Endpoint", name := "takeNewKeys", desc := "()I" } : MethodName)) ∈ xa := xa_t 759 (by decide +kernel) (by decide +kernel)
theorem xw760 : (Cond.instanceMethod ({ cls := "SecurePair$Endpoint", name := "takeNewKeys", desc := "()I" } : MethodName)) ∈ xa := xa_t 760 (by decide +kernel) (by decide +kernel)
theorem xw761 : (Cond.sameMethod "SecurePair$Endpoint" "SecurePair$Endpoint" "takeNewKeys" "()I") ∈ xa := xa_t 761 (by decide +kernel) (by decide +kernel)
theorem xw762 : (Cond.selects "SecurePair$Client" ({ cls := "SecurePair$Endpoint", name := "takeNewKeys", desc := "()I" } : MethodName) ({ cls := "SecurePair$Endpoint", name := "takeNewKeys", desc := "()I" } : MethodName)) ∈ xa := xa_t 762 (by decide +kernel) (by decide +kernel)
theorem xw763 : (Cond.selects "SecurePair$Server" ({ cls := "SecurePair$Endpoint", name := "takeNewKeys", desc := "()I" } : MethodName) ({ cls := "SecurePair$Endpoint", name := "takeNewKeys", desc := "()I" } : MethodName)) ∈ xa := xa_t 763 (by decide +kernel) (by decide +kernel)
theorem xw764 : (Cond.code ({ cls := "SecurePair$Endpoint", name := "takeNewKeys", desc := "()I" } : MethodName) prog_4_method_16_code (1 : Nat) (Option.some ClassFile.FieldType.int)) ∈ xa := xa_t 764 (by decide +kernel) (by decide +kernel)
theorem xw765 : (Cond.methodLink "SecurePair$Endpoint" (173 : Nat) ({ cls := "SecurePair$Endpoint", name := "takeForChannel", desc := "(LSecurePair$Packet;)I" } : MethodName)) ∈ xa := xa_t 765 (by decide +kernel) (by decide +kernel)
theorem xw766 : (Cond.instanceMethod ({ cls := "SecurePair$Endpoint", name := "takeForChannel", desc := "(LSecurePair$Packet;)I" } : MethodName)) ∈ xa := xa_t 766 (by decide +kernel) (by decide +kernel)
theorem xw767 : (Cond.sameMethod "SecurePair$Endpoint" "SecurePair$Endpoint" "takeForChannel" "(LSecurePair$Packet;)I") ∈ xa := xa_t 767 (by decide +kernel) (by decide +kernel)
theorem xw768 : (Cond.selects "SecurePair$Client" ({ cls := "SecurePair$Endpoint", name := "takeForChannel", desc := "(LSecurePair$Packet;)I" } : MethodName) ({ cls := "SecurePair$Endpoint", name := "takeForChannel", desc := "(LSecurePair$Packet;)I" } : MethodName)) ∈ xa := xa_t 768 (by decide +kernel) (by decide +kernel)
theorem xw769 : (Cond.selects "SecurePair$Server" ({ cls := "SecurePair$Endpoint", name := "takeForChannel", desc := "(LSecurePair$Packet;)I" } : MethodName) ({ cls := "SecurePair$Endpoint", name := "takeForChannel", desc := "(LSecurePair$Packet;)I" } : MethodName)) ∈ xa := xa_t 769 (by decide +kernel) (by decide +kernel)
theorem xw770 : (Cond.code ({ cls := "SecurePair$Endpoint", name := "takeForChannel", desc := "(LSecurePair$Packet;)I" } : MethodName) prog_4_method_17_code (3 : Nat) (Option.some ClassFile.FieldType.int)) ∈ xa := xa_t 770 (by decide +kernel) (by decide +kernel)
def p_take (B : Nat) (P : Nat) (σ : xb_St) : Int32 × xb_St := (if (σ.1 P 0) = (1 : Int32) then ((0 : Int32), (p_die B (σ.2 P 1) σ)) else (if (σ.1 P 0) = (2 : Int32) then (if (σ.1 (B + 3) 0) = 0 then ((2 : Int32), σ) else ((0 : Int32), σ)) else (if (σ.1 P 0) = (20 : Int32) then ((p_takeInit B P σ).1, (p_takeInit B P σ).2) else (if (σ.1 P 0) = (21 : Int32) then ((p_takeNewKeys B σ).1, (p_takeNewKeys B σ).2) else (if (σ.1 P 0) = (30 : Int32) then (if B = 5 then ((p_Cl_share B P σ).1, (p_Cl_share B P σ).2) else ((p_Sv_share B P σ).1, (p_Sv_share B P σ).2)) else (if (σ.1 P 0) = (31 : Int32) then (if B = 5 then ((p_Cl_reply B P σ).1, (p_Cl_reply B P σ).2) else ((p_Sv_reply B P σ).1, (p_Sv_reply B P σ).2)) else (if (σ.1 P 0) = (90 : Int32) then (if (σ.1 (B + 3) 0) = 0 then ((2 : Int32), σ) else ((p_takeForChannel B P σ).1, (p_takeForChannel B P σ).2)) else (if (σ.1 P 0) = (91 : Int32) then (if (σ.1 (B + 3) 0) = 0 then ((2 : Int32), σ) else ((p_takeForChannel B P σ).1, (p_takeForChannel B P σ).2)) else (if (σ.1 P 0) = (92 : Int32) then (if (σ.1 (B + 3) 0) = 0 then ((2 : Int32), σ) else ((p_takeForChannel B P σ).1, (p_takeForChannel B P σ).2)) else (if (σ.1 P 0) = (93 : Int32) then (if (σ.1 (B + 3) 0) = 0 then ((2 : Int32), σ) else ((p_takeForChannel B P σ).1, (p_takeForChannel B P σ).2)) else (if (σ.1 P 0) = (94 : Int32) then (if (σ.1 (B + 3) 0) = 0 then ((2 : Int32), σ) else ((p_takeForChannel B P σ).1, (p_takeForChannel B P σ).2)) else (if (σ.1 P 0) = (97 : Int32) then (if (σ.1 (B + 3) 0) = 0 then ((2 : Int32), σ) else ((p_takeForChannel B P σ).1, (p_takeForChannel B P σ).2)) else ((2 : Int32), σ)))))))))))))
set_option maxHeartbeats 4000000 in
set_option maxRecDepth 100000 in
theorem c_Endpoint_take (l : Launch) (D : va_G) (α : Nat → Nat) (κ : Nat → ClassId) (hα : xb_inj α 35) (σ : xb_St) (B : Nat) (P : Nat) (iB : sp_isEndpoint B) (iP : sp_isPacket P) (ok : sp_ok σ) : Met l y_Endpoint_take w_Endpoint_take ({ frames := 5, cells := 0, slots := 0, locals := 126 }) (va_Pc ([.ref (α B), .ref (α P)]) (sp_Pre D α κ σ)) (va_Qi (fun r (u : xb_St) => r = (p_take B P σ).1 ∧ u = (p_take B P σ).2) (sp_B D α κ) (xb_A α 35)) 0 0 (xb_A α 35) := by
  refine Met.ofW (cc := b_Endpoint_take) (maxL := 2) (ret := (some .int)) (by decide) rfl ?_
  intro p e s m args below meth c s₁ B_ hml hv
  obtain ⟨rfl, hP, hK, hN⟩ := hv
  have hx := B_.exec
  have hb := B_.bytes
  have hr := B_.returns
  have hts := atoms_spec (ws := w_Endpoint_take) B_.pre
  have ht : ∀ w ∈ xa, w.before _ s = true := fun w h => hts w (List.mem_cons_of_mem _ h)
  have hown : s.vm.findClass "SecurePair$Endpoint" = some m.cls := findClass_of_methodNamed B_.named
  have hlocks := B_.notSynchronized
  have hD := sp_D hα κ
  have hS : va_S (xb_A α 35) s.heap s.heap [] := va_S.rf
  have hlA := sp_lnA_is iB
  have hlD := sp_lnD_is iB
  have hln := sp_ln_ne iB
  have hl := lv_entry ([.ref (α B), .ref (α P)]) (n := 2) (Nat.le_of_ble_eq_true rfl)
  rw [lg_entry_eq]
  generalize (lg_sl ([.ref (α B), .ref (α P)]) ++ List.replicate (2 - (lg_sl ([.ref (α B), .ref (α P)])).length) Slot.unset).toArray = ls at hl ⊢
  have hl : lv_has ls 2 [(0, .ref (α B)), (1, .ref (α P))] := hl
  refine lv_aload_n hx hb d_Endpoint_take_0 rfl (lv_at hl 1 rfl) ?_
  refine sp_g_Packet (v := .int (σ.1 P 0)) hx hb ht hown hK hP iP 0 (by decide) (ht _ xw62) (fun _ h_ => h_) rfl d_Endpoint_take_1 ?_
  by_cases c1 : (σ.1 P 0) = (1 : Int32)
  · skip
    refine lv_lookup (off := 108) (tgt := 112) hx hb d_Endpoint_take_4 (by decide) (by rw [c1]; rfl) (by decide) ?_
    refine lv_aload_n hx hb d_Endpoint_take_112 rfl (lv_at hl 0 rfl) ?_
    refine lv_aload_n hx hb d_Endpoint_take_113 rfl (lv_at hl 1 rfl) ?_
    refine sp_g_Packet (v := .long (σ.2 P 1)) hx hb ht hown hK hP iP 1 (by decide) (ht _ xw67) (fun _ h_ => h_) rfl d_Endpoint_take_114 ?_
    refine sp_cv (sp_runE (n := 1) (As := [.long (σ.2 P 1)]) (rest := []) ⟨hx, hb, hml, hown, hts⟩ (c_Endpoint_die l D α κ hα σ B (σ.2 P 1) iB) iB xw406 xw408 xw409 xw410 xw407 xw3 xw411 rfl rfl rfl (by decide +kernel) ⟨Nat.le_of_ble_eq_true rfl, Nat.le_of_ble_eq_true rfl⟩ hP hK hN rfl rfl hl.1 rfl (lv_room (Nat.le_of_ble_eq_true rfl)) d_Endpoint_take_117 ⟨Nat.le_of_ble_eq_true rfl, Nat.le_of_ble_eq_true rfl⟩) hS (fun _ h_ => h_) (fun H locs hP hS => ?_)
    obtain ⟨τ1, hτ1⟩ : ∃ t_, t_ = (p_die B (σ.2 P 1) σ) := ⟨_, rfl⟩
    rw [← hτ1] at hP
    have okτ1 : sp_ok τ1 := by rw [hτ1]; exact (ok_p_die B (σ.2 P 1) iB ok)
    refine lv_iconst (v := 0) hx hb d_Endpoint_take_120 (by decide) ?_
    exact W.iret (v := (0 : Int32)) hx hb hr (fun t ht_ hW => ⟨⟨(0 : Int32), τ1, rfl, ⟨congrArg Prod.fst (((by subst hτ1; exact ((if_pos c1)).symm)) : ((0 : Int32), τ1) = p_take B P σ), congrArg Prod.snd (((by subst hτ1; exact ((if_pos c1)).symm)) : ((0 : Int32), τ1) = p_take B P σ)⟩, by rw [sp_B, ht_]; exact hP⟩, hS.F ht_⟩) hS.2.2 d_Endpoint_take_121
  · skip
    by_cases c2 : (σ.1 P 0) = (2 : Int32)
    · skip
      refine lv_lookup (off := 118) (tgt := 122) hx hb d_Endpoint_take_4 (by decide) (by rw [c2]; rfl) (by decide) ?_
      refine lv_aload_n hx hb d_Endpoint_take_122 rfl (lv_at hl 0 rfl) ?_
      refine sp_g_Endpoint (v := .ref (α (B + 3))) hx hb ht hown hK hP iB 5 (by decide) (ht _ xw235) (fun _ h_ => h_) rfl d_Endpoint_take_123 ?_
      refine sp_g_Keys (v := .int (σ.1 (B + 3) 0)) hx hb ht hown hK hP (by omega) 0 (by decide) (ht _ xw103) (fun _ h_ => h_) rfl d_Endpoint_take_126 ?_
      refine lv_if_eq (tgt := 136) hx hb d_Endpoint_take_129 (by decide) (fun c3 => ?_) (fun c3 => ?_)
      · skip
        refine lv_iconst (v := 2) hx hb d_Endpoint_take_136 (by decide) ?_
        exact W.iret (v := (2 : Int32)) hx hb hr (fun t ht_ hW => ⟨⟨(2 : Int32), σ, rfl, ⟨congrArg Prod.fst ((((if_neg c1).trans ((if_pos c2).trans ((if_pos c3)))).symm) : ((2 : Int32), σ) = p_take B P σ), congrArg Prod.snd ((((if_neg c1).trans ((if_pos c2).trans ((if_pos c3)))).symm) : ((2 : Int32), σ) = p_take B P σ)⟩, by rw [sp_B, ht_]; exact hP⟩, hS.F ht_⟩) hS.2.2 d_Endpoint_take_137
      · skip
        refine lv_iconst (v := 0) hx hb d_Endpoint_take_132 (by decide) ?_
        refine lv_goto (tgt := 137) hx hb d_Endpoint_take_133 (by decide) ?_
        exact W.iret (v := (0 : Int32)) hx hb hr (fun t ht_ hW => ⟨⟨(0 : Int32), σ, rfl, ⟨congrArg Prod.fst ((((if_neg c1).trans ((if_pos c2).trans ((if_neg c3)))).symm) : ((0 : Int32), σ) = p_take B P σ), congrArg Prod.snd ((((if_neg c1).trans ((if_pos c2).trans ((if_neg c3)))).symm) : ((0 : Int32), σ) = p_take B P σ)⟩, by rw [sp_B, ht_]; exact hP⟩, hS.F ht_⟩) hS.2.2 d_Endpoint_take_137
    · skip
      by_cases c4 : (σ.1 P 0) = (20 : Int32)
      · skip
        refine lv_lookup (off := 134) (tgt := 138) hx hb d_Endpoint_take_4 (by decide) (by rw [c4]; rfl) (by decide) ?_
        refine lv_aload_n hx hb d_Endpoint_take_138 rfl (lv_at hl 0 rfl) ?_
        refine lv_aload_n hx hb d_Endpoint_take_139 rfl (lv_at hl 1 rfl) ?_
        refine sp_ci (sp_runE (n := 1) (As := [.ref (α P)]) (rest := []) ⟨hx, hb, hml, hown, hts⟩ (c_Endpoint_takeInit l D α κ hα σ B P iB iP ok) iB xw649 xw651 xw652 xw653 xw650 xw3 xw654 rfl rfl rfl (by decide +kernel) ⟨Nat.le_of_ble_eq_true rfl, Nat.le_of_ble_eq_true rfl⟩ hP hK hN rfl rfl hl.1 rfl (lv_room (Nat.le_of_ble_eq_true rfl)) d_Endpoint_take_140 ⟨Nat.le_of_ble_eq_true rfl, Nat.le_of_ble_eq_true rfl⟩) hS (fun _ h_ => h_) (fun H locs hP hS => ?_)
        obtain ⟨τ2, hτ2⟩ : ∃ t_, t_ = (p_takeInit B P σ).2 := ⟨_, rfl⟩
        rw [← hτ2] at hP
        have okτ2 : sp_ok τ2 := by rw [hτ2]; exact (ok_p_takeInit B P iB iP ok)
        obtain ⟨ρ2, hρ2⟩ : ∃ r_, r_ = (p_takeInit B P σ).1 := ⟨_, rfl⟩
        refine xb_ti (y := ρ2) hρ2.symm ?_
        exact W.iret (v := ρ2) hx hb hr (fun t ht_ hW => ⟨⟨ρ2, τ2, rfl, ⟨congrArg Prod.fst (((by subst hρ2; subst hτ2; exact ((if_neg c1).trans ((if_neg c2).trans ((if_pos c4)))).symm)) : (ρ2, τ2) = p_take B P σ), congrArg Prod.snd (((by subst hρ2; subst hτ2; exact ((if_neg c1).trans ((if_neg c2).trans ((if_pos c4)))).symm)) : (ρ2, τ2) = p_take B P σ)⟩, by rw [sp_B, ht_]; exact hP⟩, hS.F ht_⟩) hS.2.2 d_Endpoint_take_143
      · skip
        by_cases c5 : (σ.1 P 0) = (21 : Int32)
        · skip
          refine lv_lookup (off := 152) (tgt := 156) hx hb d_Endpoint_take_4 (by decide) (by rw [c5]; rfl) (by decide) ?_
          refine lv_aload_n hx hb d_Endpoint_take_156 rfl (lv_at hl 0 rfl) ?_
          refine sp_ci (sp_runE (n := 0) (As := []) (rest := []) ⟨hx, hb, hml, hown, hts⟩ (c_Endpoint_takeNewKeys l D α κ hα σ B iB) iB xw759 xw761 xw762 xw763 xw760 xw3 xw764 rfl rfl rfl (by decide +kernel) ⟨Nat.le_of_ble_eq_true rfl, Nat.le_of_ble_eq_true rfl⟩ hP hK hN rfl rfl hl.1 rfl (lv_room (Nat.le_of_ble_eq_true rfl)) d_Endpoint_take_157 ⟨Nat.le_of_ble_eq_true rfl, Nat.le_of_ble_eq_true rfl⟩) hS (fun _ h_ => h_) (fun H locs hP hS => ?_)
          obtain ⟨τ3, hτ3⟩ : ∃ t_, t_ = (p_takeNewKeys B σ).2 := ⟨_, rfl⟩
          rw [← hτ3] at hP
          have okτ3 : sp_ok τ3 := by rw [hτ3]; exact (ok_p_takeNewKeys B iB ok)
          obtain ⟨ρ3, hρ3⟩ : ∃ r_, r_ = (p_takeNewKeys B σ).1 := ⟨_, rfl⟩
          refine xb_ti (y := ρ3) hρ3.symm ?_
          exact W.iret (v := ρ3) hx hb hr (fun t ht_ hW => ⟨⟨ρ3, τ3, rfl, ⟨congrArg Prod.fst (((by subst hρ3; subst hτ3; exact ((if_neg c1).trans ((if_neg c2).trans ((if_neg c4).trans ((if_pos c5))))).symm)) : (ρ3, τ3) = p_take B P σ), congrArg Prod.snd (((by subst hρ3; subst hτ3; exact ((if_neg c1).trans ((if_neg c2).trans ((if_neg c4).trans ((if_pos c5))))).symm)) : (ρ3, τ3) = p_take B P σ)⟩, by rw [sp_B, ht_]; exact hP⟩, hS.F ht_⟩) hS.2.2 d_Endpoint_take_160
        · skip
          by_cases c6 : (σ.1 P 0) = (30 : Int32)
          · skip
            refine lv_lookup (off := 140) (tgt := 144) hx hb d_Endpoint_take_4 (by decide) (by rw [c6]; rfl) (by decide) ?_
            refine lv_aload_n hx hb d_Endpoint_take_144 rfl (lv_at hl 0 rfl) ?_
            refine lv_aload_n hx hb d_Endpoint_take_145 rfl (lv_at hl 1 rfl) ?_
            by_cases c7 : B = 5
            · skip
              refine sp_ci (va_runU (As := [.ref (α P)]) (rest := []) ⟨hx, hb, hml, hown, hts⟩ (c_Client_takeShare l D α κ hα σ B P c7 iP) (va_cwA (C := "SecurePair$Client") (owner := "SecurePair$Endpoint") (x := ⟨"SecurePair$Endpoint", "takeShare", "(LSecurePair$Packet;)I"⟩) 1 hts (xa_U xw692 xw694 xw695 xw696 xw4 xw697) rfl rfl rfl (hN.dat 2 rfl) ⟨by decide, by decide, by decide +kernel⟩ ⟨Nat.le_of_ble_eq_true rfl, Nat.le_of_ble_eq_true rfl⟩) ⟨sp_blind, va_recv hK hP rfl (sp_at_Client c7), sp_pre hP hK hN _⟩ rfl rfl hl.1 rfl (lv_room (Nat.le_of_ble_eq_true rfl)) d_Endpoint_take_146 ⟨Nat.le_of_ble_eq_true rfl, Nat.le_of_ble_eq_true rfl⟩) hS (fun _ h_ => h_) (fun H locs hP hS => ?_)
              obtain ⟨τ4, hτ4⟩ : ∃ t_, t_ = (p_Cl_share B P σ).2 := ⟨_, rfl⟩
              rw [← hτ4] at hP
              have okτ4 : sp_ok τ4 := by rw [hτ4]; exact (ok_p_Cl_share B P c7 iP ok)
              obtain ⟨ρ4, hρ4⟩ : ∃ r_, r_ = (p_Cl_share B P σ).1 := ⟨_, rfl⟩
              refine xb_ti (y := ρ4) hρ4.symm ?_
              exact W.iret (v := ρ4) hx hb hr (fun t ht_ hW => ⟨⟨ρ4, τ4, rfl, ⟨congrArg Prod.fst (((by subst hρ4; subst hτ4; exact ((if_neg c1).trans ((if_neg c2).trans ((if_neg c4).trans ((if_neg c5).trans ((if_pos c6).trans ((if_pos c7))))))).symm)) : (ρ4, τ4) = p_take B P σ), congrArg Prod.snd (((by subst hρ4; subst hτ4; exact ((if_neg c1).trans ((if_neg c2).trans ((if_neg c4).trans ((if_neg c5).trans ((if_pos c6).trans ((if_pos c7))))))).symm)) : (ρ4, τ4) = p_take B P σ)⟩, by rw [sp_B, ht_]; exact hP⟩, hS.F ht_⟩) hS.2.2 d_Endpoint_take_149
            · skip
              have ec7 : B = 20 := by omega
              refine sp_ci (va_runU (As := [.ref (α P)]) (rest := []) ⟨hx, hb, hml, hown, hts⟩ (c_Server_takeShare l D α κ hα σ B P ec7 iP ok) (va_cwA (C := "SecurePair$Server") (owner := "SecurePair$Endpoint") (x := ⟨"SecurePair$Endpoint", "takeShare", "(LSecurePair$Packet;)I"⟩) 1 hts (xa_U xw692 xw694 xw698 xw699 xw10 xw700) rfl rfl rfl (hN.dat 2 rfl) ⟨by decide, by decide, by decide +kernel⟩ ⟨Nat.le_of_ble_eq_true rfl, Nat.le_of_ble_eq_true rfl⟩) ⟨sp_blind, va_recv hK hP rfl (sp_at_Server ec7), sp_pre hP hK hN _⟩ rfl rfl hl.1 rfl (lv_room (Nat.le_of_ble_eq_true rfl)) d_Endpoint_take_146 ⟨Nat.le_of_ble_eq_true rfl, Nat.le_of_ble_eq_true rfl⟩) hS (fun _ h_ => h_) (fun H locs hP hS => ?_)
              obtain ⟨τ5, hτ5⟩ : ∃ t_, t_ = (p_Sv_share B P σ).2 := ⟨_, rfl⟩
              rw [← hτ5] at hP
              have okτ5 : sp_ok τ5 := by rw [hτ5]; exact (ok_p_Sv_share B P ec7 iP ok)
              obtain ⟨ρ5, hρ5⟩ : ∃ r_, r_ = (p_Sv_share B P σ).1 := ⟨_, rfl⟩
              refine xb_ti (y := ρ5) hρ5.symm ?_
              exact W.iret (v := ρ5) hx hb hr (fun t ht_ hW => ⟨⟨ρ5, τ5, rfl, ⟨congrArg Prod.fst (((by subst hρ5; subst hτ5; exact ((if_neg c1).trans ((if_neg c2).trans ((if_neg c4).trans ((if_neg c5).trans ((if_pos c6).trans ((if_neg c7))))))).symm)) : (ρ5, τ5) = p_take B P σ), congrArg Prod.snd (((by subst hρ5; subst hτ5; exact ((if_neg c1).trans ((if_neg c2).trans ((if_neg c4).trans ((if_neg c5).trans ((if_pos c6).trans ((if_neg c7))))))).symm)) : (ρ5, τ5) = p_take B P σ)⟩, by rw [sp_B, ht_]; exact hP⟩, hS.F ht_⟩) hS.2.2 d_Endpoint_take_149
          · skip
            by_cases c8 : (σ.1 P 0) = (31 : Int32)
            · skip
              refine lv_lookup (off := 146) (tgt := 150) hx hb d_Endpoint_take_4 (by decide) (by rw [c8]; rfl) (by decide) ?_
              refine lv_aload_n hx hb d_Endpoint_take_150 rfl (lv_at hl 0 rfl) ?_
              refine lv_aload_n hx hb d_Endpoint_take_151 rfl (lv_at hl 1 rfl) ?_
              by_cases c9 : B = 5
              · skip
                refine sp_ci (va_runU (As := [.ref (α P)]) (rest := []) ⟨hx, hb, hml, hown, hts⟩ (c_Client_takeReply l D α κ hα σ B P c9 iP ok) (va_cwA (C := "SecurePair$Client") (owner := "SecurePair$Endpoint") (x := ⟨"SecurePair$Endpoint", "takeReply", "(LSecurePair$Packet;)I"⟩) 1 hts (xa_U xw738 xw740 xw741 xw742 xw4 xw743) rfl rfl rfl (hN.dat 4 rfl) ⟨by decide, by decide, by decide +kernel⟩ ⟨Nat.le_of_ble_eq_true rfl, Nat.le_of_ble_eq_true rfl⟩) ⟨sp_blind, va_recv hK hP rfl (sp_at_Client c9), sp_pre hP hK hN _⟩ rfl rfl hl.1 rfl (lv_room (Nat.le_of_ble_eq_true rfl)) d_Endpoint_take_152 ⟨Nat.le_of_ble_eq_true rfl, Nat.le_of_ble_eq_true rfl⟩) hS (fun _ h_ => h_) (fun H locs hP hS => ?_)
                obtain ⟨τ6, hτ6⟩ : ∃ t_, t_ = (p_Cl_reply B P σ).2 := ⟨_, rfl⟩
                rw [← hτ6] at hP
                have okτ6 : sp_ok τ6 := by rw [hτ6]; exact (ok_p_Cl_reply B P c9 iP ok)
                obtain ⟨ρ6, hρ6⟩ : ∃ r_, r_ = (p_Cl_reply B P σ).1 := ⟨_, rfl⟩
                refine xb_ti (y := ρ6) hρ6.symm ?_
                exact W.iret (v := ρ6) hx hb hr (fun t ht_ hW => ⟨⟨ρ6, τ6, rfl, ⟨congrArg Prod.fst (((by subst hρ6; subst hτ6; exact ((if_neg c1).trans ((if_neg c2).trans ((if_neg c4).trans ((if_neg c5).trans ((if_neg c6).trans ((if_pos c8).trans ((if_pos c9)))))))).symm)) : (ρ6, τ6) = p_take B P σ), congrArg Prod.snd (((by subst hρ6; subst hτ6; exact ((if_neg c1).trans ((if_neg c2).trans ((if_neg c4).trans ((if_neg c5).trans ((if_neg c6).trans ((if_pos c8).trans ((if_pos c9)))))))).symm)) : (ρ6, τ6) = p_take B P σ)⟩, by rw [sp_B, ht_]; exact hP⟩, hS.F ht_⟩) hS.2.2 d_Endpoint_take_155
              · skip
                have ec9 : B = 20 := by omega
                refine sp_ci (va_runU (As := [.ref (α P)]) (rest := []) ⟨hx, hb, hml, hown, hts⟩ (c_Server_takeReply l D α κ hα σ B P ec9 iP) (va_cwA (C := "SecurePair$Server") (owner := "SecurePair$Endpoint") (x := ⟨"SecurePair$Endpoint", "takeReply", "(LSecurePair$Packet;)I"⟩) 1 hts (xa_U xw738 xw740 xw756 xw757 xw10 xw758) rfl rfl rfl (hN.dat 4 rfl) ⟨by decide, by decide, by decide +kernel⟩ ⟨Nat.le_of_ble_eq_true rfl, Nat.le_of_ble_eq_true rfl⟩) ⟨sp_blind, va_recv hK hP rfl (sp_at_Server ec9), sp_pre hP hK hN _⟩ rfl rfl hl.1 rfl (lv_room (Nat.le_of_ble_eq_true rfl)) d_Endpoint_take_152 ⟨Nat.le_of_ble_eq_true rfl, Nat.le_of_ble_eq_true rfl⟩) hS (fun _ h_ => h_) (fun H locs hP hS => ?_)
                obtain ⟨τ7, hτ7⟩ : ∃ t_, t_ = (p_Sv_reply B P σ).2 := ⟨_, rfl⟩
                rw [← hτ7] at hP
                have okτ7 : sp_ok τ7 := by rw [hτ7]; exact (ok_p_Sv_reply B P ec9 iP ok)
                obtain ⟨ρ7, hρ7⟩ : ∃ r_, r_ = (p_Sv_reply B P σ).1 := ⟨_, rfl⟩
                refine xb_ti (y := ρ7) hρ7.symm ?_
                exact W.iret (v := ρ7) hx hb hr (fun t ht_ hW => ⟨⟨ρ7, τ7, rfl, ⟨congrArg Prod.fst (((by subst hρ7; subst hτ7; exact ((if_neg c1).trans ((if_neg c2).trans ((if_neg c4).trans ((if_neg c5).trans ((if_neg c6).trans ((if_pos c8).trans ((if_neg c9)))))))).symm)) : (ρ7, τ7) = p_take B P σ), congrArg Prod.snd (((by subst hρ7; subst hτ7; exact ((if_neg c1).trans ((if_neg c2).trans ((if_neg c4).trans ((if_neg c5).trans ((if_neg c6).trans ((if_pos c8).trans ((if_neg c9)))))))).symm)) : (ρ7, τ7) = p_take B P σ)⟩, by rw [sp_B, ht_]; exact hP⟩, hS.F ht_⟩) hS.2.2 d_Endpoint_take_155
            · skip
              by_cases c10 : (σ.1 P 0) = (90 : Int32)
              · skip
                refine lv_lookup (off := 157) (tgt := 161) hx hb d_Endpoint_take_4 (by decide) (by rw [c10]; rfl) (by decide) ?_
                refine lv_aload_n hx hb d_Endpoint_take_161 rfl (lv_at hl 0 rfl) ?_
                refine sp_g_Endpoint (v := .ref (α (B + 3))) hx hb ht hown hK hP iB 5 (by decide) (ht _ xw235) (fun _ h_ => h_) rfl d_Endpoint_take_162 ?_
                refine sp_g_Keys (v := .int (σ.1 (B + 3) 0)) hx hb ht hown hK hP (by omega) 0 (by decide) (ht _ xw103) (fun _ h_ => h_) rfl d_Endpoint_take_165 ?_
                refine lv_if_eq (tgt := 179) hx hb d_Endpoint_take_168 (by decide) (fun c11 => ?_) (fun c11 => ?_)
                · skip
                  refine lv_iconst (v := 2) hx hb d_Endpoint_take_179 (by decide) ?_
                  exact W.iret (v := (2 : Int32)) hx hb hr (fun t ht_ hW => ⟨⟨(2 : Int32), σ, rfl, ⟨congrArg Prod.fst ((((if_neg c1).trans ((if_neg c2).trans ((if_neg c4).trans ((if_neg c5).trans ((if_neg c6).trans ((if_neg c8).trans ((if_pos c10).trans ((if_pos c11))))))))).symm) : ((2 : Int32), σ) = p_take B P σ), congrArg Prod.snd ((((if_neg c1).trans ((if_neg c2).trans ((if_neg c4).trans ((if_neg c5).trans ((if_neg c6).trans ((if_neg c8).trans ((if_pos c10).trans ((if_pos c11))))))))).symm) : ((2 : Int32), σ) = p_take B P σ)⟩, by rw [sp_B, ht_]; exact hP⟩, hS.F ht_⟩) hS.2.2 d_Endpoint_take_180
                · skip
                  refine lv_aload_n hx hb d_Endpoint_take_171 rfl (lv_at hl 0 rfl) ?_
                  refine lv_aload_n hx hb d_Endpoint_take_172 rfl (lv_at hl 1 rfl) ?_
                  refine sp_ci (sp_runE (n := 1) (As := [.ref (α P)]) (rest := []) ⟨hx, hb, hml, hown, hts⟩ (c_Endpoint_takeForChannel l D α κ hα σ B P iB iP ok) iB xw765 xw767 xw768 xw769 xw766 xw3 xw770 rfl rfl rfl (by decide +kernel) ⟨Nat.le_of_ble_eq_true rfl, Nat.le_of_ble_eq_true rfl⟩ hP hK hN rfl rfl hl.1 rfl (lv_room (Nat.le_of_ble_eq_true rfl)) d_Endpoint_take_173 ⟨Nat.le_of_ble_eq_true rfl, Nat.le_of_ble_eq_true rfl⟩) hS (fun _ h_ => h_) (fun H locs hP hS => ?_)
                  obtain ⟨τ8, hτ8⟩ : ∃ t_, t_ = (p_takeForChannel B P σ).2 := ⟨_, rfl⟩
                  rw [← hτ8] at hP
                  have okτ8 : sp_ok τ8 := by rw [hτ8]; exact (ok_p_takeForChannel B P iB iP ok)
                  obtain ⟨ρ8, hρ8⟩ : ∃ r_, r_ = (p_takeForChannel B P σ).1 := ⟨_, rfl⟩
                  refine xb_ti (y := ρ8) hρ8.symm ?_
                  refine lv_goto (tgt := 180) hx hb d_Endpoint_take_176 (by decide) ?_
                  exact W.iret (v := ρ8) hx hb hr (fun t ht_ hW => ⟨⟨ρ8, τ8, rfl, ⟨congrArg Prod.fst (((by subst hρ8; subst hτ8; exact ((if_neg c1).trans ((if_neg c2).trans ((if_neg c4).trans ((if_neg c5).trans ((if_neg c6).trans ((if_neg c8).trans ((if_pos c10).trans ((if_neg c11))))))))).symm)) : (ρ8, τ8) = p_take B P σ), congrArg Prod.snd (((by subst hρ8; subst hτ8; exact ((if_neg c1).trans ((if_neg c2).trans ((if_neg c4).trans ((if_neg c5).trans ((if_neg c6).trans ((if_neg c8).trans ((if_pos c10).trans ((if_neg c11))))))))).symm)) : (ρ8, τ8) = p_take B P σ)⟩, by rw [sp_B, ht_]; exact hP⟩, hS.F ht_⟩) hS.2.2 d_Endpoint_take_180
              · skip
                by_cases c12 : (σ.1 P 0) = (91 : Int32)
                · skip
                  refine lv_lookup (off := 157) (tgt := 161) hx hb d_Endpoint_take_4 (by decide) (by rw [c12]; rfl) (by decide) ?_
                  refine lv_aload_n hx hb d_Endpoint_take_161 rfl (lv_at hl 0 rfl) ?_
                  refine sp_g_Endpoint (v := .ref (α (B + 3))) hx hb ht hown hK hP iB 5 (by decide) (ht _ xw235) (fun _ h_ => h_) rfl d_Endpoint_take_162 ?_
                  refine sp_g_Keys (v := .int (σ.1 (B + 3) 0)) hx hb ht hown hK hP (by omega) 0 (by decide) (ht _ xw103) (fun _ h_ => h_) rfl d_Endpoint_take_165 ?_
                  refine lv_if_eq (tgt := 179) hx hb d_Endpoint_take_168 (by decide) (fun c13 => ?_) (fun c13 => ?_)
                  · skip
                    refine lv_iconst (v := 2) hx hb d_Endpoint_take_179 (by decide) ?_
                    exact W.iret (v := (2 : Int32)) hx hb hr (fun t ht_ hW => ⟨⟨(2 : Int32), σ, rfl, ⟨congrArg Prod.fst ((((if_neg c1).trans ((if_neg c2).trans ((if_neg c4).trans ((if_neg c5).trans ((if_neg c6).trans ((if_neg c8).trans ((if_neg c10).trans ((if_pos c12).trans ((if_pos c13)))))))))).symm) : ((2 : Int32), σ) = p_take B P σ), congrArg Prod.snd ((((if_neg c1).trans ((if_neg c2).trans ((if_neg c4).trans ((if_neg c5).trans ((if_neg c6).trans ((if_neg c8).trans ((if_neg c10).trans ((if_pos c12).trans ((if_pos c13)))))))))).symm) : ((2 : Int32), σ) = p_take B P σ)⟩, by rw [sp_B, ht_]; exact hP⟩, hS.F ht_⟩) hS.2.2 d_Endpoint_take_180
                  · skip
                    refine lv_aload_n hx hb d_Endpoint_take_171 rfl (lv_at hl 0 rfl) ?_
                    refine lv_aload_n hx hb d_Endpoint_take_172 rfl (lv_at hl 1 rfl) ?_
                    refine sp_ci (sp_runE (n := 1) (As := [.ref (α P)]) (rest := []) ⟨hx, hb, hml, hown, hts⟩ (c_Endpoint_takeForChannel l D α κ hα σ B P iB iP ok) iB xw765 xw767 xw768 xw769 xw766 xw3 xw770 rfl rfl rfl (by decide +kernel) ⟨Nat.le_of_ble_eq_true rfl, Nat.le_of_ble_eq_true rfl⟩ hP hK hN rfl rfl hl.1 rfl (lv_room (Nat.le_of_ble_eq_true rfl)) d_Endpoint_take_173 ⟨Nat.le_of_ble_eq_true rfl, Nat.le_of_ble_eq_true rfl⟩) hS (fun _ h_ => h_) (fun H locs hP hS => ?_)
                    obtain ⟨τ9, hτ9⟩ : ∃ t_, t_ = (p_takeForChannel B P σ).2 := ⟨_, rfl⟩
                    rw [← hτ9] at hP
                    have okτ9 : sp_ok τ9 := by rw [hτ9]; exact (ok_p_takeForChannel B P iB iP ok)
                    obtain ⟨ρ9, hρ9⟩ : ∃ r_, r_ = (p_takeForChannel B P σ).1 := ⟨_, rfl⟩
                    refine xb_ti (y := ρ9) hρ9.symm ?_
                    refine lv_goto (tgt := 180) hx hb d_Endpoint_take_176 (by decide) ?_
                    exact W.iret (v := ρ9) hx hb hr (fun t ht_ hW => ⟨⟨ρ9, τ9, rfl, ⟨congrArg Prod.fst (((by subst hρ9; subst hτ9; exact ((if_neg c1).trans ((if_neg c2).trans ((if_neg c4).trans ((if_neg c5).trans ((if_neg c6).trans ((if_neg c8).trans ((if_neg c10).trans ((if_pos c12).trans ((if_neg c13)))))))))).symm)) : (ρ9, τ9) = p_take B P σ), congrArg Prod.snd (((by subst hρ9; subst hτ9; exact ((if_neg c1).trans ((if_neg c2).trans ((if_neg c4).trans ((if_neg c5).trans ((if_neg c6).trans ((if_neg c8).trans ((if_neg c10).trans ((if_pos c12).trans ((if_neg c13)))))))))).symm)) : (ρ9, τ9) = p_take B P σ)⟩, by rw [sp_B, ht_]; exact hP⟩, hS.F ht_⟩) hS.2.2 d_Endpoint_take_180
                · skip
                  by_cases c14 : (σ.1 P 0) = (92 : Int32)
                  · skip
                    refine lv_lookup (off := 157) (tgt := 161) hx hb d_Endpoint_take_4 (by decide) (by rw [c14]; rfl) (by decide) ?_
                    refine lv_aload_n hx hb d_Endpoint_take_161 rfl (lv_at hl 0 rfl) ?_
                    refine sp_g_Endpoint (v := .ref (α (B + 3))) hx hb ht hown hK hP iB 5 (by decide) (ht _ xw235) (fun _ h_ => h_) rfl d_Endpoint_take_162 ?_
                    refine sp_g_Keys (v := .int (σ.1 (B + 3) 0)) hx hb ht hown hK hP (by omega) 0 (by decide) (ht _ xw103) (fun _ h_ => h_) rfl d_Endpoint_take_165 ?_
                    refine lv_if_eq (tgt := 179) hx hb d_Endpoint_take_168 (by decide) (fun c15 => ?_) (fun c15 => ?_)
                    · skip
                      refine lv_iconst (v := 2) hx hb d_Endpoint_take_179 (by decide) ?_
                      exact W.iret (v := (2 : Int32)) hx hb hr (fun t ht_ hW => ⟨⟨(2 : Int32), σ, rfl, ⟨congrArg Prod.fst ((((if_neg c1).trans ((if_neg c2).trans ((if_neg c4).trans ((if_neg c5).trans ((if_neg c6).trans ((if_neg c8).trans ((if_neg c10).trans ((if_neg c12).trans ((if_pos c14).trans ((if_pos c15))))))))))).symm) : ((2 : Int32), σ) = p_take B P σ), congrArg Prod.snd ((((if_neg c1).trans ((if_neg c2).trans ((if_neg c4).trans ((if_neg c5).trans ((if_neg c6).trans ((if_neg c8).trans ((if_neg c10).trans ((if_neg c12).trans ((if_pos c14).trans ((if_pos c15))))))))))).symm) : ((2 : Int32), σ) = p_take B P σ)⟩, by rw [sp_B, ht_]; exact hP⟩, hS.F ht_⟩) hS.2.2 d_Endpoint_take_180
                    · skip
                      refine lv_aload_n hx hb d_Endpoint_take_171 rfl (lv_at hl 0 rfl) ?_
                      refine lv_aload_n hx hb d_Endpoint_take_172 rfl (lv_at hl 1 rfl) ?_
                      refine sp_ci (sp_runE (n := 1) (As := [.ref (α P)]) (rest := []) ⟨hx, hb, hml, hown, hts⟩ (c_Endpoint_takeForChannel l D α κ hα σ B P iB iP ok) iB xw765 xw767 xw768 xw769 xw766 xw3 xw770 rfl rfl rfl (by decide +kernel) ⟨Nat.le_of_ble_eq_true rfl, Nat.le_of_ble_eq_true rfl⟩ hP hK hN rfl rfl hl.1 rfl (lv_room (Nat.le_of_ble_eq_true rfl)) d_Endpoint_take_173 ⟨Nat.le_of_ble_eq_true rfl, Nat.le_of_ble_eq_true rfl⟩) hS (fun _ h_ => h_) (fun H locs hP hS => ?_)
                      obtain ⟨τ10, hτ10⟩ : ∃ t_, t_ = (p_takeForChannel B P σ).2 := ⟨_, rfl⟩
                      rw [← hτ10] at hP
                      have okτ10 : sp_ok τ10 := by rw [hτ10]; exact (ok_p_takeForChannel B P iB iP ok)
                      obtain ⟨ρ10, hρ10⟩ : ∃ r_, r_ = (p_takeForChannel B P σ).1 := ⟨_, rfl⟩
                      refine xb_ti (y := ρ10) hρ10.symm ?_
                      refine lv_goto (tgt := 180) hx hb d_Endpoint_take_176 (by decide) ?_
                      exact W.iret (v := ρ10) hx hb hr (fun t ht_ hW => ⟨⟨ρ10, τ10, rfl, ⟨congrArg Prod.fst (((by subst hρ10; subst hτ10; exact ((if_neg c1).trans ((if_neg c2).trans ((if_neg c4).trans ((if_neg c5).trans ((if_neg c6).trans ((if_neg c8).trans ((if_neg c10).trans ((if_neg c12).trans ((if_pos c14).trans ((if_neg c15))))))))))).symm)) : (ρ10, τ10) = p_take B P σ), congrArg Prod.snd (((by subst hρ10; subst hτ10; exact ((if_neg c1).trans ((if_neg c2).trans ((if_neg c4).trans ((if_neg c5).trans ((if_neg c6).trans ((if_neg c8).trans ((if_neg c10).trans ((if_neg c12).trans ((if_pos c14).trans ((if_neg c15))))))))))).symm)) : (ρ10, τ10) = p_take B P σ)⟩, by rw [sp_B, ht_]; exact hP⟩, hS.F ht_⟩) hS.2.2 d_Endpoint_take_180
                  · skip
                    by_cases c16 : (σ.1 P 0) = (93 : Int32)
                    · skip
                      refine lv_lookup (off := 157) (tgt := 161) hx hb d_Endpoint_take_4 (by decide) (by rw [c16]; rfl) (by decide) ?_
                      refine lv_aload_n hx hb d_Endpoint_take_161 rfl (lv_at hl 0 rfl) ?_
                      refine sp_g_Endpoint (v := .ref (α (B + 3))) hx hb ht hown hK hP iB 5 (by decide) (ht _ xw235) (fun _ h_ => h_) rfl d_Endpoint_take_162 ?_
                      refine sp_g_Keys (v := .int (σ.1 (B + 3) 0)) hx hb ht hown hK hP (by omega) 0 (by decide) (ht _ xw103) (fun _ h_ => h_) rfl d_Endpoint_take_165 ?_
                      refine lv_if_eq (tgt := 179) hx hb d_Endpoint_take_168 (by decide) (fun c17 => ?_) (fun c17 => ?_)
                      · skip
                        refine lv_iconst (v := 2) hx hb d_Endpoint_take_179 (by decide) ?_
                        exact W.iret (v := (2 : Int32)) hx hb hr (fun t ht_ hW => ⟨⟨(2 : Int32), σ, rfl, ⟨congrArg Prod.fst ((((if_neg c1).trans ((if_neg c2).trans ((if_neg c4).trans ((if_neg c5).trans ((if_neg c6).trans ((if_neg c8).trans ((if_neg c10).trans ((if_neg c12).trans ((if_neg c14).trans ((if_pos c16).trans ((if_pos c17)))))))))))).symm) : ((2 : Int32), σ) = p_take B P σ), congrArg Prod.snd ((((if_neg c1).trans ((if_neg c2).trans ((if_neg c4).trans ((if_neg c5).trans ((if_neg c6).trans ((if_neg c8).trans ((if_neg c10).trans ((if_neg c12).trans ((if_neg c14).trans ((if_pos c16).trans ((if_pos c17)))))))))))).symm) : ((2 : Int32), σ) = p_take B P σ)⟩, by rw [sp_B, ht_]; exact hP⟩, hS.F ht_⟩) hS.2.2 d_Endpoint_take_180
                      · skip
                        refine lv_aload_n hx hb d_Endpoint_take_171 rfl (lv_at hl 0 rfl) ?_
                        refine lv_aload_n hx hb d_Endpoint_take_172 rfl (lv_at hl 1 rfl) ?_
                        refine sp_ci (sp_runE (n := 1) (As := [.ref (α P)]) (rest := []) ⟨hx, hb, hml, hown, hts⟩ (c_Endpoint_takeForChannel l D α κ hα σ B P iB iP ok) iB xw765 xw767 xw768 xw769 xw766 xw3 xw770 rfl rfl rfl (by decide +kernel) ⟨Nat.le_of_ble_eq_true rfl, Nat.le_of_ble_eq_true rfl⟩ hP hK hN rfl rfl hl.1 rfl (lv_room (Nat.le_of_ble_eq_true rfl)) d_Endpoint_take_173 ⟨Nat.le_of_ble_eq_true rfl, Nat.le_of_ble_eq_true rfl⟩) hS (fun _ h_ => h_) (fun H locs hP hS => ?_)
                        obtain ⟨τ11, hτ11⟩ : ∃ t_, t_ = (p_takeForChannel B P σ).2 := ⟨_, rfl⟩
                        rw [← hτ11] at hP
                        have okτ11 : sp_ok τ11 := by rw [hτ11]; exact (ok_p_takeForChannel B P iB iP ok)
                        obtain ⟨ρ11, hρ11⟩ : ∃ r_, r_ = (p_takeForChannel B P σ).1 := ⟨_, rfl⟩
                        refine xb_ti (y := ρ11) hρ11.symm ?_
                        refine lv_goto (tgt := 180) hx hb d_Endpoint_take_176 (by decide) ?_
                        exact W.iret (v := ρ11) hx hb hr (fun t ht_ hW => ⟨⟨ρ11, τ11, rfl, ⟨congrArg Prod.fst (((by subst hρ11; subst hτ11; exact ((if_neg c1).trans ((if_neg c2).trans ((if_neg c4).trans ((if_neg c5).trans ((if_neg c6).trans ((if_neg c8).trans ((if_neg c10).trans ((if_neg c12).trans ((if_neg c14).trans ((if_pos c16).trans ((if_neg c17)))))))))))).symm)) : (ρ11, τ11) = p_take B P σ), congrArg Prod.snd (((by subst hρ11; subst hτ11; exact ((if_neg c1).trans ((if_neg c2).trans ((if_neg c4).trans ((if_neg c5).trans ((if_neg c6).trans ((if_neg c8).trans ((if_neg c10).trans ((if_neg c12).trans ((if_neg c14).trans ((if_pos c16).trans ((if_neg c17)))))))))))).symm)) : (ρ11, τ11) = p_take B P σ)⟩, by rw [sp_B, ht_]; exact hP⟩, hS.F ht_⟩) hS.2.2 d_Endpoint_take_180
                    · skip
                      by_cases c18 : (σ.1 P 0) = (94 : Int32)
                      · skip
                        refine lv_lookup (off := 157) (tgt := 161) hx hb d_Endpoint_take_4 (by decide) (by rw [c18]; rfl) (by decide) ?_
                        refine lv_aload_n hx hb d_Endpoint_take_161 rfl (lv_at hl 0 rfl) ?_
                        refine sp_g_Endpoint (v := .ref (α (B + 3))) hx hb ht hown hK hP iB 5 (by decide) (ht _ xw235) (fun _ h_ => h_) rfl d_Endpoint_take_162 ?_
                        refine sp_g_Keys (v := .int (σ.1 (B + 3) 0)) hx hb ht hown hK hP (by omega) 0 (by decide) (ht _ xw103) (fun _ h_ => h_) rfl d_Endpoint_take_165 ?_
                        refine lv_if_eq (tgt := 179) hx hb d_Endpoint_take_168 (by decide) (fun c19 => ?_) (fun c19 => ?_)
                        · skip
                          refine lv_iconst (v := 2) hx hb d_Endpoint_take_179 (by decide) ?_
                          exact W.iret (v := (2 : Int32)) hx hb hr (fun t ht_ hW => ⟨⟨(2 : Int32), σ, rfl, ⟨congrArg Prod.fst ((((if_neg c1).trans ((if_neg c2).trans ((if_neg c4).trans ((if_neg c5).trans ((if_neg c6).trans ((if_neg c8).trans ((if_neg c10).trans ((if_neg c12).trans ((if_neg c14).trans ((if_neg c16).trans ((if_pos c18).trans ((if_pos c19))))))))))))).symm) : ((2 : Int32), σ) = p_take B P σ), congrArg Prod.snd ((((if_neg c1).trans ((if_neg c2).trans ((if_neg c4).trans ((if_neg c5).trans ((if_neg c6).trans ((if_neg c8).trans ((if_neg c10).trans ((if_neg c12).trans ((if_neg c14).trans ((if_neg c16).trans ((if_pos c18).trans ((if_pos c19))))))))))))).symm) : ((2 : Int32), σ) = p_take B P σ)⟩, by rw [sp_B, ht_]; exact hP⟩, hS.F ht_⟩) hS.2.2 d_Endpoint_take_180
                        · skip
                          refine lv_aload_n hx hb d_Endpoint_take_171 rfl (lv_at hl 0 rfl) ?_
                          refine lv_aload_n hx hb d_Endpoint_take_172 rfl (lv_at hl 1 rfl) ?_
                          refine sp_ci (sp_runE (n := 1) (As := [.ref (α P)]) (rest := []) ⟨hx, hb, hml, hown, hts⟩ (c_Endpoint_takeForChannel l D α κ hα σ B P iB iP ok) iB xw765 xw767 xw768 xw769 xw766 xw3 xw770 rfl rfl rfl (by decide +kernel) ⟨Nat.le_of_ble_eq_true rfl, Nat.le_of_ble_eq_true rfl⟩ hP hK hN rfl rfl hl.1 rfl (lv_room (Nat.le_of_ble_eq_true rfl)) d_Endpoint_take_173 ⟨Nat.le_of_ble_eq_true rfl, Nat.le_of_ble_eq_true rfl⟩) hS (fun _ h_ => h_) (fun H locs hP hS => ?_)
                          obtain ⟨τ12, hτ12⟩ : ∃ t_, t_ = (p_takeForChannel B P σ).2 := ⟨_, rfl⟩
                          rw [← hτ12] at hP
                          have okτ12 : sp_ok τ12 := by rw [hτ12]; exact (ok_p_takeForChannel B P iB iP ok)
                          obtain ⟨ρ12, hρ12⟩ : ∃ r_, r_ = (p_takeForChannel B P σ).1 := ⟨_, rfl⟩
                          refine xb_ti (y := ρ12) hρ12.symm ?_
                          refine lv_goto (tgt := 180) hx hb d_Endpoint_take_176 (by decide) ?_
                          exact W.iret (v := ρ12) hx hb hr (fun t ht_ hW => ⟨⟨ρ12, τ12, rfl, ⟨congrArg Prod.fst (((by subst hρ12; subst hτ12; exact ((if_neg c1).trans ((if_neg c2).trans ((if_neg c4).trans ((if_neg c5).trans ((if_neg c6).trans ((if_neg c8).trans ((if_neg c10).trans ((if_neg c12).trans ((if_neg c14).trans ((if_neg c16).trans ((if_pos c18).trans ((if_neg c19))))))))))))).symm)) : (ρ12, τ12) = p_take B P σ), congrArg Prod.snd (((by subst hρ12; subst hτ12; exact ((if_neg c1).trans ((if_neg c2).trans ((if_neg c4).trans ((if_neg c5).trans ((if_neg c6).trans ((if_neg c8).trans ((if_neg c10).trans ((if_neg c12).trans ((if_neg c14).trans ((if_neg c16).trans ((if_pos c18).trans ((if_neg c19))))))))))))).symm)) : (ρ12, τ12) = p_take B P σ)⟩, by rw [sp_B, ht_]; exact hP⟩, hS.F ht_⟩) hS.2.2 d_Endpoint_take_180
                      · skip
                        by_cases c20 : (σ.1 P 0) = (97 : Int32)
                        · skip
                          refine lv_lookup (off := 157) (tgt := 161) hx hb d_Endpoint_take_4 (by decide) (by rw [c20]; rfl) (by decide) ?_
                          refine lv_aload_n hx hb d_Endpoint_take_161 rfl (lv_at hl 0 rfl) ?_
                          refine sp_g_Endpoint (v := .ref (α (B + 3))) hx hb ht hown hK hP iB 5 (by decide) (ht _ xw235) (fun _ h_ => h_) rfl d_Endpoint_take_162 ?_
                          refine sp_g_Keys (v := .int (σ.1 (B + 3) 0)) hx hb ht hown hK hP (by omega) 0 (by decide) (ht _ xw103) (fun _ h_ => h_) rfl d_Endpoint_take_165 ?_
                          refine lv_if_eq (tgt := 179) hx hb d_Endpoint_take_168 (by decide) (fun c21 => ?_) (fun c21 => ?_)
                          · skip
                            refine lv_iconst (v := 2) hx hb d_Endpoint_take_179 (by decide) ?_
                            exact W.iret (v := (2 : Int32)) hx hb hr (fun t ht_ hW => ⟨⟨(2 : Int32), σ, rfl, ⟨congrArg Prod.fst ((((if_neg c1).trans ((if_neg c2).trans ((if_neg c4).trans ((if_neg c5).trans ((if_neg c6).trans ((if_neg c8).trans ((if_neg c10).trans ((if_neg c12).trans ((if_neg c14).trans ((if_neg c16).trans ((if_neg c18).trans ((if_pos c20).trans ((if_pos c21)))))))))))))).symm) : ((2 : Int32), σ) = p_take B P σ), congrArg Prod.snd ((((if_neg c1).trans ((if_neg c2).trans ((if_neg c4).trans ((if_neg c5).trans ((if_neg c6).trans ((if_neg c8).trans ((if_neg c10).trans ((if_neg c12).trans ((if_neg c14).trans ((if_neg c16).trans ((if_neg c18).trans ((if_pos c20).trans ((if_pos c21)))))))))))))).symm) : ((2 : Int32), σ) = p_take B P σ)⟩, by rw [sp_B, ht_]; exact hP⟩, hS.F ht_⟩) hS.2.2 d_Endpoint_take_180
                          · skip
                            refine lv_aload_n hx hb d_Endpoint_take_171 rfl (lv_at hl 0 rfl) ?_
                            refine lv_aload_n hx hb d_Endpoint_take_172 rfl (lv_at hl 1 rfl) ?_
                            refine sp_ci (sp_runE (n := 1) (As := [.ref (α P)]) (rest := []) ⟨hx, hb, hml, hown, hts⟩ (c_Endpoint_takeForChannel l D α κ hα σ B P iB iP ok) iB xw765 xw767 xw768 xw769 xw766 xw3 xw770 rfl rfl rfl (by decide +kernel) ⟨Nat.le_of_ble_eq_true rfl, Nat.le_of_ble_eq_true rfl⟩ hP hK hN rfl rfl hl.1 rfl (lv_room (Nat.le_of_ble_eq_true rfl)) d_Endpoint_take_173 ⟨Nat.le_of_ble_eq_true rfl, Nat.le_of_ble_eq_true rfl⟩) hS (fun _ h_ => h_) (fun H locs hP hS => ?_)
                            obtain ⟨τ13, hτ13⟩ : ∃ t_, t_ = (p_takeForChannel B P σ).2 := ⟨_, rfl⟩
                            rw [← hτ13] at hP
                            have okτ13 : sp_ok τ13 := by rw [hτ13]; exact (ok_p_takeForChannel B P iB iP ok)
                            obtain ⟨ρ13, hρ13⟩ : ∃ r_, r_ = (p_takeForChannel B P σ).1 := ⟨_, rfl⟩
                            refine xb_ti (y := ρ13) hρ13.symm ?_
                            refine lv_goto (tgt := 180) hx hb d_Endpoint_take_176 (by decide) ?_
                            exact W.iret (v := ρ13) hx hb hr (fun t ht_ hW => ⟨⟨ρ13, τ13, rfl, ⟨congrArg Prod.fst (((by subst hρ13; subst hτ13; exact ((if_neg c1).trans ((if_neg c2).trans ((if_neg c4).trans ((if_neg c5).trans ((if_neg c6).trans ((if_neg c8).trans ((if_neg c10).trans ((if_neg c12).trans ((if_neg c14).trans ((if_neg c16).trans ((if_neg c18).trans ((if_pos c20).trans ((if_neg c21)))))))))))))).symm)) : (ρ13, τ13) = p_take B P σ), congrArg Prod.snd (((by subst hρ13; subst hτ13; exact ((if_neg c1).trans ((if_neg c2).trans ((if_neg c4).trans ((if_neg c5).trans ((if_neg c6).trans ((if_neg c8).trans ((if_neg c10).trans ((if_neg c12).trans ((if_neg c14).trans ((if_neg c16).trans ((if_neg c18).trans ((if_pos c20).trans ((if_neg c21)))))))))))))).symm)) : (ρ13, τ13) = p_take B P σ)⟩, by rw [sp_B, ht_]; exact hP⟩, hS.F ht_⟩) hS.2.2 d_Endpoint_take_180
                        · skip
                          refine lv_lookup (off := 177) (tgt := 181) hx hb d_Endpoint_take_4 (by decide) (by rw [lv_osw c1 (a := 1) rfl, lv_osw c2 (a := 2) rfl, lv_osw c4 (a := 20) rfl, lv_osw c5 (a := 21) rfl, lv_osw c6 (a := 30) rfl, lv_osw c8 (a := 31) rfl, lv_osw c10 (a := 90) rfl, lv_osw c12 (a := 91) rfl, lv_osw c14 (a := 92) rfl, lv_osw c16 (a := 93) rfl, lv_osw c18 (a := 94) rfl, lv_osw c20 (a := 97) rfl]; rfl) (by decide) ?_
                          refine lv_iconst (v := 2) hx hb d_Endpoint_take_181 (by decide) ?_
                          exact W.iret (v := (2 : Int32)) hx hb hr (fun t ht_ hW => ⟨⟨(2 : Int32), σ, rfl, ⟨congrArg Prod.fst ((((if_neg c1).trans ((if_neg c2).trans ((if_neg c4).trans ((if_neg c5).trans ((if_neg c6).trans ((if_neg c8).trans ((if_neg c10).trans ((if_neg c12).trans ((if_neg c14).trans ((if_neg c16).trans ((if_neg c18).trans ((if_neg c20))))))))))))).symm) : ((2 : Int32), σ) = p_take B P σ), congrArg Prod.snd ((((if_neg c1).trans ((if_neg c2).trans ((if_neg c4).trans ((if_neg c5).trans ((if_neg c6).trans ((if_neg c8).trans ((if_neg c10).trans ((if_neg c12).trans ((if_neg c14).trans ((if_neg c16).trans ((if_neg c18).trans ((if_neg c20))))))))))))).symm) : ((2 : Int32), σ) = p_take B P σ)⟩, by rw [sp_B, ht_]; exact hP⟩, hS.F ht_⟩) hS.2.2 d_Endpoint_take_182
theorem ok_p_take {σ : xb_St} (B : Nat) (P : Nat) (iB : sp_isEndpoint B) (iP : sp_isPacket P) (ok : sp_ok σ) : sp_ok (p_take B P σ).2 := by
  have hlA := sp_lnA_is iB
  have hlD := sp_lnD_is iB
  have hln := sp_ln_ne iB
  unfold p_take
  by_cases c1 : (σ.1 P 0) = (1 : Int32)
  · rw [if_pos c1]
    exact (ok_p_die B (σ.2 P 1) iB ok)
  · rw [if_neg c1]
    by_cases c2 : (σ.1 P 0) = (2 : Int32)
    · rw [if_pos c2]
      by_cases c3 : (σ.1 (B + 3) 0) = 0
      · rw [if_pos c3]
        exact ok
      · rw [if_neg c3]
        exact ok
    · rw [if_neg c2]
      by_cases c4 : (σ.1 P 0) = (20 : Int32)
      · rw [if_pos c4]
        exact (ok_p_takeInit B P iB iP ok)
      · rw [if_neg c4]
        by_cases c5 : (σ.1 P 0) = (21 : Int32)
        · rw [if_pos c5]
          exact (ok_p_takeNewKeys B iB ok)
        · rw [if_neg c5]
          by_cases c6 : (σ.1 P 0) = (30 : Int32)
          · rw [if_pos c6]
            by_cases c7 : B = 5
            · rw [if_pos c7]
              exact (ok_p_Cl_share B P c7 iP ok)
            · rw [if_neg c7]
              have ec7 : B = 20 := by omega
              exact (ok_p_Sv_share B P ec7 iP ok)
          · rw [if_neg c6]
            by_cases c8 : (σ.1 P 0) = (31 : Int32)
            · rw [if_pos c8]
              by_cases c9 : B = 5
              · rw [if_pos c9]
                exact (ok_p_Cl_reply B P c9 iP ok)
              · rw [if_neg c9]
                have ec9 : B = 20 := by omega
                exact (ok_p_Sv_reply B P ec9 iP ok)
            · rw [if_neg c8]
              by_cases c10 : (σ.1 P 0) = (90 : Int32)
              · rw [if_pos c10]
                by_cases c11 : (σ.1 (B + 3) 0) = 0
                · rw [if_pos c11]
                  exact ok
                · rw [if_neg c11]
                  exact (ok_p_takeForChannel B P iB iP ok)
              · rw [if_neg c10]
                by_cases c12 : (σ.1 P 0) = (91 : Int32)
                · rw [if_pos c12]
                  by_cases c13 : (σ.1 (B + 3) 0) = 0
                  · rw [if_pos c13]
                    exact ok
                  · rw [if_neg c13]
                    exact (ok_p_takeForChannel B P iB iP ok)
                · rw [if_neg c12]
                  by_cases c14 : (σ.1 P 0) = (92 : Int32)
                  · rw [if_pos c14]
                    by_cases c15 : (σ.1 (B + 3) 0) = 0
                    · rw [if_pos c15]
                      exact ok
                    · rw [if_neg c15]
                      exact (ok_p_takeForChannel B P iB iP ok)
                  · rw [if_neg c14]
                    by_cases c16 : (σ.1 P 0) = (93 : Int32)
                    · rw [if_pos c16]
                      by_cases c17 : (σ.1 (B + 3) 0) = 0
                      · rw [if_pos c17]
                        exact ok
                      · rw [if_neg c17]
                        exact (ok_p_takeForChannel B P iB iP ok)
                    · rw [if_neg c16]
                      by_cases c18 : (σ.1 P 0) = (94 : Int32)
                      · rw [if_pos c18]
                        by_cases c19 : (σ.1 (B + 3) 0) = 0
                        · rw [if_pos c19]
                          exact ok
                        · rw [if_neg c19]
                          exact (ok_p_takeForChannel B P iB iP ok)
                      · rw [if_neg c18]
                        by_cases c20 : (σ.1 P 0) = (97 : Int32)
                        · rw [if_pos c20]
                          by_cases c21 : (σ.1 (B + 3) 0) = 0
                          · rw [if_pos c21]
                            exact ok
                          · rw [if_neg c21]
                            exact (ok_p_takeForChannel B P iB iP ok)
                        · rw [if_neg c20]
                          exact ok
