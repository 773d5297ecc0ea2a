abbrev b_Endpoint_receive : ByteArray := prog_4_method_12_code
def y_Endpoint_receive : MethodName := ⟨"SecurePair$Endpoint", "receive", "()I"⟩
abbrev w_Endpoint_receive : List Cond := .code y_Endpoint_receive b_Endpoint_receive 3 (some .int) :: xa
theorem d_Endpoint_receive_0 : decode b_Endpoint_receive 0 = .ok (.aload_n 0, 1) := by decide +kernel
theorem d_Endpoint_receive_1 : decode b_Endpoint_receive 1 = .ok (.getfield 54, 3) := by decide +kernel
theorem d_Endpoint_receive_4 : decode b_Endpoint_receive 4 = .ok (.aload_n 0, 1) := by decide +kernel
theorem d_Endpoint_receive_5 : decode b_Endpoint_receive 5 = .ok (.getfield 12, 3) := by decide +kernel
theorem d_Endpoint_receive_8 : decode b_Endpoint_receive 8 = .ok (.invokevirtual 142, 3) := by decide +kernel
theorem d_Endpoint_receive_11 : decode b_Endpoint_receive 11 = .ok (.aload_n 0, 1) := by decide +kernel
theorem d_Endpoint_receive_12 : decode b_Endpoint_receive 12 = .ok (.getfield 24, 3) := by decide +kernel
theorem d_Endpoint_receive_15 : decode b_Endpoint_receive 15 = .ok (.aload_n 0, 1) := by decide +kernel
theorem d_Endpoint_receive_16 : decode b_Endpoint_receive 16 = .ok (.getfield 12, 3) := by decide +kernel
theorem d_Endpoint_receive_19 : decode b_Endpoint_receive 19 = .ok (.invokevirtual 123, 3) := by decide +kernel
theorem d_Endpoint_receive_22 : decode b_Endpoint_receive 22 = .ok (.aload_n 0, 1) := by decide +kernel
theorem d_Endpoint_receive_23 : decode b_Endpoint_receive 23 = .ok (.getfield 24, 3) := by decide +kernel
theorem d_Endpoint_receive_26 : decode b_Endpoint_receive 26 = .ok (.aload_n 0, 1) := by decide +kernel
theorem d_Endpoint_receive_27 : decode b_Endpoint_receive 27 = .ok (.getfield 12, 3) := by decide +kernel
theorem d_Endpoint_receive_30 : decode b_Endpoint_receive 30 = .ok (.invokevirtual 145, 3) := by decide +kernel
theorem d_Endpoint_receive_33 : decode b_Endpoint_receive 33 = .ok (.istore_n 1, 1) := by decide +kernel
theorem d_Endpoint_receive_34 : decode b_Endpoint_receive 34 = .ok (.aload_n 0, 1) := by decide +kernel
theorem d_Endpoint_receive_35 : decode b_Endpoint_receive 35 = .ok (.getfield 24, 3) := by decide +kernel
theorem d_Endpoint_receive_38 : decode b_Endpoint_receive 38 = .ok (.dup, 1) := by decide +kernel
theorem d_Endpoint_receive_39 : decode b_Endpoint_receive 39 = .ok (.getfield 127, 3) := by decide +kernel
theorem d_Endpoint_receive_42 : decode b_Endpoint_receive 42 = .ok (.iconst 1, 1) := by decide +kernel
theorem d_Endpoint_receive_43 : decode b_Endpoint_receive 43 = .ok (.iadd, 1) := by decide +kernel
theorem d_Endpoint_receive_44 : decode b_Endpoint_receive 44 = .ok (.putfield 127, 3) := by decide +kernel
theorem d_Endpoint_receive_47 : decode b_Endpoint_receive 47 = .ok (.iload_n 1, 1) := by decide +kernel
theorem d_Endpoint_receive_48 : decode b_Endpoint_receive 48 = .ok (.ifCond .eq 14, 3) := by decide +kernel
theorem d_Endpoint_receive_51 : decode b_Endpoint_receive 51 = .ok (.aload_n 0, 1) := by decide +kernel
theorem d_Endpoint_receive_52 : decode b_Endpoint_receive 52 = .ok (.aload_n 0, 1) := by decide +kernel
theorem d_Endpoint_receive_53 : decode b_Endpoint_receive 53 = .ok (.getfield 12, 3) := by decide +kernel
theorem d_Endpoint_receive_56 : decode b_Endpoint_receive 56 = .ok (.invokevirtual 149, 3) := by decide +kernel
theorem d_Endpoint_receive_59 : decode b_Endpoint_receive 59 = .ok (.goto 4, 3) := by decide +kernel
theorem d_Endpoint_receive_62 : decode b_Endpoint_receive 62 = .ok (.iconst 5, 1) := by decide +kernel
theorem d_Endpoint_receive_63 : decode b_Endpoint_receive 63 = .ok (.istore_n 2, 1) := by decide +kernel
theorem d_Endpoint_receive_64 : decode b_Endpoint_receive 64 = .ok (.iload_n 2, 1) := by decide +kernel
theorem d_Endpoint_receive_65 : decode b_Endpoint_receive 65 = .ok (.ifCond .eq 9, 3) := by decide +kernel
theorem d_Endpoint_receive_68 : decode b_Endpoint_receive 68 = .ok (.aload_n 0, 1) := by decide +kernel
theorem d_Endpoint_receive_69 : decode b_Endpoint_receive 69 = .ok (.iload_n 2, 1) := by decide +kernel
theorem d_Endpoint_receive_70 : decode b_Endpoint_receive 70 = .ok (.i2l, 1) := by decide +kernel
theorem d_Endpoint_receive_71 : decode b_Endpoint_receive 71 = .ok (.invokevirtual 153, 3) := by decide +kernel
theorem d_Endpoint_receive_74 : decode b_Endpoint_receive 74 = .ok (.aload_n 0, 1) := by decide +kernel
theorem d_Endpoint_receive_75 : decode b_Endpoint_receive 75 = .ok (.getfield 12, 3) := by decide +kernel
theorem d_Endpoint_receive_78 : decode b_Endpoint_receive 78 = .ok (.getfield 101, 3) := by decide +kernel
theorem d_Endpoint_receive_81 : decode b_Endpoint_receive 81 = .ok (.ireturn, 1) := by decide +kernel
theorem xw229 : (Cond.fieldLink "SecurePair$Endpoint" (54 : Nat) "SecurePair$Endpoint" "arriving" "LSecurePair$Line;") ∈ xa := xa_t 229 (by decide +kernel) (by decide +kernel)
theorem xw233 : (Cond.fieldLink "SecurePair$Endpoint" (12 : Nat) "SecurePair$Endpoint" "taken" "LSecurePair$Packet;") ∈ xa := xa_t 233 (by decide +kernel) (by decide +kernel)
theorem xw374 : (Cond.instanceMethod ({ cls := "SecurePair$Endpoint", name := "fail", desc := "(J)V" } : MethodName)) ∈ xa := xa_t 374 (by decide +kernel) (by decide +kernel)
theorem xw375 : (Cond.sameMethod "SecurePair$Endpoint" "SecurePair$Endpoint" "fail" "(J)V") ∈ xa := xa_t 375 (by decide +kernel) (by decide +kernel)
theorem xw376 : (Cond.selects "SecurePair$Client" ({ cls := "SecurePair$Endpoint", name := "fail", desc := "(J)V" } : MethodName) ({ cls := "SecurePair$Endpoint", name := "fail", desc := "(J)V" } : MethodName)) ∈ xa := xa_t 376 (by decide +kernel) (by decide +kernel)
theorem xw377 : (Cond.selects "SecurePair$Server" ({ cls := "SecurePair$Endpoint", name := "fail", desc := "(J)V" } : MethodName) ({ cls := "SecurePair$Endpoint", name := "fail", desc := "(J)V" } : MethodName)) ∈ xa := xa_t 377 (by decide +kernel) (by decide +kernel)
theorem xw378 : (Cond.code ({ cls := "SecurePair$Endpoint", name := "fail", desc := "(J)V" } : MethodName) prog_4_method_10_code (3 : Nat) (Option.none : Option ClassFile.FieldType)) ∈ xa := xa_t 378 (by decide +kernel) (by decide +kernel)
theorem xw633 : (Cond.methodLink "SecurePair$Endpoint" (142 : Nat) ({ cls := "SecurePair$Line", name := "takeFirst", desc := "(LSecurePair$Packet;)V" } : MethodName)) ∈ xa := xa_t 633 (by decide +kernel) (by decide +kernel)
theorem xw634 : (Cond.instanceMethod ({ cls := "SecurePair$Line", name := "takeFirst", desc := "(LSecurePair$Packet;)V" } : MethodName)) ∈ xa := xa_t 634 (by decide +kernel) (by decide +kernel)
theorem xw635 : (Cond.selects "SecurePair$Line" ({ cls := "SecurePair$Line", name := "takeFirst", desc := "(LSecurePair$Packet;)V" } : MethodName) ({ cls := "SecurePair$Line", name := "takeFirst", desc := "(LSecurePair$Packet;)V" } : MethodName)) ∈ xa := xa_t 635 (by decide +kernel) (by decide +kernel)
theorem xw636 : (Cond.code ({ cls := "SecurePair$Line", name := "takeFirst", desc := "(LSecurePair$Packet;)V" } : MethodName) prog_8_method_3_code (2 : Nat) (Option.none : Option ClassFile.FieldType)) ∈ xa := xa_t 636 (by decide +kernel) (by decide +kernel)
theorem xw638 : (Cond.methodLink "SecurePair$Endpoint" (145 : Nat) ({ cls := "SecurePair$Keys", name := "passes", desc := "(LSecurePair$Packet;)Z" } : MethodName)) ∈ xa := xa_t 638 (by decide +kernel) (by decide +kernel)
theorem xw639 : (Cond.instanceMethod ({ cls := "SecurePair$Keys", name := "passes", desc := "(LSecurePair$Packet;)Z" } : MethodName)) ∈ xa := xa_t 639 (by decide +kernel) (by decide +kernel)
theorem xw640 : (Cond.selects "SecurePair$Keys" ({ cls := "SecurePair$Keys", name := "passes", desc := "(LSecurePair$Packet;)Z" } : MethodName) ({ cls := "SecurePair$Keys", name := "passes", desc := "(LSecurePair$Packet;)Z" } : MethodName)) ∈ xa := xa_t 640 (by decide +kernel) (by decide +kernel)
theorem xw641 : (Cond.code ({ cls := "SecurePair$Keys", name := "passes", desc := "(LSecurePair$Packet;)Z" } : MethodName) prog_7_method_3_code (2 : Nat) (Option.some ClassFile.FieldType.boolean)) ∈ xa := xa_t 641 (by decide +kernel) (by decide +kernel)
theorem xw643 : (Cond.methodLink "SecurePair$Endpoint" (149 : Nat) ({ cls := "SecurePair$Endpoint", name := "take", desc := "(LSecurePair$Packet;)I" } : MethodName)) ∈ xa := xa_t 643 (by decide +kernel) (by decide +kernel)
theorem xw644 : (Cond.instanceMethod ({ cls := "SecurePair$Endpoint", name := "take", desc := "(LSecurePair$Packet;)I" } : MethodName)) ∈ xa := xa_t 644 (by decide +kernel) (by decide +kernel)
theorem xw645 : (Cond.sameMethod "SecurePair$Endpoint" "SecurePair$Endpoint" "take" "(LSecurePair$Packet;)I") ∈ xa := xa_t 645 (by decide +kernel) (by decide +kernel)
theorem xw646 : (Cond.selects "SecurePair$Client" ({ cls := "SecurePair$Endpoint", name := "take", desc := "(LSecurePair$Packet;)I" } : MethodName) ({ cls := "SecurePair$Endpoint", name := "take", desc := "(LSecurePair$Packet;)I" } : MethodName)) ∈ xa := xa_t 646 (by decide +kernel) (by decide +kernel)
theorem xw647 : (Cond.selects "SecurePair$Server" ({ cls := "SecurePair$Endpoint", name := "take", desc := "(LSecurePair$Packet;)I" } : MethodName) ({ cls := "SecurePair$Endpoint", name := "take", desc := "(LSecurePair$Packet;)I" } : MethodName)) ∈ xa := xa_t 647 (by decide +kernel) (by decide +kernel)
theorem xw648 : (Cond.code ({ cls := "SecurePair$Endpoint", name := "take", desc := "(LSecurePair$Packet;)I" } : MethodName) prog_4_method_13_code (2 : Nat) (Option.some ClassFile.FieldType.int)) ∈ xa := xa_t 648 (by decide +kernel) (by decide +kernel)
theorem xw833 : (Cond.methodLink "SecurePair$Endpoint" (153 : Nat) ({ cls := "SecurePair$Endpoint", name := "fail", desc := "(J)V" } : MethodName)) ∈ xa := xa_t 833 (by decide +kernel) (by decide +kernel)
def p_receive (B : Nat) (σ : xb_St) : Int32 × xb_St := (if (p_Keys_passes (B + 3) (B + 1) (p_Keys_cover (B + 3) (B + 1) (p_Line_take (sp_lnA B) (B + 1) σ))) = 0 then (((p_fail B (5 : Int64) (xb_si (p_Keys_cover (B + 3) (B + 1) (p_Line_take (sp_lnA B) (B + 1) σ)) (B + 3) 5 (((p_Keys_cover (B + 3) (B + 1) (p_Line_take (sp_lnA B) (B + 1) σ)).1 (B + 3) 5) + (1 : Int32)))).1 (B + 1) 0), (p_fail B (5 : Int64) (xb_si (p_Keys_cover (B + 3) (B + 1) (p_Line_take (sp_lnA B) (B + 1) σ)) (B + 3) 5 (((p_Keys_cover (B + 3) (B + 1) (p_Line_take (sp_lnA B) (B + 1) σ)).1 (B + 3) 5) + (1 : Int32))))) else (if (p_take B (B + 1) (xb_si (p_Keys_cover (B + 3) (B + 1) (p_Line_take (sp_lnA B) (B + 1) σ)) (B + 3) 5 (((p_Keys_cover (B + 3) (B + 1) (p_Line_take (sp_lnA B) (B + 1) σ)).1 (B + 3) 5) + (1 : Int32)))).1 = 0 then (((p_take B (B + 1) (xb_si (p_Keys_cover (B + 3) (B + 1) (p_Line_take (sp_lnA B) (B + 1) σ)) (B + 3) 5 (((p_Keys_cover (B + 3) (B + 1) (p_Line_take (sp_lnA B) (B + 1) σ)).1 (B + 3) 5) + (1 : Int32)))).2.1 (B + 1) 0), (p_take B (B + 1) (xb_si (p_Keys_cover (B + 3) (B + 1) (p_Line_take (sp_lnA B) (B + 1) σ)) (B + 3) 5 (((p_Keys_cover (B + 3) (B + 1) (p_Line_take (sp_lnA B) (B + 1) σ)).1 (B + 3) 5) + (1 : Int32)))).2) else (((p_fail B (p_take B (B + 1) (xb_si (p_Keys_cover (B + 3) (B + 1) (p_Line_take (sp_lnA B) (B + 1) σ)) (B + 3) 5 (((p_Keys_cover (B + 3) (B + 1) (p_Line_take (sp_lnA B) (B + 1) σ)).1 (B + 3) 5) + (1 : Int32)))).1.toInt64 (p_take B (B + 1) (xb_si (p_Keys_cover (B + 3) (B + 1) (p_Line_take (sp_lnA B) (B + 1) σ)) (B + 3) 5 (((p_Keys_cover (B + 3) (B + 1) (p_Line_take (sp_lnA B) (B + 1) σ)).1 (B + 3) 5) + (1 : Int32)))).2).1 (B + 1) 0), (p_fail B (p_take B (B + 1) (xb_si (p_Keys_cover (B + 3) (B + 1) (p_Line_take (sp_lnA B) (B + 1) σ)) (B + 3) 5 (((p_Keys_cover (B + 3) (B + 1) (p_Line_take (sp_lnA B) (B + 1) σ)).1 (B + 3) 5) + (1 : Int32)))).1.toInt64 (p_take B (B + 1) (xb_si (p_Keys_cover (B + 3) (B + 1) (p_Line_take (sp_lnA B) (B + 1) σ)) (B + 3) 5 (((p_Keys_cover (B + 3) (B + 1) (p_Line_take (sp_lnA B) (B + 1) σ)).1 (B + 3) 5) + (1 : Int32)))).2))))
set_option maxHeartbeats 4000000 in
set_option maxRecDepth 100000 in
theorem c_Endpoint_receive (l : Launch) (D : va_G) (α : Nat → Nat) (κ : Nat → ClassId) (hα : xb_inj α 35) (σ : xb_St) (B : Nat) (iB : sp_isEndpoint B) (ok : sp_ok σ) : Met l y_Endpoint_receive w_Endpoint_receive ({ frames := 6, cells := 0, slots := 0, locals := 147 }) (va_Pc ([.ref (α B)]) (sp_Pre D α κ σ)) (va_Qi (fun r (u : xb_St) => r = (p_receive B σ).1 ∧ u = (p_receive B σ).2) (sp_B D α κ) (xb_A α 35)) 0 0 (xb_A α 35) := by
  refine Met.ofW (cc := b_Endpoint_receive) (maxL := 3) (ret := (some .int)) (by decide) rfl ?_
  intro p e s m args below meth c s₁ B_ hml hv
  obtain ⟨rfl, hP, hK, hN⟩ := hv
  have hx := B_.exec
  have hb := B_.bytes
  have hr := B_.returns
  have hts := atoms_spec (ws := w_Endpoint_receive) B_.pre
  have ht : ∀ w ∈ xa, w.before _ s = true := fun w h => hts w (List.mem_cons_of_mem _ h)
  have hown : s.vm.findClass "SecurePair$Endpoint" = some m.cls := findClass_of_methodNamed B_.named
  have hlocks := B_.notSynchronized
  have hD := sp_D hα κ
  have hS : va_S (xb_A α 35) s.heap s.heap [] := va_S.rf
  have hlA := sp_lnA_is iB
  have hlD := sp_lnD_is iB
  have hln := sp_ln_ne iB
  have hl := lv_entry ([.ref (α B)]) (n := 3) (Nat.le_of_ble_eq_true rfl)
  rw [lg_entry_eq]
  generalize (lg_sl ([.ref (α B)]) ++ List.replicate (3 - (lg_sl ([.ref (α B)])).length) Slot.unset).toArray = ls at hl ⊢
  have hl : lv_has ls 3 [(0, .ref (α B))] := hl
  refine lv_aload_n hx hb d_Endpoint_receive_0 rfl (lv_at hl 0 rfl) ?_
  refine sp_g_Endpoint (v := .ref (α (sp_lnA B))) hx hb ht hown hK hP iB 0 (by decide) (ht _ xw229) (fun _ h_ => h_) rfl d_Endpoint_receive_1 ?_
  refine lv_aload_n hx hb d_Endpoint_receive_4 rfl (lv_at hl 0 rfl) ?_
  refine sp_g_Endpoint (v := .ref (α (B + 1))) hx hb ht hown hK hP iB 3 (by decide) (ht _ xw233) (fun _ h_ => h_) rfl d_Endpoint_receive_5 ?_
  refine sp_cv (va_runV (As := [.ref (α (B + 1))]) (rest := []) ⟨hx, hb, hml, hown, hts⟩ (c_Line_takeFirst l D α κ hα σ (sp_lnA B) (B + 1) (sp_lnA_is iB) (by omega) ok) (cwV 1 hts (xa_V xw633 xw634 xw635 xw2 xw636) rfl rfl rfl (by decide +kernel) ⟨Nat.le_of_ble_eq_true rfl, Nat.le_of_ble_eq_true rfl⟩) ⟨sp_blind, va_recv hK hP rfl (sp_at_Line (sp_lnA_is iB)), sp_pre hP hK hN _⟩ rfl rfl hl.1 rfl (lv_room (Nat.le_of_ble_eq_true rfl)) d_Endpoint_receive_8 ⟨Nat.le_of_ble_eq_true rfl, Nat.le_of_ble_eq_true rfl⟩) hS (fun _ h_ => h_) (fun H locs hP hS => ?_)
  obtain ⟨τ1, hτ1⟩ : ∃ t_, t_ = (p_Line_take (sp_lnA B) (B + 1) σ) := ⟨_, rfl⟩
  rw [← hτ1] at hP
  have okτ1 : sp_ok τ1 := by rw [hτ1]; exact (ok_p_Line_take (sp_lnA B) (B + 1) (sp_lnA_is iB) (by omega) ok)
  refine lv_aload_n hx hb d_Endpoint_receive_11 rfl (lv_at hl 0 rfl) ?_
  refine sp_g_Endpoint (v := .ref (α (B + 3))) hx hb ht hown hK hP iB 5 (by decide) (ht _ xw235) (fun _ h_ => h_) rfl d_Endpoint_receive_12 ?_
  refine lv_aload_n hx hb d_Endpoint_receive_15 rfl (lv_at hl 0 rfl) ?_
  refine sp_g_Endpoint (v := .ref (α (B + 1))) hx hb ht hown hK hP iB 3 (by decide) (ht _ xw233) (fun _ h_ => h_) rfl d_Endpoint_receive_16 ?_
  refine sp_cv (va_runV (As := [.ref (α (B + 1))]) (rest := []) ⟨hx, hb, hml, hown, hts⟩ (c_Keys_cover l D α κ hα τ1 (B + 3) (B + 1) (by omega) (by omega)) (cwV 1 hts (xa_V xw395 xw396 xw397 xw6 xw398) rfl rfl rfl (by decide +kernel) ⟨Nat.le_of_ble_eq_true rfl, Nat.le_of_ble_eq_true rfl⟩) ⟨sp_blind, va_recv hK hP rfl (sp_at_Keys (by omega)), sp_pre hP hK hN _⟩ rfl rfl hl.1 rfl (lv_room (Nat.le_of_ble_eq_true rfl)) d_Endpoint_receive_19 ⟨Nat.le_of_ble_eq_true rfl, Nat.le_of_ble_eq_true rfl⟩) hS (fun _ h_ => h_) (fun H locs hP hS => ?_)
  obtain ⟨τ2, hτ2⟩ : ∃ t_, t_ = (p_Keys_cover (B + 3) (B + 1) τ1) := ⟨_, rfl⟩
  rw [← hτ2] at hP
  have okτ2 : sp_ok τ2 := by rw [hτ2]; exact (ok_p_Keys_cover (B + 3) (B + 1) (by omega) (by omega) okτ1)
  refine lv_aload_n hx hb d_Endpoint_receive_22 rfl (lv_at hl 0 rfl) ?_
  refine sp_g_Endpoint (v := .ref (α (B + 3))) hx hb ht hown hK hP iB 5 (by decide) (ht _ xw235) (fun _ h_ => h_) rfl d_Endpoint_receive_23 ?_
  refine lv_aload_n hx hb d_Endpoint_receive_26 rfl (lv_at hl 0 rfl) ?_
  refine sp_g_Endpoint (v := .ref (α (B + 1))) hx hb ht hown hK hP iB 3 (by decide) (ht _ xw233) (fun _ h_ => h_) rfl d_Endpoint_receive_27 ?_
  refine sp_ci (va_runV (As := [.ref (α (B + 1))]) (rest := []) ⟨hx, hb, hml, hown, hts⟩ (c_Keys_passes l D α κ hα τ2 (B + 3) (B + 1) (by omega) (by omega)) (cwV 1 hts (xa_V xw638 xw639 xw640 xw6 xw641) rfl rfl rfl (by decide +kernel) ⟨Nat.le_of_ble_eq_true rfl, Nat.le_of_ble_eq_true rfl⟩) ⟨sp_blind, va_recv hK hP rfl (sp_at_Keys (by omega)), sp_pre hP hK hN _⟩ rfl rfl hl.1 rfl (lv_room (Nat.le_of_ble_eq_true rfl)) d_Endpoint_receive_30 ⟨Nat.le_of_ble_eq_true rfl, Nat.le_of_ble_eq_true rfl⟩) hS (fun _ h_ => h_) (fun H locs hP hS => ?_)
  refine lv_istore_n (lv' := [(1, .int (p_Keys_passes (B + 3) (B + 1) τ2)), (0, .ref (α B))]) hx hb d_Endpoint_receive_33 rfl hl (by decide) rfl (fun ls hl => ?_)
  refine lv_aload_n hx hb d_Endpoint_receive_34 rfl (lv_at hl 1 rfl) ?_
  refine sp_g_Endpoint (v := .ref (α (B + 3))) hx hb ht hown hK hP iB 5 (by decide) (ht _ xw235) (fun _ h_ => h_) rfl d_Endpoint_receive_35 ?_
  refine lv_dup hx hb d_Endpoint_receive_38 rfl ?_
  refine sp_g_Keys (v := .int (τ2.1 (B + 3) 5)) hx hb ht hown hK hP (by omega) 5 (by decide) (ht _ xw111) (fun _ h_ => h_) rfl d_Endpoint_receive_39 ?_
  refine lv_iconst (v := 1) hx hb d_Endpoint_receive_42 (by decide) ?_
  refine lv_iadd hx hb d_Endpoint_receive_43 ?_
  refine sp_pi_Keys (x := ((τ2.1 (B + 3) 5) + (1 : Int32))) (ty := .int) hx hb ht hown hK hP (by omega) 5 (by decide) (ht _ xw111) (fun _ h_ => h_) hD hS rfl (by decide +kernel) rfl rfl hf_Keys_5 d_Endpoint_receive_44 (fun H locs hP hS => ?_)
  refine lv_iload_n hx hb d_Endpoint_receive_47 rfl (lv_at hl 0 rfl) ?_
  refine lv_if_eq (tgt := 62) hx hb d_Endpoint_receive_48 (by decide) (fun c1 => ?_) (fun c1 => ?_)
  · skip
    refine lv_iconst (v := 5) hx hb d_Endpoint_receive_62 (by decide) ?_
    refine lv_istore_n (lv' := [(2, .int (5 : Int32)), (1, .int (p_Keys_passes (B + 3) (B + 1) τ2)), (0, .ref (α B))]) hx hb d_Endpoint_receive_63 rfl hl (by decide) rfl (fun ls hl => ?_)
    refine lv_iload_n hx hb d_Endpoint_receive_64 rfl (lv_at hl 0 rfl) ?_
    refine lv_if_eq (tgt := 74) hx hb d_Endpoint_receive_65 (by decide) (fun h_ => absurd h_ (by decide)) (fun _ => ?_)
    refine lv_aload_n hx hb d_Endpoint_receive_68 rfl (lv_at hl 2 rfl) ?_
    refine lv_iload_n hx hb d_Endpoint_receive_69 rfl (lv_at hl 0 rfl) ?_
    refine lv_i2l (v := (5 : Int64)) hx hb d_Endpoint_receive_70 (by decide) ?_
    refine sp_cv (sp_runE (n := 1) (As := [.long (5 : Int64)]) (rest := []) ⟨hx, hb, hml, hown, hts⟩ (c_Endpoint_fail l D α κ hα (xb_si τ2 (B + 3) 5 ((τ2.1 (B + 3) 5) + (1 : Int32))) B (5 : Int64) iB (ok_si okτ2 (by omega) (by omega))) iB xw833 xw375 xw376 xw377 xw374 xw3 xw378 rfl rfl rfl (by decide +kernel) ⟨Nat.le_of_ble_eq_true rfl, Nat.le_of_ble_eq_true rfl⟩ hP hK hN rfl rfl hl.1 rfl (lv_room (Nat.le_of_ble_eq_true rfl)) d_Endpoint_receive_71 ⟨Nat.le_of_ble_eq_true rfl, Nat.le_of_ble_eq_true rfl⟩) hS (fun _ h_ => h_) (fun H locs hP hS => ?_)
    obtain ⟨τ3, hτ3⟩ : ∃ t_, t_ = (p_fail B (5 : Int64) (xb_si τ2 (B + 3) 5 ((τ2.1 (B + 3) 5) + (1 : Int32)))) := ⟨_, rfl⟩
    rw [← hτ3] at hP
    have okτ3 : sp_ok τ3 := by rw [hτ3]; exact (ok_p_fail B (5 : Int64) iB (ok_si okτ2 (by omega) (by omega)))
    refine lv_aload_n hx hb d_Endpoint_receive_74 rfl (lv_at hl 2 rfl) ?_
    refine sp_g_Endpoint (v := .ref (α (B + 1))) hx hb ht hown hK hP iB 3 (by decide) (ht _ xw233) (fun _ h_ => h_) rfl d_Endpoint_receive_75 ?_
    refine sp_g_Packet (v := .int (τ3.1 (B + 1) 0)) hx hb ht hown hK hP (by omega) 0 (by decide) (ht _ xw62) (fun _ h_ => h_) rfl d_Endpoint_receive_78 ?_
    exact W.iret (v := (τ3.1 (B + 1) 0)) hx hb hr (fun t ht_ hW => ⟨⟨(τ3.1 (B + 1) 0), τ3, rfl, ⟨congrArg Prod.fst (((by subst hτ3; subst hτ2; subst hτ1; exact ((if_pos c1)).symm)) : ((τ3.1 (B + 1) 0), τ3) = p_receive B σ), congrArg Prod.snd (((by subst hτ3; subst hτ2; subst hτ1; exact ((if_pos c1)).symm)) : ((τ3.1 (B + 1) 0), τ3) = p_receive B σ)⟩, by rw [sp_B, ht_]; exact hP⟩, hS.F ht_⟩) hS.2.2 d_Endpoint_receive_81
  · skip
    refine lv_aload_n hx hb d_Endpoint_receive_51 rfl (lv_at hl 1 rfl) ?_
    refine lv_aload_n hx hb d_Endpoint_receive_52 rfl (lv_at hl 1 rfl) ?_
    refine sp_g_Endpoint (v := .ref (α (B + 1))) hx hb ht hown hK hP iB 3 (by decide) (ht _ xw233) (fun _ h_ => h_) rfl d_Endpoint_receive_53 ?_
    refine sp_ci (sp_runE (n := 1) (As := [.ref (α (B + 1))]) (rest := []) ⟨hx, hb, hml, hown, hts⟩ (c_Endpoint_take l D α κ hα (xb_si τ2 (B + 3) 5 ((τ2.1 (B + 3) 5) + (1 : Int32))) B (B + 1) iB (by omega) (ok_si okτ2 (by omega) (by omega))) iB xw643 xw645 xw646 xw647 xw644 xw3 xw648 rfl rfl rfl (by decide +kernel) ⟨Nat.le_of_ble_eq_true rfl, Nat.le_of_ble_eq_true rfl⟩ hP hK hN rfl rfl hl.1 rfl (lv_room (Nat.le_of_ble_eq_true rfl)) d_Endpoint_receive_56 ⟨Nat.le_of_ble_eq_true rfl, Nat.le_of_ble_eq_true rfl⟩) hS (fun _ h_ => h_) (fun H locs hP hS => ?_)
    obtain ⟨τ4, hτ4⟩ : ∃ t_, t_ = (p_take B (B + 1) (xb_si τ2 (B + 3) 5 ((τ2.1 (B + 3) 5) + (1 : Int32)))).2 := ⟨_, rfl⟩
    rw [← hτ4] at hP
    have okτ4 : sp_ok τ4 := by rw [hτ4]; exact (ok_p_take B (B + 1) iB (by omega) (ok_si okτ2 (by omega) (by omega)))
    obtain ⟨ρ4, hρ4⟩ : ∃ r_, r_ = (p_take B (B + 1) (xb_si τ2 (B + 3) 5 ((τ2.1 (B + 3) 5) + (1 : Int32)))).1 := ⟨_, rfl⟩
    refine xb_ti (y := ρ4) hρ4.symm ?_
    refine lv_goto (tgt := 63) hx hb d_Endpoint_receive_59 (by decide) ?_
    refine lv_istore_n (lv' := [(2, .int ρ4), (1, .int (p_Keys_passes (B + 3) (B + 1) τ2)), (0, .ref (α B))]) hx hb d_Endpoint_receive_63 rfl hl (by decide) rfl (fun ls hl => ?_)
    refine lv_iload_n hx hb d_Endpoint_receive_64 rfl (lv_at hl 0 rfl) ?_
    refine lv_if_eq (tgt := 74) hx hb d_Endpoint_receive_65 (by decide) (fun c2 => ?_) (fun c2 => ?_)
    · skip
      refine lv_aload_n hx hb d_Endpoint_receive_74 rfl (lv_at hl 2 rfl) ?_
      refine sp_g_Endpoint (v := .ref (α (B + 1))) hx hb ht hown hK hP iB 3 (by decide) (ht _ xw233) (fun _ h_ => h_) rfl d_Endpoint_receive_75 ?_
      refine sp_g_Packet (v := .int (τ4.1 (B + 1) 0)) hx hb ht hown hK hP (by omega) 0 (by decide) (ht _ xw62) (fun _ h_ => h_) rfl d_Endpoint_receive_78 ?_
      exact W.iret (v := (τ4.1 (B + 1) 0)) hx hb hr (fun t ht_ hW => ⟨⟨(τ4.1 (B + 1) 0), τ4, rfl, ⟨congrArg Prod.fst (((by subst hρ4; subst hτ4; subst hτ2; subst hτ1; exact ((if_neg c1).trans ((if_pos c2))).symm)) : ((τ4.1 (B + 1) 0), τ4) = p_receive B σ), congrArg Prod.snd (((by subst hρ4; subst hτ4; subst hτ2; subst hτ1; exact ((if_neg c1).trans ((if_pos c2))).symm)) : ((τ4.1 (B + 1) 0), τ4) = p_receive B σ)⟩, by rw [sp_B, ht_]; exact hP⟩, hS.F ht_⟩) hS.2.2 d_Endpoint_receive_81
    · skip
      refine lv_aload_n hx hb d_Endpoint_receive_68 rfl (lv_at hl 2 rfl) ?_
      refine lv_iload_n hx hb d_Endpoint_receive_69 rfl (lv_at hl 0 rfl) ?_
      refine lv_i2l (v := ρ4.toInt64) hx hb d_Endpoint_receive_70 (by rfl) ?_
      refine sp_cv (sp_runE (n := 1) (As := [.long ρ4.toInt64]) (rest := []) ⟨hx, hb, hml, hown, hts⟩ (c_Endpoint_fail l D α κ hα τ4 B ρ4.toInt64 iB okτ4) iB xw833 xw375 xw376 xw377 xw374 xw3 xw378 rfl rfl rfl (by decide +kernel) ⟨Nat.le_of_ble_eq_true rfl, Nat.le_of_ble_eq_true rfl⟩ hP hK hN rfl rfl hl.1 rfl (lv_room (Nat.le_of_ble_eq_true rfl)) d_Endpoint_receive_71 ⟨Nat.le_of_ble_eq_true rfl, Nat.le_of_ble_eq_true rfl⟩) hS (fun _ h_ => h_) (fun H locs hP hS => ?_)
      obtain ⟨τ5, hτ5⟩ : ∃ t_, t_ = (p_fail B ρ4.toInt64 τ4) := ⟨_, rfl⟩
      rw [← hτ5] at hP
      have okτ5 : sp_ok τ5 := by rw [hτ5]; exact (ok_p_fail B ρ4.toInt64 iB okτ4)
      refine lv_aload_n hx hb d_Endpoint_receive_74 rfl (lv_at hl 2 rfl) ?_
      refine sp_g_Endpoint (v := .ref (α (B + 1))) hx hb ht hown hK hP iB 3 (by decide) (ht _ xw233) (fun _ h_ => h_) rfl d_Endpoint_receive_75 ?_
      refine sp_g_Packet (v := .int (τ5.1 (B + 1) 0)) hx hb ht hown hK hP (by omega) 0 (by decide) (ht _ xw62) (fun _ h_ => h_) rfl d_Endpoint_receive_78 ?_
      exact W.iret (v := (τ5.1 (B + 1) 0)) hx hb hr (fun t ht_ hW => ⟨⟨(τ5.1 (B + 1) 0), τ5, rfl, ⟨congrArg Prod.fst (((by subst hτ5; subst hρ4; subst hτ4; subst hτ2; subst hτ1; exact ((if_neg c1).trans ((if_neg c2))).symm)) : ((τ5.1 (B + 1) 0), τ5) = p_receive B σ), congrArg Prod.snd (((by subst hτ5; subst hρ4; subst hτ4; subst hτ2; subst hτ1; exact ((if_neg c1).trans ((if_neg c2))).symm)) : ((τ5.1 (B + 1) 0), τ5) = p_receive B σ)⟩, by rw [sp_B, ht_]; exact hP⟩, hS.F ht_⟩) hS.2.2 d_Endpoint_receive_81
theorem ok_p_receive {σ : xb_St} (B : Nat) (iB : sp_isEndpoint B) (ok : sp_ok σ) : sp_ok (p_receive B σ).2 := by
  have hlA := sp_lnA_is iB
  have hlD := sp_lnD_is iB
  have hln := sp_ln_ne iB
  unfold p_receive
  by_cases c1 : (p_Keys_passes (B + 3) (B + 1) (p_Keys_cover (B + 3) (B + 1) (p_Line_take (sp_lnA B) (B + 1) σ))) = 0
  · rw [if_pos c1]
    exact (ok_p_fail B (5 : Int64) iB (ok_si (ok_p_Keys_cover (B + 3) (B + 1) (by omega) (by omega) (ok_p_Line_take (sp_lnA B) (B + 1) (sp_lnA_is iB) (by omega) ok)) (by omega) (by omega)))
  · rw [if_neg c1]
    by_cases c2 : (p_take B (B + 1) (xb_si (p_Keys_cover (B + 3) (B + 1) (p_Line_take (sp_lnA B) (B + 1) σ)) (B + 3) 5 (((p_Keys_cover (B + 3) (B + 1) (p_Line_take (sp_lnA B) (B + 1) σ)).1 (B + 3) 5) + (1 : Int32)))).1 = 0
    · rw [if_pos c2]
      exact (ok_p_take B (B + 1) iB (by omega) (ok_si (ok_p_Keys_cover (B + 3) (B + 1) (by omega) (by omega) (ok_p_Line_take (sp_lnA B) (B + 1) (sp_lnA_is iB) (by omega) ok)) (by omega) (by omega)))
    · rw [if_neg c2]
      exact (ok_p_fail B (p_take B (B + 1) (xb_si (p_Keys_cover (B + 3) (B + 1) (p_Line_take (sp_lnA B) (B + 1) σ)) (B + 3) 5 (((p_Keys_cover (B + 3) (B + 1) (p_Line_take (sp_lnA B) (B + 1) σ)).1 (B + 3) 5) + (1 : Int32)))).1.toInt64 iB (ok_p_take B (B + 1) iB (by omega) (ok_si (ok_p_Keys_cover (B + 3) (B + 1) (by omega) (by omega) (ok_p_Line_take (sp_lnA B) (B + 1) (sp_lnA_is iB) (by omega) ok)) (by omega) (by omega))))
