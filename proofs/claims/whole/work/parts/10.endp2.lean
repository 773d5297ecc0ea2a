theorem sp_c3 {x : Int64} (h1 : ¬ x < 0) (h2 : ¬ 3 ≤ x) : x.toInt32 = nI x.toInt32.toNatClampNeg ∧ x.toInt32.toNatClampNeg < 3 := by
  obtain ⟨n, hn, rfl⟩ := pk_lOf h1
  have h3 : n < 3 := by
    have := mt (pk_lLE (a := 3) (b := n) (by decide) hn).mpr h2
    omega
  rw [lN_i, nI_clamp (by omega)]
  exact ⟨rfl, h3⟩
abbrev b_Endpoint_channelAt : ByteArray := prog_4_method_20_code
def y_Endpoint_channelAt : MethodName := ⟨"SecurePair$Endpoint", "channelAt", "(J)LSecurePair$Channel;"⟩
abbrev w_Endpoint_channelAt : List Cond := .code y_Endpoint_channelAt b_Endpoint_channelAt 3 (some (.object "SecurePair$Channel")) :: xa
theorem d_Endpoint_channelAt_0 : decode b_Endpoint_channelAt 0 = .ok (.lload_n 1, 1) := by decide +kernel
theorem d_Endpoint_channelAt_1 : decode b_Endpoint_channelAt 1 = .ok (.lconst 0, 1) := by decide +kernel
theorem d_Endpoint_channelAt_2 : decode b_Endpoint_channelAt 2 = .ok (.lcmp, 1) := by decide +kernel
theorem d_Endpoint_channelAt_3 : decode b_Endpoint_channelAt 3 = .ok (.ifCond .lt 21, 3) := by decide +kernel
theorem d_Endpoint_channelAt_6 : decode b_Endpoint_channelAt 6 = .ok (.lload_n 1, 1) := by decide +kernel
theorem d_Endpoint_channelAt_7 : decode b_Endpoint_channelAt 7 = .ok (.ldc2_w 258, 3) := by decide +kernel
theorem d_Endpoint_channelAt_10 : decode b_Endpoint_channelAt 10 = .ok (.lcmp, 1) := by decide +kernel
theorem d_Endpoint_channelAt_11 : decode b_Endpoint_channelAt 11 = .ok (.ifCond .ge 13, 3) := by decide +kernel
theorem d_Endpoint_channelAt_14 : decode b_Endpoint_channelAt 14 = .ok (.aload_n 0, 1) := by decide +kernel
theorem d_Endpoint_channelAt_15 : decode b_Endpoint_channelAt 15 = .ok (.getfield 40, 3) := by decide +kernel
theorem d_Endpoint_channelAt_18 : decode b_Endpoint_channelAt 18 = .ok (.lload_n 1, 1) := by decide +kernel
theorem d_Endpoint_channelAt_19 : decode b_Endpoint_channelAt 19 = .ok (.l2i, 1) := by decide +kernel
theorem d_Endpoint_channelAt_20 : decode b_Endpoint_channelAt 20 = .ok (.aaload, 1) := by decide +kernel
theorem d_Endpoint_channelAt_21 : decode b_Endpoint_channelAt 21 = .ok (.goto 4, 3) := by decide +kernel
theorem d_Endpoint_channelAt_24 : decode b_Endpoint_channelAt 24 = .ok (.aconst_null, 1) := by decide +kernel
theorem d_Endpoint_channelAt_25 : decode b_Endpoint_channelAt 25 = .ok (.areturn, 1) := by decide +kernel
theorem xw483 : (Cond.constantLong "SecurePair$Endpoint" (258 : Nat) (3 : Int64)) ∈ xa := xa_t 483 (by decide +kernel) (by decide +kernel)
def p_channelAt (B : Nat) (x1 : Int64) (σ : xb_St) : Option Nat := (if x1 < (0 : Int64) then none else (if (3 : Int64) ≤ x1 then none else (some (B + 8 + 1 + x1.toInt32.toNatClampNeg))))
set_option maxHeartbeats 4000000 in
set_option maxRecDepth 100000 in
theorem c_Endpoint_channelAt (l : Launch) (D : va_G) (α : Nat → Nat) (κ : Nat → ClassId) (hα : xb_inj α 35) (σ : xb_St) (B : Nat) (x1 : Int64) (iB : sp_isEndpoint B) : Met l y_Endpoint_channelAt w_Endpoint_channelAt ({ frames := 0, cells := 0, slots := 0, locals := 0 }) (va_Pc ([.ref (α B), .long x1]) (sp_Pre D α κ σ)) (va_Qq (fun r (u : xb_St) => r = (p_channelAt B x1 σ).map α ∧ u = σ) (sp_B D α κ) (xb_A α 35)) 0 0 (xb_A α 35) := by
  refine Met.ofW (cc := b_Endpoint_channelAt) (maxL := 3) (ret := (some (.object "SecurePair$Channel"))) (by decide) rfl ?_
  intro p e s m args below meth c s₁ B_ hml hv
  obtain ⟨rfl, hP, hK, hN⟩ := hv
  have hx := B_.exec
  have hb := B_.bytes
  have hr := B_.returns
  have hts := atoms_spec (ws := w_Endpoint_channelAt) B_.pre
  have ht : ∀ w ∈ xa, w.before _ s = true := fun w h => hts w (List.mem_cons_of_mem _ h)
  have hown : s.vm.findClass "SecurePair$Endpoint" = some m.cls := findClass_of_methodNamed B_.named
  have hlocks := B_.notSynchronized
  have hD := sp_D hα κ
  have hS : va_S (xb_A α 35) s.heap s.heap [] := va_S.rf
  have hlA := sp_lnA_is iB
  have hlD := sp_lnD_is iB
  have hln := sp_ln_ne iB
  have hl := lv_entry ([.ref (α B), .long x1]) (n := 3) (Nat.le_of_ble_eq_true rfl)
  rw [lg_entry_eq]
  generalize (lg_sl ([.ref (α B), .long x1]) ++ List.replicate (3 - (lg_sl ([.ref (α B), .long x1])).length) Slot.unset).toArray = ls at hl ⊢
  have hl : lv_has ls 3 [(0, .ref (α B)), (1, .long x1)] := hl
  refine lv_lload_n hx hb d_Endpoint_channelAt_0 rfl (lv_at hl 1 rfl) ?_
  refine lv_lconst (v := 0) hx hb d_Endpoint_channelAt_1 (by decide) ?_
  refine xb_llt (tgt := 24) hx hb d_Endpoint_channelAt_2 d_Endpoint_channelAt_3 (by decide) (fun c1 => ?_) (fun c1 => ?_)
  · skip
    refine lv_null hx hb d_Endpoint_channelAt_24 ?_
    exact W.aret (v := .null) hx hb hr (Or.inl ⟨_, rfl⟩) (Or.inl rfl) (fun t ht_ hW => ⟨⟨none, σ, rfl, ⟨(congrArg (Option.map α) ((((if_pos c1)).symm) : none = p_channelAt B x1 σ)), rfl⟩, by rw [sp_B, ht_]; exact hP⟩, hS.F ht_⟩) hS.2.2 d_Endpoint_channelAt_25
  · skip
    refine lv_lload_n hx hb d_Endpoint_channelAt_6 rfl (lv_at hl 1 rfl) ?_
    refine lv_ldc2 hx hb hown (ht _ xw483) d_Endpoint_channelAt_7 ?_
    refine xb_lge (tgt := 24) hx hb d_Endpoint_channelAt_10 d_Endpoint_channelAt_11 (by decide) (fun c2 => ?_) (fun c2 => ?_)
    · skip
      refine lv_null hx hb d_Endpoint_channelAt_24 ?_
      exact W.aret (v := .null) hx hb hr (Or.inl ⟨_, rfl⟩) (Or.inl rfl) (fun t ht_ hW => ⟨⟨none, σ, rfl, ⟨(congrArg (Option.map α) ((((if_neg c1).trans ((if_pos c2))).symm) : none = p_channelAt B x1 σ)), rfl⟩, by rw [sp_B, ht_]; exact hP⟩, hS.F ht_⟩) hS.2.2 d_Endpoint_channelAt_25
    · skip
      have hz := sp_c3 c1 c2
      refine lv_aload_n hx hb d_Endpoint_channelAt_14 rfl (lv_at hl 0 rfl) ?_
      refine sp_g_Endpoint (v := .ref (α (B + 8))) hx hb ht hown hK hP iB 8 (by decide) (ht _ xw244) (fun _ h_ => h_) rfl d_Endpoint_channelAt_15 ?_
      refine lv_lload_n hx hb d_Endpoint_channelAt_18 rfl (lv_at hl 1 rfl) ?_
      refine lv_l2i (v := x1.toInt32) hx hb d_Endpoint_channelAt_19 (by rfl) ?_
      refine sp_ga_chArr (n := x1.toInt32.toNatClampNeg) hx hb hK hP (by omega) (xb_in hz.1 (by omega) (by decide)) (xb_cl hz.1 (by omega)) d_Endpoint_channelAt_20 ?_
      refine lv_goto (tgt := 25) hx hb d_Endpoint_channelAt_21 (by decide) ?_
      exact W.aret (v := .ref (α (B + 8 + 1 + x1.toInt32.toNatClampNeg))) hx hb hr (Or.inl ⟨_, rfl⟩) (Or.inr ⟨_, rfl⟩) (fun t ht_ hW => ⟨⟨some (α (B + 8 + 1 + x1.toInt32.toNatClampNeg)), σ, rfl, ⟨(congrArg (Option.map α) ((((if_neg c1).trans ((if_neg c2))).symm) : (some (B + 8 + 1 + x1.toInt32.toNatClampNeg)) = p_channelAt B x1 σ)), rfl⟩, by rw [sp_B, ht_]; exact hP⟩, hS.F ht_⟩) hS.2.2 d_Endpoint_channelAt_25
theorem p_channelAt_is {B K : Nat} {x : Int64} {σ : xb_St} (iB : sp_isEndpoint B) (h : p_channelAt B x σ = some K) : sp_isChannel K := by
  unfold p_channelAt at h
  split at h
  · exact nomatch h
  · rename_i h1
    split at h
    · exact nomatch h
    · rename_i h2
      have e := Option.some.inj h
      have := (sp_c3 h1 h2).2
      omega
abbrev b_Endpoint_takeOpen : ByteArray := prog_4_method_18_code
def y_Endpoint_takeOpen : MethodName := ⟨"SecurePair$Endpoint", "takeOpen", "(LSecurePair$Packet;)I"⟩
abbrev w_Endpoint_takeOpen : List Cond := .code y_Endpoint_takeOpen b_Endpoint_takeOpen 3 (some .int) :: xa
theorem d_Endpoint_takeOpen_0 : decode b_Endpoint_takeOpen 0 = .ok (.aload_n 0, 1) := by decide +kernel
theorem d_Endpoint_takeOpen_1 : decode b_Endpoint_takeOpen 1 = .ok (.invokevirtual 230, 3) := by decide +kernel
theorem d_Endpoint_takeOpen_4 : decode b_Endpoint_takeOpen 4 = .ok (.astore_n 2, 1) := by decide +kernel
theorem d_Endpoint_takeOpen_5 : decode b_Endpoint_takeOpen 5 = .ok (.aload_n 2, 1) := by decide +kernel
theorem d_Endpoint_takeOpen_6 : decode b_Endpoint_takeOpen 6 = .ok (.ifnonnull 18, 3) := by decide +kernel
theorem d_Endpoint_takeOpen_9 : decode b_Endpoint_takeOpen 9 = .ok (.aload_n 0, 1) := by decide +kernel
theorem d_Endpoint_takeOpen_10 : decode b_Endpoint_takeOpen 10 = .ok (.bipush 92, 2) := by decide +kernel
theorem d_Endpoint_takeOpen_12 : decode b_Endpoint_takeOpen 12 = .ok (.aload_n 1, 1) := by decide +kernel
theorem d_Endpoint_takeOpen_13 : decode b_Endpoint_takeOpen 13 = .ok (.getfield 104, 3) := by decide +kernel
theorem d_Endpoint_takeOpen_16 : decode b_Endpoint_takeOpen 16 = .ok (.lconst 0, 1) := by decide +kernel
theorem d_Endpoint_takeOpen_17 : decode b_Endpoint_takeOpen 17 = .ok (.lconst 0, 1) := by decide +kernel
theorem d_Endpoint_takeOpen_18 : decode b_Endpoint_takeOpen 18 = .ok (.lconst 0, 1) := by decide +kernel
theorem d_Endpoint_takeOpen_19 : decode b_Endpoint_takeOpen 19 = .ok (.invokevirtual 90, 3) := by decide +kernel
theorem d_Endpoint_takeOpen_22 : decode b_Endpoint_takeOpen 22 = .ok (.iconst 0, 1) := by decide +kernel
theorem d_Endpoint_takeOpen_23 : decode b_Endpoint_takeOpen 23 = .ok (.ireturn, 1) := by decide +kernel
theorem d_Endpoint_takeOpen_24 : decode b_Endpoint_takeOpen 24 = .ok (.aload_n 2, 1) := by decide +kernel
theorem d_Endpoint_takeOpen_25 : decode b_Endpoint_takeOpen 25 = .ok (.aload_n 1, 1) := by decide +kernel
theorem d_Endpoint_takeOpen_26 : decode b_Endpoint_takeOpen 26 = .ok (.getfield 104, 3) := by decide +kernel
theorem d_Endpoint_takeOpen_29 : decode b_Endpoint_takeOpen 29 = .ok (.aload_n 1, 1) := by decide +kernel
theorem d_Endpoint_takeOpen_30 : decode b_Endpoint_takeOpen 30 = .ok (.getfield 107, 3) := by decide +kernel
theorem d_Endpoint_takeOpen_33 : decode b_Endpoint_takeOpen 33 = .ok (.invokevirtual 234, 3) := by decide +kernel
theorem d_Endpoint_takeOpen_36 : decode b_Endpoint_takeOpen 36 = .ok (.aload_n 2, 1) := by decide +kernel
theorem d_Endpoint_takeOpen_37 : decode b_Endpoint_takeOpen 37 = .ok (.bipush 24, 2) := by decide +kernel
theorem d_Endpoint_takeOpen_39 : decode b_Endpoint_takeOpen 39 = .ok (.putfield 238, 3) := by decide +kernel
theorem d_Endpoint_takeOpen_42 : decode b_Endpoint_takeOpen 42 = .ok (.aload_n 0, 1) := by decide +kernel
theorem d_Endpoint_takeOpen_43 : decode b_Endpoint_takeOpen 43 = .ok (.bipush 91, 2) := by decide +kernel
theorem d_Endpoint_takeOpen_45 : decode b_Endpoint_takeOpen 45 = .ok (.aload_n 1, 1) := by decide +kernel
theorem d_Endpoint_takeOpen_46 : decode b_Endpoint_takeOpen 46 = .ok (.getfield 104, 3) := by decide +kernel
theorem d_Endpoint_takeOpen_49 : decode b_Endpoint_takeOpen 49 = .ok (.aload_n 2, 1) := by decide +kernel
theorem d_Endpoint_takeOpen_50 : decode b_Endpoint_takeOpen 50 = .ok (.getfield 241, 3) := by decide +kernel
theorem d_Endpoint_takeOpen_53 : decode b_Endpoint_takeOpen 53 = .ok (.i2l, 1) := by decide +kernel
theorem d_Endpoint_takeOpen_54 : decode b_Endpoint_takeOpen 54 = .ok (.ldc2_w 244, 3) := by decide +kernel
theorem d_Endpoint_takeOpen_57 : decode b_Endpoint_takeOpen 57 = .ok (.lconst 0, 1) := by decide +kernel
theorem d_Endpoint_takeOpen_58 : decode b_Endpoint_takeOpen 58 = .ok (.invokevirtual 90, 3) := by decide +kernel
theorem d_Endpoint_takeOpen_61 : decode b_Endpoint_takeOpen 61 = .ok (.iconst 0, 1) := by decide +kernel
theorem d_Endpoint_takeOpen_62 : decode b_Endpoint_takeOpen 62 = .ok (.ireturn, 1) := by decide +kernel
theorem xw192 : (Cond.fieldLink "SecurePair$Endpoint" (241 : Nat) "SecurePair$Channel" "index" "I") ∈ xa := xa_t 192 (by decide +kernel) (by decide +kernel)
theorem xw201 : (Cond.fieldLink "SecurePair$Endpoint" (238 : Nat) "SecurePair$Channel" "room" "I") ∈ xa := xa_t 201 (by decide +kernel) (by decide +kernel)
theorem xw777 : (Cond.methodLink "SecurePair$Endpoint" (230 : Nat) ({ cls := "SecurePair$Endpoint", name := "leastFree", desc := "()LSecurePair$Channel;" } : MethodName)) ∈ xa := xa_t 777 (by decide +kernel) (by decide +kernel)
theorem xw778 : (Cond.instanceMethod ({ cls := "SecurePair$Endpoint", name := "leastFree", desc := "()LSecurePair$Channel;" } : MethodName)) ∈ xa := xa_t 778 (by decide +kernel) (by decide +kernel)
theorem xw779 : (Cond.sameMethod "SecurePair$Endpoint" "SecurePair$Endpoint" "leastFree" "()LSecurePair$Channel;") ∈ xa := xa_t 779 (by decide +kernel) (by decide +kernel)
theorem xw780 : (Cond.selects "SecurePair$Client" ({ cls := "SecurePair$Endpoint", name := "leastFree", desc := "()LSecurePair$Channel;" } : MethodName) ({ cls := "SecurePair$Endpoint", name := "leastFree", desc := "()LSecurePair$Channel;" } : MethodName)) ∈ xa := xa_t 780 (by decide +kernel) (by decide +kernel)
theorem xw781 : (Cond.selects "SecurePair$Server" ({ cls := "SecurePair$Endpoint", name := "leastFree", desc := "()LSecurePair$Channel;" } : MethodName) ({ cls := "SecurePair$Endpoint", name := "leastFree", desc := "()LSecurePair$Channel;" } : MethodName)) ∈ xa := xa_t 781 (by decide +kernel) (by decide +kernel)
theorem xw782 : (Cond.code ({ cls := "SecurePair$Endpoint", name := "leastFree", desc := "()LSecurePair$Channel;" } : MethodName) prog_4_method_21_code (2 : Nat) (Option.some (ClassFile.FieldType.object "SecurePair$Channel"))) ∈ xa := xa_t 782 (by decide +kernel) (by decide +kernel)
theorem xw783 : (Cond.methodLink "SecurePair$Endpoint" (234 : Nat) ({ cls := "SecurePair$Channel", name := "connect", desc := "(JJ)V" } : MethodName)) ∈ xa := xa_t 783 (by decide +kernel) (by decide +kernel)
theorem xw787 : (Cond.constantLong "SecurePair$Endpoint" (244 : Nat) (24 : Int64)) ∈ xa := xa_t 787 (by decide +kernel) (by decide +kernel)
def p_takeOpen (B : Nat) (P : Nat) (σ : xb_St) : Int32 × xb_St := (xb_om (p_leastFree B σ) ((0 : Int32), (p_send B (92 : Int32) (σ.2 P 1) (0 : Int64) (0 : Int64) (0 : Int64) σ)) (fun K1 => ((0 : Int32), (p_send B (91 : Int32) ((p_Ch_connect K1 (σ.2 P 1) (σ.2 P 2) σ).2 P 1) (((p_Ch_connect K1 (σ.2 P 1) (σ.2 P 2) σ).1 K1 0).toInt64) (24 : Int64) (0 : Int64) (xb_si (p_Ch_connect K1 (σ.2 P 1) (σ.2 P 2) σ) K1 5 (24 : Int32))))))
set_option maxHeartbeats 4000000 in
set_option maxRecDepth 100000 in
theorem c_Endpoint_takeOpen (l : Launch) (D : va_G) (α : Nat → Nat) (κ : Nat → ClassId) (hα : xb_inj α 35) (σ : xb_St) (B : Nat) (P : Nat) (iB : sp_isEndpoint B) (iP : sp_isPacket P) (ok : sp_ok σ) : Met l y_Endpoint_takeOpen w_Endpoint_takeOpen ({ frames := 3, cells := 0, slots := 0, locals := 77 }) (va_Pc ([.ref (α B), .ref (α P)]) (sp_Pre D α κ σ)) (va_Qi (fun r (u : xb_St) => r = (p_takeOpen B P σ).1 ∧ u = (p_takeOpen B P σ).2) (sp_B D α κ) (xb_A α 35)) 0 0 (xb_A α 35) := by
  refine Met.ofW (cc := b_Endpoint_takeOpen) (maxL := 3) (ret := (some .int)) (by decide) rfl ?_
  intro p e s m args below meth c s₁ B_ hml hv
  obtain ⟨rfl, hP, hK, hN⟩ := hv
  have hx := B_.exec
  have hb := B_.bytes
  have hr := B_.returns
  have hts := atoms_spec (ws := w_Endpoint_takeOpen) B_.pre
  have ht : ∀ w ∈ xa, w.before _ s = true := fun w h => hts w (List.mem_cons_of_mem _ h)
  have hown : s.vm.findClass "SecurePair$Endpoint" = some m.cls := findClass_of_methodNamed B_.named
  have hlocks := B_.notSynchronized
  have hD := sp_D hα κ
  have hS : va_S (xb_A α 35) s.heap s.heap [] := va_S.rf
  have hlA := sp_lnA_is iB
  have hlD := sp_lnD_is iB
  have hln := sp_ln_ne iB
  have hl := lv_entry ([.ref (α B), .ref (α P)]) (n := 3) (Nat.le_of_ble_eq_true rfl)
  rw [lg_entry_eq]
  generalize (lg_sl ([.ref (α B), .ref (α P)]) ++ List.replicate (3 - (lg_sl ([.ref (α B), .ref (α P)])).length) Slot.unset).toArray = ls at hl ⊢
  have hl : lv_has ls 3 [(0, .ref (α B)), (1, .ref (α P))] := hl
  refine lv_aload_n hx hb d_Endpoint_takeOpen_0 rfl (lv_at hl 0 rfl) ?_
  refine sp_cq (sp_runE (n := 0) (As := []) (rest := []) ⟨hx, hb, hml, hown, hts⟩ (c_Endpoint_leastFree l D α κ hα σ B iB) iB xw777 xw779 xw780 xw781 xw778 xw3 xw782 rfl rfl rfl (by decide +kernel) ⟨Nat.le_of_ble_eq_true rfl, Nat.le_of_ble_eq_true rfl⟩ hP hK hN rfl rfl hl.1 rfl (lv_room (Nat.le_of_ble_eq_true rfl)) d_Endpoint_takeOpen_1 ⟨Nat.le_of_ble_eq_true rfl, Nat.le_of_ble_eq_true rfl⟩) hS (fun _ h_ => h_) (fun H locs hP hS => ?_)
  rcases c1 : (p_leastFree B σ) with _ | K1
  · skip
    refine lv_astore_nN (lv' := [(2, .null), (0, .ref (α B)), (1, .ref (α P))]) hx hb d_Endpoint_takeOpen_4 rfl hl (by decide) rfl (fun ls hl => ?_)
    refine lv_aload_nN hx hb d_Endpoint_takeOpen_5 rfl (lv_at hl 0 rfl) ?_
    refine lv_ifnonnullN hx hb d_Endpoint_takeOpen_6 ?_
    refine lv_aload_n hx hb d_Endpoint_takeOpen_9 rfl (lv_at hl 1 rfl) ?_
    refine lv_bipush (v := 92) hx hb d_Endpoint_takeOpen_10 (by decide) ?_
    refine lv_aload_n hx hb d_Endpoint_takeOpen_12 rfl (lv_at hl 2 rfl) ?_
    refine sp_g_Packet (v := .long (σ.2 P 1)) hx hb ht hown hK hP iP 1 (by decide) (ht _ xw67) (fun _ h_ => h_) rfl d_Endpoint_takeOpen_13 ?_
    refine lv_lconst (v := 0) hx hb d_Endpoint_takeOpen_16 (by decide) ?_
    refine lv_lconst (v := 0) hx hb d_Endpoint_takeOpen_17 (by decide) ?_
    refine lv_lconst (v := 0) hx hb d_Endpoint_takeOpen_18 (by decide) ?_
    refine sp_cv (sp_runE (n := 5) (As := [.int (92 : Int32), .long (σ.2 P 1), .long (0 : Int64), .long (0 : Int64), .long (0 : Int64)]) (rest := []) ⟨hx, hb, hml, hown, hts⟩ (c_Endpoint_send l D α κ hα σ B (92 : Int32) (σ.2 P 1) (0 : Int64) (0 : Int64) (0 : Int64) iB ok) iB xw379 xw381 xw382 xw383 xw380 xw3 xw384 rfl rfl rfl (by decide +kernel) ⟨Nat.le_of_ble_eq_true rfl, Nat.le_of_ble_eq_true rfl⟩ hP hK hN rfl rfl hl.1 rfl (lv_room (Nat.le_of_ble_eq_true rfl)) d_Endpoint_takeOpen_19 ⟨Nat.le_of_ble_eq_true rfl, Nat.le_of_ble_eq_true rfl⟩) hS (fun _ h_ => h_) (fun H locs hP hS => ?_)
    obtain ⟨τ1, hτ1⟩ : ∃ t_, t_ = (p_send B (92 : Int32) (σ.2 P 1) (0 : Int64) (0 : Int64) (0 : Int64) σ) := ⟨_, rfl⟩
    rw [← hτ1] at hP
    have okτ1 : sp_ok τ1 := by rw [hτ1]; exact (ok_p_send B (92 : Int32) (σ.2 P 1) (0 : Int64) (0 : Int64) (0 : Int64) iB ok)
    refine lv_iconst (v := 0) hx hb d_Endpoint_takeOpen_22 (by decide) ?_
    exact W.iret (v := (0 : Int32)) hx hb hr (fun t ht_ hW => ⟨⟨(0 : Int32), τ1, rfl, ⟨congrArg Prod.fst (((by subst hτ1; exact (by unfold p_takeOpen; rw [xb_om_none c1]))) : ((0 : Int32), τ1) = p_takeOpen B P σ), congrArg Prod.snd (((by subst hτ1; exact (by unfold p_takeOpen; rw [xb_om_none c1]))) : ((0 : Int32), τ1) = p_takeOpen B P σ)⟩, by rw [sp_B, ht_]; exact hP⟩, hS.F ht_⟩) hS.2.2 d_Endpoint_takeOpen_23
  · skip
    have iK1 := p_leastFree_is iB c1
    refine lv_astore_n (lv' := [(2, .ref (α K1)), (0, .ref (α B)), (1, .ref (α P))]) hx hb d_Endpoint_takeOpen_4 rfl hl (by decide) rfl (fun ls hl => ?_)
    refine lv_aload_n hx hb d_Endpoint_takeOpen_5 rfl (lv_at hl 0 rfl) ?_
    refine lv_ifnonnull (tgt := 24) hx hb d_Endpoint_takeOpen_6 (by decide) ?_
    refine lv_aload_n hx hb d_Endpoint_takeOpen_24 rfl (lv_at hl 0 rfl) ?_
    refine lv_aload_n hx hb d_Endpoint_takeOpen_25 rfl (lv_at hl 2 rfl) ?_
    refine sp_g_Packet (v := .long (σ.2 P 1)) hx hb ht hown hK hP iP 1 (by decide) (ht _ xw67) (fun _ h_ => h_) rfl d_Endpoint_takeOpen_26 ?_
    refine lv_aload_n hx hb d_Endpoint_takeOpen_29 rfl (lv_at hl 2 rfl) ?_
    refine sp_g_Packet (v := .long (σ.2 P 2)) hx hb ht hown hK hP iP 2 (by decide) (ht _ xw71) (fun _ h_ => h_) rfl d_Endpoint_takeOpen_30 ?_
    refine sp_cv (va_runV (As := [.long (σ.2 P 1), .long (σ.2 P 2)]) (rest := []) ⟨hx, hb, hml, hown, hts⟩ (c_Channel_connect l D α κ hα σ K1 (σ.2 P 1) (σ.2 P 2) iK1) (cwV 2 hts (xa_V xw783 xw784 xw785 xw9 xw786) rfl rfl rfl (by decide +kernel) ⟨Nat.le_of_ble_eq_true rfl, Nat.le_of_ble_eq_true rfl⟩) ⟨sp_blind, va_recv hK hP rfl (sp_at_Channel iK1), sp_pre hP hK hN _⟩ rfl rfl hl.1 rfl (lv_room (Nat.le_of_ble_eq_true rfl)) d_Endpoint_takeOpen_33 ⟨Nat.le_of_ble_eq_true rfl, Nat.le_of_ble_eq_true rfl⟩) hS (fun _ h_ => h_) (fun H locs hP hS => ?_)
    obtain ⟨τ2, hτ2⟩ : ∃ t_, t_ = (p_Ch_connect K1 (σ.2 P 1) (σ.2 P 2) σ) := ⟨_, rfl⟩
    rw [← hτ2] at hP
    have okτ2 : sp_ok τ2 := by rw [hτ2]; exact (ok_p_Ch_connect K1 (σ.2 P 1) (σ.2 P 2) iK1 ok)
    refine lv_aload_n hx hb d_Endpoint_takeOpen_36 rfl (lv_at hl 0 rfl) ?_
    refine lv_bipush (v := 24) hx hb d_Endpoint_takeOpen_37 (by decide) ?_
    refine sp_pi_Channel (x := (24 : Int32)) (ty := .int) hx hb ht hown hK hP iK1 5 (by decide) (ht _ xw201) (fun _ h_ => h_) hD hS rfl (by decide +kernel) rfl rfl hf_Channel_5 d_Endpoint_takeOpen_39 (fun H locs hP hS => ?_)
    refine lv_aload_n hx hb d_Endpoint_takeOpen_42 rfl (lv_at hl 1 rfl) ?_
    refine lv_bipush (v := 91) hx hb d_Endpoint_takeOpen_43 (by decide) ?_
    refine lv_aload_n hx hb d_Endpoint_takeOpen_45 rfl (lv_at hl 2 rfl) ?_
    refine sp_g_Packet (v := .long (τ2.2 P 1)) hx hb ht hown hK hP iP 1 (by decide) (ht _ xw67) (fun _ h_ => h_) (congrArg (fun z_ => some (Value.long z_)) (xb_l_i)) d_Endpoint_takeOpen_46 ?_
    refine lv_aload_n hx hb d_Endpoint_takeOpen_49 rfl (lv_at hl 0 rfl) ?_
    refine sp_g_Channel (v := .int (τ2.1 K1 0)) hx hb ht hown hK hP iK1 0 (by decide) (ht _ xw192) (fun _ h_ => h_) (congrArg (fun z_ => some (Value.int z_)) ((xb_i_nj (by decide)))) d_Endpoint_takeOpen_50 ?_
    refine lv_i2l (v := (τ2.1 K1 0).toInt64) hx hb d_Endpoint_takeOpen_53 (by rfl) ?_
    refine lv_ldc2 hx hb hown (ht _ xw787) d_Endpoint_takeOpen_54 ?_
    refine lv_lconst (v := 0) hx hb d_Endpoint_takeOpen_57 (by decide) ?_
    refine sp_cv (sp_runE (n := 5) (As := [.int (91 : Int32), .long (τ2.2 P 1), .long ((τ2.1 K1 0).toInt64), .long (24 : Int64), .long (0 : Int64)]) (rest := []) ⟨hx, hb, hml, hown, hts⟩ (c_Endpoint_send l D α κ hα (xb_si τ2 K1 5 (24 : Int32)) B (91 : Int32) (τ2.2 P 1) ((τ2.1 K1 0).toInt64) (24 : Int64) (0 : Int64) iB (ok_si okτ2 (by omega) (by omega))) iB xw379 xw381 xw382 xw383 xw380 xw3 xw384 rfl rfl rfl (by decide +kernel) ⟨Nat.le_of_ble_eq_true rfl, Nat.le_of_ble_eq_true rfl⟩ hP hK hN rfl rfl hl.1 rfl (lv_room (Nat.le_of_ble_eq_true rfl)) d_Endpoint_takeOpen_58 ⟨Nat.le_of_ble_eq_true rfl, Nat.le_of_ble_eq_true rfl⟩) hS (fun _ h_ => h_) (fun H locs hP hS => ?_)
    obtain ⟨τ3, hτ3⟩ : ∃ t_, t_ = (p_send B (91 : Int32) (τ2.2 P 1) ((τ2.1 K1 0).toInt64) (24 : Int64) (0 : Int64) (xb_si τ2 K1 5 (24 : Int32))) := ⟨_, rfl⟩
    rw [← hτ3] at hP
    have okτ3 : sp_ok τ3 := by rw [hτ3]; exact (ok_p_send B (91 : Int32) (τ2.2 P 1) ((τ2.1 K1 0).toInt64) (24 : Int64) (0 : Int64) iB (ok_si okτ2 (by omega) (by omega)))
    refine lv_iconst (v := 0) hx hb d_Endpoint_takeOpen_61 (by decide) ?_
    exact W.iret (v := (0 : Int32)) hx hb hr (fun t ht_ hW => ⟨⟨(0 : Int32), τ3, rfl, ⟨congrArg Prod.fst (((by subst hτ3; subst hτ2; exact (by unfold p_takeOpen; rw [xb_om_some c1]))) : ((0 : Int32), τ3) = p_takeOpen B P σ), congrArg Prod.snd (((by subst hτ3; subst hτ2; exact (by unfold p_takeOpen; rw [xb_om_some c1]))) : ((0 : Int32), τ3) = p_takeOpen B P σ)⟩, by rw [sp_B, ht_]; exact hP⟩, hS.F ht_⟩) hS.2.2 d_Endpoint_takeOpen_62
theorem ok_p_takeOpen {σ : xb_St} (B : Nat) (P : Nat) (iB : sp_isEndpoint B) (iP : sp_isPacket P) (ok : sp_ok σ) : sp_ok (p_takeOpen B P σ).2 := by
  have hlA := sp_lnA_is iB
  have hlD := sp_lnD_is iB
  have hln := sp_ln_ne iB
  unfold p_takeOpen
  rcases c1 : (p_leastFree B σ) with _ | K1
  · dsimp only [xb_om]
    exact (ok_p_send B (92 : Int32) (σ.2 P 1) (0 : Int64) (0 : Int64) (0 : Int64) iB ok)
  · dsimp only [xb_om]
    have iK1 := p_leastFree_is iB c1
    exact (ok_p_send B (91 : Int32) ((p_Ch_connect K1 (σ.2 P 1) (σ.2 P 2) σ).2 P 1) (((p_Ch_connect K1 (σ.2 P 1) (σ.2 P 2) σ).1 K1 0).toInt64) (24 : Int64) (0 : Int64) iB (ok_si (ok_p_Ch_connect K1 (σ.2 P 1) (σ.2 P 2) iK1 ok) (by omega) (by omega)))
abbrev b_Endpoint_ask : ByteArray := prog_4_method_23_code
def y_Endpoint_ask : MethodName := ⟨"SecurePair$Endpoint", "ask", "(LSecurePair$Channel;)V"⟩
abbrev w_Endpoint_ask : List Cond := .code y_Endpoint_ask b_Endpoint_ask 2 none :: xa
theorem d_Endpoint_ask_0 : decode b_Endpoint_ask 0 = .ok (.aload_n 1, 1) := by decide +kernel
theorem d_Endpoint_ask_1 : decode b_Endpoint_ask 1 = .ok (.iconst 1, 1) := by decide +kernel
theorem d_Endpoint_ask_2 : decode b_Endpoint_ask 2 = .ok (.putfield 249, 3) := by decide +kernel
theorem d_Endpoint_ask_5 : decode b_Endpoint_ask 5 = .ok (.aload_n 1, 1) := by decide +kernel
theorem d_Endpoint_ask_6 : decode b_Endpoint_ask 6 = .ok (.bipush 24, 2) := by decide +kernel
theorem d_Endpoint_ask_8 : decode b_Endpoint_ask 8 = .ok (.putfield 238, 3) := by decide +kernel
theorem d_Endpoint_ask_11 : decode b_Endpoint_ask 11 = .ok (.aload_n 0, 1) := by decide +kernel
theorem d_Endpoint_ask_12 : decode b_Endpoint_ask 12 = .ok (.bipush 90, 2) := by decide +kernel
theorem d_Endpoint_ask_14 : decode b_Endpoint_ask 14 = .ok (.aload_n 1, 1) := by decide +kernel
theorem d_Endpoint_ask_15 : decode b_Endpoint_ask 15 = .ok (.getfield 241, 3) := by decide +kernel
theorem d_Endpoint_ask_18 : decode b_Endpoint_ask 18 = .ok (.i2l, 1) := by decide +kernel
theorem d_Endpoint_ask_19 : decode b_Endpoint_ask 19 = .ok (.ldc2_w 244, 3) := by decide +kernel
theorem d_Endpoint_ask_22 : decode b_Endpoint_ask 22 = .ok (.lconst 0, 1) := by decide +kernel
theorem d_Endpoint_ask_23 : decode b_Endpoint_ask 23 = .ok (.lconst 0, 1) := by decide +kernel
theorem d_Endpoint_ask_24 : decode b_Endpoint_ask 24 = .ok (.invokevirtual 90, 3) := by decide +kernel
theorem d_Endpoint_ask_27 : decode b_Endpoint_ask 27 = .ok (.return_, 1) := by decide +kernel
def p_ask (B : Nat) (C : Nat) (σ : xb_St) : xb_St := (p_send B (90 : Int32) ((σ.1 C 0).toInt64) (24 : Int64) (0 : Int64) (0 : Int64) (xb_si (xb_si σ C 2 (1 : Int32)) C 5 (24 : Int32)))
set_option maxHeartbeats 4000000 in
set_option maxRecDepth 100000 in
theorem c_Endpoint_ask (l : Launch) (D : va_G) (α : Nat → Nat) (κ : Nat → ClassId) (hα : xb_inj α 35) (σ : xb_St) (B : Nat) (C : Nat) (iB : sp_isEndpoint B) (iC : sp_isChannel C) (ok : sp_ok σ) : Met l y_Endpoint_ask w_Endpoint_ask ({ frames := 3, cells := 0, slots := 0, locals := 77 }) (va_Pc ([.ref (α B), .ref (α C)]) (sp_Pre D α κ σ)) (va_Qv (fun u : xb_St => u = p_ask B C σ) (sp_B D α κ) (xb_A α 35)) 0 0 (xb_A α 35) := by
  refine Met.ofW (cc := b_Endpoint_ask) (maxL := 2) (ret := none) (by decide) rfl ?_
  intro p e s m args below meth c s₁ B_ hml hv
  obtain ⟨rfl, hP, hK, hN⟩ := hv
  have hx := B_.exec
  have hb := B_.bytes
  have hr := B_.returns
  have hts := atoms_spec (ws := w_Endpoint_ask) B_.pre
  have ht : ∀ w ∈ xa, w.before _ s = true := fun w h => hts w (List.mem_cons_of_mem _ h)
  have hown : s.vm.findClass "SecurePair$Endpoint" = some m.cls := findClass_of_methodNamed B_.named
  have hlocks := B_.notSynchronized
  have hD := sp_D hα κ
  have hS : va_S (xb_A α 35) s.heap s.heap [] := va_S.rf
  have hlA := sp_lnA_is iB
  have hlD := sp_lnD_is iB
  have hln := sp_ln_ne iB
  have hl := lv_entry ([.ref (α B), .ref (α C)]) (n := 2) (Nat.le_of_ble_eq_true rfl)
  rw [lg_entry_eq]
  generalize (lg_sl ([.ref (α B), .ref (α C)]) ++ List.replicate (2 - (lg_sl ([.ref (α B), .ref (α C)])).length) Slot.unset).toArray = ls at hl ⊢
  have hl : lv_has ls 2 [(0, .ref (α B)), (1, .ref (α C))] := hl
  refine lv_aload_n hx hb d_Endpoint_ask_0 rfl (lv_at hl 1 rfl) ?_
  refine lv_iconst (v := 1) hx hb d_Endpoint_ask_1 (by decide) ?_
  refine sp_pi_Channel (x := (1 : Int32)) (ty := .int) hx hb ht hown hK hP iC 2 (by decide) (ht _ xw195) (fun _ h_ => h_) hD hS rfl (by decide +kernel) rfl rfl hf_Channel_2 d_Endpoint_ask_2 (fun H locs hP hS => ?_)
  refine lv_aload_n hx hb d_Endpoint_ask_5 rfl (lv_at hl 1 rfl) ?_
  refine lv_bipush (v := 24) hx hb d_Endpoint_ask_6 (by decide) ?_
  refine sp_pi_Channel (x := (24 : Int32)) (ty := .int) hx hb ht hown hK hP iC 5 (by decide) (ht _ xw201) (fun _ h_ => h_) hD hS rfl (by decide +kernel) rfl rfl hf_Channel_5 d_Endpoint_ask_8 (fun H locs hP hS => ?_)
  refine lv_aload_n hx hb d_Endpoint_ask_11 rfl (lv_at hl 0 rfl) ?_
  refine lv_bipush (v := 90) hx hb d_Endpoint_ask_12 (by decide) ?_
  refine lv_aload_n hx hb d_Endpoint_ask_14 rfl (lv_at hl 1 rfl) ?_
  refine sp_g_Channel (v := .int (σ.1 C 0)) hx hb ht hown hK hP iC 0 (by decide) (ht _ xw192) (fun _ h_ => h_) (congrArg (fun z_ => some (Value.int z_)) (((xb_i_nj (by decide))).trans ((xb_i_nj (by decide))))) d_Endpoint_ask_15 ?_
  refine lv_i2l (v := (σ.1 C 0).toInt64) hx hb d_Endpoint_ask_18 (by rfl) ?_
  refine lv_ldc2 hx hb hown (ht _ xw787) d_Endpoint_ask_19 ?_
  refine lv_lconst (v := 0) hx hb d_Endpoint_ask_22 (by decide) ?_
  refine lv_lconst (v := 0) hx hb d_Endpoint_ask_23 (by decide) ?_
  refine sp_cv (sp_runE (n := 5) (As := [.int (90 : Int32), .long ((σ.1 C 0).toInt64), .long (24 : Int64), .long (0 : Int64), .long (0 : Int64)]) (rest := []) ⟨hx, hb, hml, hown, hts⟩ (c_Endpoint_send l D α κ hα (xb_si (xb_si σ C 2 (1 : Int32)) C 5 (24 : Int32)) B (90 : Int32) ((σ.1 C 0).toInt64) (24 : Int64) (0 : Int64) (0 : Int64) iB (ok_si (ok_si ok (by omega) (by omega)) (by omega) (by omega))) iB xw379 xw381 xw382 xw383 xw380 xw3 xw384 rfl rfl rfl (by decide +kernel) ⟨Nat.le_of_ble_eq_true rfl, Nat.le_of_ble_eq_true rfl⟩ hP hK hN rfl rfl hl.1 rfl (lv_room (Nat.le_of_ble_eq_true rfl)) d_Endpoint_ask_24 ⟨Nat.le_of_ble_eq_true rfl, Nat.le_of_ble_eq_true rfl⟩) hS (fun _ h_ => h_) (fun H locs hP hS => ?_)
  obtain ⟨τ1, hτ1⟩ : ∃ t_, t_ = (p_send B (90 : Int32) ((σ.1 C 0).toInt64) (24 : Int64) (0 : Int64) (0 : Int64) (xb_si (xb_si σ C 2 (1 : Int32)) C 5 (24 : Int32))) := ⟨_, rfl⟩
  rw [← hτ1] at hP
  have okτ1 : sp_ok τ1 := by rw [hτ1]; exact (ok_p_send B (90 : Int32) ((σ.1 C 0).toInt64) (24 : Int64) (0 : Int64) (0 : Int64) iB (ok_si (ok_si ok (by omega) (by omega)) (by omega) (by omega)))
  exact W.vret hx hb hr (fun t ht_ hW => ⟨⟨τ1, rfl, (by subst hτ1; exact rfl), by rw [sp_B, ht_]; exact hP⟩, hS.F ht_⟩) hS.2.2 d_Endpoint_ask_27
theorem ok_p_ask {σ : xb_St} (B : Nat) (C : Nat) (iB : sp_isEndpoint B) (iC : sp_isChannel C) (ok : sp_ok σ) : sp_ok (p_ask B C σ) := by
  have hlA := sp_lnA_is iB
  have hlD := sp_lnD_is iB
  have hln := sp_ln_ne iB
  unfold p_ask
  exact (ok_p_send B (90 : Int32) ((σ.1 C 0).toInt64) (24 : Int64) (0 : Int64) (0 : Int64) iB (ok_si (ok_si ok (by omega) (by omega)) (by omega) (by omega)))
abbrev b_Endpoint_makeRoom : ByteArray := prog_4_method_25_code
def y_Endpoint_makeRoom : MethodName := ⟨"SecurePair$Endpoint", "makeRoom", "(LSecurePair$Channel;)V"⟩
abbrev w_Endpoint_makeRoom : List Cond := .code y_Endpoint_makeRoom b_Endpoint_makeRoom 3 none :: xa
theorem d_Endpoint_makeRoom_0 : decode b_Endpoint_makeRoom 0 = .ok (.aload_n 1, 1) := by decide +kernel
theorem d_Endpoint_makeRoom_1 : decode b_Endpoint_makeRoom 1 = .ok (.getfield 269, 3) := by decide +kernel
theorem d_Endpoint_makeRoom_4 : decode b_Endpoint_makeRoom 4 = .ok (.istore_n 2, 1) := by decide +kernel
theorem d_Endpoint_makeRoom_5 : decode b_Endpoint_makeRoom 5 = .ok (.aload_n 0, 1) := by decide +kernel
theorem d_Endpoint_makeRoom_6 : decode b_Endpoint_makeRoom 6 = .ok (.aload_n 1, 1) := by decide +kernel
theorem d_Endpoint_makeRoom_7 : decode b_Endpoint_makeRoom 7 = .ok (.invokevirtual 272, 3) := by decide +kernel
theorem d_Endpoint_makeRoom_10 : decode b_Endpoint_makeRoom 10 = .ok (.ifCond .eq 9, 3) := by decide +kernel
theorem d_Endpoint_makeRoom_13 : decode b_Endpoint_makeRoom 13 = .ok (.iload_n 2, 1) := by decide +kernel
theorem d_Endpoint_makeRoom_14 : decode b_Endpoint_makeRoom 14 = .ok (.bipush 12, 2) := by decide +kernel
theorem d_Endpoint_makeRoom_16 : decode b_Endpoint_makeRoom 16 = .ok (.if_icmp .ge 4, 3) := by decide +kernel
theorem d_Endpoint_makeRoom_19 : decode b_Endpoint_makeRoom 19 = .ok (.return_, 1) := by decide +kernel
theorem d_Endpoint_makeRoom_20 : decode b_Endpoint_makeRoom 20 = .ok (.aload_n 1, 1) := by decide +kernel
theorem d_Endpoint_makeRoom_21 : decode b_Endpoint_makeRoom 21 = .ok (.dup, 1) := by decide +kernel
theorem d_Endpoint_makeRoom_22 : decode b_Endpoint_makeRoom 22 = .ok (.getfield 238, 3) := by decide +kernel
theorem d_Endpoint_makeRoom_25 : decode b_Endpoint_makeRoom 25 = .ok (.iload_n 2, 1) := by decide +kernel
theorem d_Endpoint_makeRoom_26 : decode b_Endpoint_makeRoom 26 = .ok (.iadd, 1) := by decide +kernel
theorem d_Endpoint_makeRoom_27 : decode b_Endpoint_makeRoom 27 = .ok (.putfield 238, 3) := by decide +kernel
theorem d_Endpoint_makeRoom_30 : decode b_Endpoint_makeRoom 30 = .ok (.aload_n 1, 1) := by decide +kernel
theorem d_Endpoint_makeRoom_31 : decode b_Endpoint_makeRoom 31 = .ok (.iconst 0, 1) := by decide +kernel
theorem d_Endpoint_makeRoom_32 : decode b_Endpoint_makeRoom 32 = .ok (.putfield 269, 3) := by decide +kernel
theorem d_Endpoint_makeRoom_35 : decode b_Endpoint_makeRoom 35 = .ok (.aload_n 0, 1) := by decide +kernel
theorem d_Endpoint_makeRoom_36 : decode b_Endpoint_makeRoom 36 = .ok (.bipush 93, 2) := by decide +kernel
theorem d_Endpoint_makeRoom_38 : decode b_Endpoint_makeRoom 38 = .ok (.aload_n 1, 1) := by decide +kernel
theorem d_Endpoint_makeRoom_39 : decode b_Endpoint_makeRoom 39 = .ok (.getfield 252, 3) := by decide +kernel
theorem d_Endpoint_makeRoom_42 : decode b_Endpoint_makeRoom 42 = .ok (.iload_n 2, 1) := by decide +kernel
theorem d_Endpoint_makeRoom_43 : decode b_Endpoint_makeRoom 43 = .ok (.i2l, 1) := by decide +kernel
theorem d_Endpoint_makeRoom_44 : decode b_Endpoint_makeRoom 44 = .ok (.lconst 0, 1) := by decide +kernel
theorem d_Endpoint_makeRoom_45 : decode b_Endpoint_makeRoom 45 = .ok (.lconst 0, 1) := by decide +kernel
theorem d_Endpoint_makeRoom_46 : decode b_Endpoint_makeRoom 46 = .ok (.invokevirtual 90, 3) := by decide +kernel
theorem d_Endpoint_makeRoom_49 : decode b_Endpoint_makeRoom 49 = .ok (.return_, 1) := by decide +kernel
theorem xw206 : (Cond.fieldLink "SecurePair$Endpoint" (269 : Nat) "SecurePair$Channel" "readSinceWindow" "I") ∈ xa := xa_t 206 (by decide +kernel) (by decide +kernel)
theorem xw882 : (Cond.instanceMethod ({ cls := "SecurePair$Endpoint", name := "mayUse", desc := "(LSecurePair$Channel;)Z" } : MethodName)) ∈ xa := xa_t 882 (by decide +kernel) (by decide +kernel)
theorem xw883 : (Cond.sameMethod "SecurePair$Endpoint" "SecurePair$Endpoint" "mayUse" "(LSecurePair$Channel;)Z") ∈ xa := xa_t 883 (by decide +kernel) (by decide +kernel)
theorem xw884 : (Cond.selects "SecurePair$Client" ({ cls := "SecurePair$Endpoint", name := "mayUse", desc := "(LSecurePair$Channel;)Z" } : MethodName) ({ cls := "SecurePair$Endpoint", name := "mayUse", desc := "(LSecurePair$Channel;)Z" } : MethodName)) ∈ xa := xa_t 884 (by decide +kernel) (by decide +kernel)
theorem xw885 : (Cond.selects "SecurePair$Server" ({ cls := "SecurePair$Endpoint", name := "mayUse", desc := "(LSecurePair$Channel;)Z" } : MethodName) ({ cls := "SecurePair$Endpoint", name := "mayUse", desc := "(LSecurePair$Channel;)Z" } : MethodName)) ∈ xa := xa_t 885 (by decide +kernel) (by decide +kernel)
theorem xw886 : (Cond.code ({ cls := "SecurePair$Endpoint", name := "mayUse", desc := "(LSecurePair$Channel;)Z" } : MethodName) prog_4_method_22_code (2 : Nat) (Option.some ClassFile.FieldType.boolean)) ∈ xa := xa_t 886 (by decide +kernel) (by decide +kernel)
theorem xw930 : (Cond.methodLink "SecurePair$Endpoint" (272 : Nat) ({ cls := "SecurePair$Endpoint", name := "mayUse", desc := "(LSecurePair$Channel;)Z" } : MethodName)) ∈ xa := xa_t 930 (by decide +kernel) (by decide +kernel)
def p_makeRoom (B : Nat) (C : Nat) (σ : xb_St) : xb_St := (if (p_mayUse B C σ) = 0 then σ else (if (12 : Int32) ≤ (σ.1 C 8) then (p_send B (93 : Int32) (σ.2 C 3) ((σ.1 C 8).toInt64) (0 : Int64) (0 : Int64) (xb_si (xb_si σ C 5 ((σ.1 C 5) + (σ.1 C 8))) C 8 (0 : Int32))) else σ))
set_option maxHeartbeats 4000000 in
set_option maxRecDepth 100000 in
theorem c_Endpoint_makeRoom (l : Launch) (D : va_G) (α : Nat → Nat) (κ : Nat → ClassId) (hα : xb_inj α 35) (σ : xb_St) (B : Nat) (C : Nat) (iB : sp_isEndpoint B) (iC : sp_isChannel C) (ok : sp_ok σ) : Met l y_Endpoint_makeRoom w_Endpoint_makeRoom ({ frames := 3, cells := 0, slots := 0, locals := 77 }) (va_Pc ([.ref (α B), .ref (α C)]) (sp_Pre D α κ σ)) (va_Qv (fun u : xb_St => u = p_makeRoom B C σ) (sp_B D α κ) (xb_A α 35)) 0 0 (xb_A α 35) := by
  refine Met.ofW (cc := b_Endpoint_makeRoom) (maxL := 3) (ret := none) (by decide) rfl ?_
  intro p e s m args below meth c s₁ B_ hml hv
  obtain ⟨rfl, hP, hK, hN⟩ := hv
  have hx := B_.exec
  have hb := B_.bytes
  have hr := B_.returns
  have hts := atoms_spec (ws := w_Endpoint_makeRoom) B_.pre
  have ht : ∀ w ∈ xa, w.before _ s = true := fun w h => hts w (List.mem_cons_of_mem _ h)
  have hown : s.vm.findClass "SecurePair$Endpoint" = some m.cls := findClass_of_methodNamed B_.named
  have hlocks := B_.notSynchronized
  have hD := sp_D hα κ
  have hS : va_S (xb_A α 35) s.heap s.heap [] := va_S.rf
  have hlA := sp_lnA_is iB
  have hlD := sp_lnD_is iB
  have hln := sp_ln_ne iB
  have hl := lv_entry ([.ref (α B), .ref (α C)]) (n := 3) (Nat.le_of_ble_eq_true rfl)
  rw [lg_entry_eq]
  generalize (lg_sl ([.ref (α B), .ref (α C)]) ++ List.replicate (3 - (lg_sl ([.ref (α B), .ref (α C)])).length) Slot.unset).toArray = ls at hl ⊢
  have hl : lv_has ls 3 [(0, .ref (α B)), (1, .ref (α C))] := hl
  refine lv_aload_n hx hb d_Endpoint_makeRoom_0 rfl (lv_at hl 1 rfl) ?_
  refine sp_g_Channel (v := .int (σ.1 C 8)) hx hb ht hown hK hP iC 8 (by decide) (ht _ xw206) (fun _ h_ => h_) rfl d_Endpoint_makeRoom_1 ?_
  refine lv_istore_n (lv' := [(2, .int (σ.1 C 8)), (0, .ref (α B)), (1, .ref (α C))]) hx hb d_Endpoint_makeRoom_4 rfl hl (by decide) rfl (fun ls hl => ?_)
  refine lv_aload_n hx hb d_Endpoint_makeRoom_5 rfl (lv_at hl 1 rfl) ?_
  refine lv_aload_n hx hb d_Endpoint_makeRoom_6 rfl (lv_at hl 2 rfl) ?_
  refine sp_ci (sp_runE (n := 1) (As := [.ref (α C)]) (rest := []) ⟨hx, hb, hml, hown, hts⟩ (c_Endpoint_mayUse l D α κ hα σ B C iB iC) iB xw930 xw883 xw884 xw885 xw882 xw3 xw886 rfl rfl rfl (by decide +kernel) ⟨Nat.le_of_ble_eq_true rfl, Nat.le_of_ble_eq_true rfl⟩ hP hK hN rfl rfl hl.1 rfl (lv_room (Nat.le_of_ble_eq_true rfl)) d_Endpoint_makeRoom_7 ⟨Nat.le_of_ble_eq_true rfl, Nat.le_of_ble_eq_true rfl⟩) hS (fun _ h_ => h_) (fun H locs hP hS => ?_)
  refine lv_if_eq (tgt := 19) hx hb d_Endpoint_makeRoom_10 (by decide) (fun c1 => ?_) (fun c1 => ?_)
  · skip
    exact W.vret hx hb hr (fun t ht_ hW => ⟨⟨σ, rfl, ((if_pos c1)).symm, by rw [sp_B, ht_]; exact hP⟩, hS.F ht_⟩) hS.2.2 d_Endpoint_makeRoom_19
  · skip
    refine lv_iload_n hx hb d_Endpoint_makeRoom_13 rfl (lv_at hl 0 rfl) ?_
    refine lv_bipush (v := 12) hx hb d_Endpoint_makeRoom_14 (by decide) ?_
    refine lv_icmp_ge (tgt := 20) hx hb d_Endpoint_makeRoom_16 (by decide) (fun c2 => ?_) (fun c2 => ?_)
    · skip
      refine lv_aload_n hx hb d_Endpoint_makeRoom_20 rfl (lv_at hl 2 rfl) ?_
      refine lv_dup hx hb d_Endpoint_makeRoom_21 rfl ?_
      refine sp_g_Channel (v := .int (σ.1 C 5)) hx hb ht hown hK hP iC 5 (by decide) (ht _ xw201) (fun _ h_ => h_) rfl d_Endpoint_makeRoom_22 ?_
      refine lv_iload_n hx hb d_Endpoint_makeRoom_25 rfl (lv_at hl 0 rfl) ?_
      refine lv_iadd hx hb d_Endpoint_makeRoom_26 ?_
      refine sp_pi_Channel (x := ((σ.1 C 5) + (σ.1 C 8))) (ty := .int) hx hb ht hown hK hP iC 5 (by decide) (ht _ xw201) (fun _ h_ => h_) hD hS rfl (by decide +kernel) rfl rfl hf_Channel_5 d_Endpoint_makeRoom_27 (fun H locs hP hS => ?_)
      refine lv_aload_n hx hb d_Endpoint_makeRoom_30 rfl (lv_at hl 2 rfl) ?_
      refine lv_iconst (v := 0) hx hb d_Endpoint_makeRoom_31 (by decide) ?_
      refine sp_pi_Channel (x := (0 : Int32)) (ty := .int) hx hb ht hown hK hP iC 8 (by decide) (ht _ xw206) (fun _ h_ => h_) hD hS rfl (by decide +kernel) rfl rfl hf_Channel_8 d_Endpoint_makeRoom_32 (fun H locs hP hS => ?_)
      refine lv_aload_n hx hb d_Endpoint_makeRoom_35 rfl (lv_at hl 1 rfl) ?_
      refine lv_bipush (v := 93) hx hb d_Endpoint_makeRoom_36 (by decide) ?_
      refine lv_aload_n hx hb d_Endpoint_makeRoom_38 rfl (lv_at hl 2 rfl) ?_
      refine sp_g_Channel (v := .long (σ.2 C 3)) hx hb ht hown hK hP iC 3 (by decide) (ht _ xw197) (fun _ h_ => h_) (congrArg (fun z_ => some (Value.long z_)) ((xb_l_i).trans (xb_l_i))) d_Endpoint_makeRoom_39 ?_
      refine lv_iload_n hx hb d_Endpoint_makeRoom_42 rfl (lv_at hl 0 rfl) ?_
      refine lv_i2l (v := (σ.1 C 8).toInt64) hx hb d_Endpoint_makeRoom_43 (by rfl) ?_
      refine lv_lconst (v := 0) hx hb d_Endpoint_makeRoom_44 (by decide) ?_
      refine lv_lconst (v := 0) hx hb d_Endpoint_makeRoom_45 (by decide) ?_
      refine sp_cv (sp_runE (n := 5) (As := [.int (93 : Int32), .long (σ.2 C 3), .long ((σ.1 C 8).toInt64), .long (0 : Int64), .long (0 : Int64)]) (rest := []) ⟨hx, hb, hml, hown, hts⟩ (c_Endpoint_send l D α κ hα (xb_si (xb_si σ C 5 ((σ.1 C 5) + (σ.1 C 8))) C 8 (0 : Int32)) B (93 : Int32) (σ.2 C 3) ((σ.1 C 8).toInt64) (0 : Int64) (0 : Int64) iB (ok_si (ok_si ok (by omega) (by omega)) (by omega) (by omega))) iB xw379 xw381 xw382 xw383 xw380 xw3 xw384 rfl rfl rfl (by decide +kernel) ⟨Nat.le_of_ble_eq_true rfl, Nat.le_of_ble_eq_true rfl⟩ hP hK hN rfl rfl hl.1 rfl (lv_room (Nat.le_of_ble_eq_true rfl)) d_Endpoint_makeRoom_46 ⟨Nat.le_of_ble_eq_true rfl, Nat.le_of_ble_eq_true rfl⟩) hS (fun _ h_ => h_) (fun H locs hP hS => ?_)
      obtain ⟨τ1, hτ1⟩ : ∃ t_, t_ = (p_send B (93 : Int32) (σ.2 C 3) ((σ.1 C 8).toInt64) (0 : Int64) (0 : Int64) (xb_si (xb_si σ C 5 ((σ.1 C 5) + (σ.1 C 8))) C 8 (0 : Int32))) := ⟨_, rfl⟩
      rw [← hτ1] at hP
      have okτ1 : sp_ok τ1 := by rw [hτ1]; exact (ok_p_send B (93 : Int32) (σ.2 C 3) ((σ.1 C 8).toInt64) (0 : Int64) (0 : Int64) iB (ok_si (ok_si ok (by omega) (by omega)) (by omega) (by omega)))
      exact W.vret hx hb hr (fun t ht_ hW => ⟨⟨τ1, rfl, (by subst hτ1; exact ((if_neg c1).trans ((if_pos c2))).symm), by rw [sp_B, ht_]; exact hP⟩, hS.F ht_⟩) hS.2.2 d_Endpoint_makeRoom_49
    · skip
      exact W.vret hx hb hr (fun t ht_ hW => ⟨⟨σ, rfl, ((if_neg c1).trans ((if_neg c2))).symm, by rw [sp_B, ht_]; exact hP⟩, hS.F ht_⟩) hS.2.2 d_Endpoint_makeRoom_19
theorem ok_p_makeRoom {σ : xb_St} (B : Nat) (C : Nat) (iB : sp_isEndpoint B) (iC : sp_isChannel C) (ok : sp_ok σ) : sp_ok (p_makeRoom B C σ) := by
  have hlA := sp_lnA_is iB
  have hlD := sp_lnD_is iB
  have hln := sp_ln_ne iB
  unfold p_makeRoom
  by_cases c1 : (p_mayUse B C σ) = 0
  · rw [if_pos c1]
    exact ok
  · rw [if_neg c1]
    by_cases c2 : (12 : Int32) ≤ (σ.1 C 8)
    · rw [if_pos c2]
      exact (ok_p_send B (93 : Int32) (σ.2 C 3) ((σ.1 C 8).toInt64) (0 : Int64) (0 : Int64) iB (ok_si (ok_si ok (by omega) (by omega)) (by omega) (by omega)))
    · rw [if_neg c2]
      exact ok
abbrev b_Endpoint_shut : ByteArray := prog_4_method_26_code
def y_Endpoint_shut : MethodName := ⟨"SecurePair$Endpoint", "shut", "(LSecurePair$Channel;)I"⟩
abbrev w_Endpoint_shut : List Cond := .code y_Endpoint_shut b_Endpoint_shut 3 (some .int) :: xa
theorem d_Endpoint_shut_0 : decode b_Endpoint_shut 0 = .ok (.aload_n 1, 1) := by decide +kernel
theorem d_Endpoint_shut_1 : decode b_Endpoint_shut 1 = .ok (.getfield 276, 3) := by decide +kernel
theorem d_Endpoint_shut_4 : decode b_Endpoint_shut 4 = .ok (.istore_n 2, 1) := by decide +kernel
theorem d_Endpoint_shut_5 : decode b_Endpoint_shut 5 = .ok (.aload_n 1, 1) := by decide +kernel
theorem d_Endpoint_shut_6 : decode b_Endpoint_shut 6 = .ok (.invokevirtual 279, 3) := by decide +kernel
theorem d_Endpoint_shut_9 : decode b_Endpoint_shut 9 = .ok (.aload_n 1, 1) := by decide +kernel
theorem d_Endpoint_shut_10 : decode b_Endpoint_shut 10 = .ok (.iconst 3, 1) := by decide +kernel
theorem d_Endpoint_shut_11 : decode b_Endpoint_shut 11 = .ok (.putfield 249, 3) := by decide +kernel
theorem d_Endpoint_shut_14 : decode b_Endpoint_shut 14 = .ok (.aload_n 0, 1) := by decide +kernel
theorem d_Endpoint_shut_15 : decode b_Endpoint_shut 15 = .ok (.bipush 97, 2) := by decide +kernel
theorem d_Endpoint_shut_17 : decode b_Endpoint_shut 17 = .ok (.aload_n 1, 1) := by decide +kernel
theorem d_Endpoint_shut_18 : decode b_Endpoint_shut 18 = .ok (.getfield 252, 3) := by decide +kernel
theorem d_Endpoint_shut_21 : decode b_Endpoint_shut 21 = .ok (.lconst 0, 1) := by decide +kernel
theorem d_Endpoint_shut_22 : decode b_Endpoint_shut 22 = .ok (.lconst 0, 1) := by decide +kernel
theorem d_Endpoint_shut_23 : decode b_Endpoint_shut 23 = .ok (.lconst 0, 1) := by decide +kernel
theorem d_Endpoint_shut_24 : decode b_Endpoint_shut 24 = .ok (.invokevirtual 90, 3) := by decide +kernel
theorem d_Endpoint_shut_27 : decode b_Endpoint_shut 27 = .ok (.iload_n 2, 1) := by decide +kernel
theorem d_Endpoint_shut_28 : decode b_Endpoint_shut 28 = .ok (.ireturn, 1) := by decide +kernel
theorem xw204 : (Cond.fieldLink "SecurePair$Endpoint" (276 : Nat) "SecurePair$Channel" "held" "I") ∈ xa := xa_t 204 (by decide +kernel) (by decide +kernel)
theorem xw944 : (Cond.methodLink "SecurePair$Endpoint" (279 : Nat) ({ cls := "SecurePair$Channel", name := "empty", desc := "()V" } : MethodName)) ∈ xa := xa_t 944 (by decide +kernel) (by decide +kernel)
def p_shut (B : Nat) (C : Nat) (σ : xb_St) : Int32 × xb_St := ((σ.1 C 7), (p_send B (97 : Int32) ((p_Ch_empty C σ).2 C 3) (0 : Int64) (0 : Int64) (0 : Int64) (xb_si (p_Ch_empty C σ) C 2 (3 : Int32))))
set_option maxHeartbeats 4000000 in
set_option maxRecDepth 100000 in
theorem c_Endpoint_shut (l : Launch) (D : va_G) (α : Nat → Nat) (κ : Nat → ClassId) (hα : xb_inj α 35) (σ : xb_St) (B : Nat) (C : Nat) (iB : sp_isEndpoint B) (iC : sp_isChannel C) (ok : sp_ok σ) : Met l y_Endpoint_shut w_Endpoint_shut ({ frames := 3, cells := 0, slots := 0, locals := 77 }) (va_Pc ([.ref (α B), .ref (α C)]) (sp_Pre D α κ σ)) (va_Qi (fun r (u : xb_St) => r = (p_shut B C σ).1 ∧ u = (p_shut B C σ).2) (sp_B D α κ) (xb_A α 35)) 0 0 (xb_A α 35) := by
  refine Met.ofW (cc := b_Endpoint_shut) (maxL := 3) (ret := (some .int)) (by decide) rfl ?_
  intro p e s m args below meth c s₁ B_ hml hv
  obtain ⟨rfl, hP, hK, hN⟩ := hv
  have hx := B_.exec
  have hb := B_.bytes
  have hr := B_.returns
  have hts := atoms_spec (ws := w_Endpoint_shut) B_.pre
  have ht : ∀ w ∈ xa, w.before _ s = true := fun w h => hts w (List.mem_cons_of_mem _ h)
  have hown : s.vm.findClass "SecurePair$Endpoint" = some m.cls := findClass_of_methodNamed B_.named
  have hlocks := B_.notSynchronized
  have hD := sp_D hα κ
  have hS : va_S (xb_A α 35) s.heap s.heap [] := va_S.rf
  have hlA := sp_lnA_is iB
  have hlD := sp_lnD_is iB
  have hln := sp_ln_ne iB
  have hl := lv_entry ([.ref (α B), .ref (α C)]) (n := 3) (Nat.le_of_ble_eq_true rfl)
  rw [lg_entry_eq]
  generalize (lg_sl ([.ref (α B), .ref (α C)]) ++ List.replicate (3 - (lg_sl ([.ref (α B), .ref (α C)])).length) Slot.unset).toArray = ls at hl ⊢
  have hl : lv_has ls 3 [(0, .ref (α B)), (1, .ref (α C))] := hl
  refine lv_aload_n hx hb d_Endpoint_shut_0 rfl (lv_at hl 1 rfl) ?_
  refine sp_g_Channel (v := .int (σ.1 C 7)) hx hb ht hown hK hP iC 7 (by decide) (ht _ xw204) (fun _ h_ => h_) rfl d_Endpoint_shut_1 ?_
  refine lv_istore_n (lv' := [(2, .int (σ.1 C 7)), (0, .ref (α B)), (1, .ref (α C))]) hx hb d_Endpoint_shut_4 rfl hl (by decide) rfl (fun ls hl => ?_)
  refine lv_aload_n hx hb d_Endpoint_shut_5 rfl (lv_at hl 2 rfl) ?_
  refine sp_cv (va_runV (As := []) (rest := []) ⟨hx, hb, hml, hown, hts⟩ (c_Channel_empty l D α κ hα σ C iC) (cwV 0 hts (xa_V xw944 xw803 xw804 xw9 xw805) rfl rfl rfl (by decide +kernel) ⟨Nat.le_of_ble_eq_true rfl, Nat.le_of_ble_eq_true rfl⟩) ⟨sp_blind, va_recv hK hP rfl (sp_at_Channel iC), sp_pre hP hK hN _⟩ rfl rfl hl.1 rfl (lv_room (Nat.le_of_ble_eq_true rfl)) d_Endpoint_shut_6 ⟨Nat.le_of_ble_eq_true rfl, Nat.le_of_ble_eq_true rfl⟩) hS (fun _ h_ => h_) (fun H locs hP hS => ?_)
  obtain ⟨τ1, hτ1⟩ : ∃ t_, t_ = (p_Ch_empty C σ) := ⟨_, rfl⟩
  rw [← hτ1] at hP
  have okτ1 : sp_ok τ1 := by rw [hτ1]; exact (ok_p_Ch_empty C iC ok)
  refine lv_aload_n hx hb d_Endpoint_shut_9 rfl (lv_at hl 2 rfl) ?_
  refine lv_iconst (v := 3) hx hb d_Endpoint_shut_10 (by decide) ?_
  refine sp_pi_Channel (x := (3 : Int32)) (ty := .int) hx hb ht hown hK hP iC 2 (by decide) (ht _ xw195) (fun _ h_ => h_) hD hS rfl (by decide +kernel) rfl rfl hf_Channel_2 d_Endpoint_shut_11 (fun H locs hP hS => ?_)
  refine lv_aload_n hx hb d_Endpoint_shut_14 rfl (lv_at hl 1 rfl) ?_
  refine lv_bipush (v := 97) hx hb d_Endpoint_shut_15 (by decide) ?_
  refine lv_aload_n hx hb d_Endpoint_shut_17 rfl (lv_at hl 2 rfl) ?_
  refine sp_g_Channel (v := .long (τ1.2 C 3)) hx hb ht hown hK hP iC 3 (by decide) (ht _ xw197) (fun _ h_ => h_) (congrArg (fun z_ => some (Value.long z_)) (xb_l_i)) d_Endpoint_shut_18 ?_
  refine lv_lconst (v := 0) hx hb d_Endpoint_shut_21 (by decide) ?_
  refine lv_lconst (v := 0) hx hb d_Endpoint_shut_22 (by decide) ?_
  refine lv_lconst (v := 0) hx hb d_Endpoint_shut_23 (by decide) ?_
  refine sp_cv (sp_runE (n := 5) (As := [.int (97 : Int32), .long (τ1.2 C 3), .long (0 : Int64), .long (0 : Int64), .long (0 : Int64)]) (rest := []) ⟨hx, hb, hml, hown, hts⟩ (c_Endpoint_send l D α κ hα (xb_si τ1 C 2 (3 : Int32)) B (97 : Int32) (τ1.2 C 3) (0 : Int64) (0 : Int64) (0 : Int64) iB (ok_si okτ1 (by omega) (by omega))) iB xw379 xw381 xw382 xw383 xw380 xw3 xw384 rfl rfl rfl (by decide +kernel) ⟨Nat.le_of_ble_eq_true rfl, Nat.le_of_ble_eq_true rfl⟩ hP hK hN rfl rfl hl.1 rfl (lv_room (Nat.le_of_ble_eq_true rfl)) d_Endpoint_shut_24 ⟨Nat.le_of_ble_eq_true rfl, Nat.le_of_ble_eq_true rfl⟩) hS (fun _ h_ => h_) (fun H locs hP hS => ?_)
  obtain ⟨τ2, hτ2⟩ : ∃ t_, t_ = (p_send B (97 : Int32) (τ1.2 C 3) (0 : Int64) (0 : Int64) (0 : Int64) (xb_si τ1 C 2 (3 : Int32))) := ⟨_, rfl⟩
  rw [← hτ2] at hP
  have okτ2 : sp_ok τ2 := by rw [hτ2]; exact (ok_p_send B (97 : Int32) (τ1.2 C 3) (0 : Int64) (0 : Int64) (0 : Int64) iB (ok_si okτ1 (by omega) (by omega)))
  refine lv_iload_n hx hb d_Endpoint_shut_27 rfl (lv_at hl 0 rfl) ?_
  exact W.iret (v := (σ.1 C 7)) hx hb hr (fun t ht_ hW => ⟨⟨(σ.1 C 7), τ2, rfl, ⟨congrArg Prod.fst (((by subst hτ2; subst hτ1; exact rfl)) : ((σ.1 C 7), τ2) = p_shut B C σ), congrArg Prod.snd (((by subst hτ2; subst hτ1; exact rfl)) : ((σ.1 C 7), τ2) = p_shut B C σ)⟩, by rw [sp_B, ht_]; exact hP⟩, hS.F ht_⟩) hS.2.2 d_Endpoint_shut_28
theorem ok_p_shut {σ : xb_St} (B : Nat) (C : Nat) (iB : sp_isEndpoint B) (iC : sp_isChannel C) (ok : sp_ok σ) : sp_ok (p_shut B C σ).2 := by
  have hlA := sp_lnA_is iB
  have hlD := sp_lnD_is iB
  have hln := sp_ln_ne iB
  unfold p_shut
  exact (ok_p_send B (97 : Int32) ((p_Ch_empty C σ).2 C 3) (0 : Int64) (0 : Int64) (0 : Int64) iB (ok_si (ok_p_Ch_empty C iC ok) (by omega) (by omega)))
abbrev b_Endpoint_sendBytes : ByteArray := prog_4_method_24_code
def y_Endpoint_sendBytes : MethodName := ⟨"SecurePair$Endpoint", "sendBytes", "(LSecurePair$Channel;JI)I"⟩
abbrev w_Endpoint_sendBytes : List Cond := .code y_Endpoint_sendBytes b_Endpoint_sendBytes 8 (some .int) :: xa
theorem d_Endpoint_sendBytes_0 : decode b_Endpoint_sendBytes 0 = .ok (.aload_n 1, 1) := by decide +kernel
theorem d_Endpoint_sendBytes_1 : decode b_Endpoint_sendBytes 1 = .ok (.getfield 260, 3) := by decide +kernel
theorem d_Endpoint_sendBytes_4 : decode b_Endpoint_sendBytes 4 = .ok (.lconst 1, 1) := by decide +kernel
theorem d_Endpoint_sendBytes_5 : decode b_Endpoint_sendBytes 5 = .ok (.lcmp, 1) := by decide +kernel
theorem d_Endpoint_sendBytes_6 : decode b_Endpoint_sendBytes 6 = .ok (.ifCond .ge 5, 3) := by decide +kernel
theorem d_Endpoint_sendBytes_9 : decode b_Endpoint_sendBytes 9 = .ok (.iconst 0, 1) := by decide +kernel
theorem d_Endpoint_sendBytes_10 : decode b_Endpoint_sendBytes 10 = .ok (.ireturn, 1) := by decide +kernel
theorem d_Endpoint_sendBytes_11 : decode b_Endpoint_sendBytes 11 = .ok (.iload 4, 2) := by decide +kernel
theorem d_Endpoint_sendBytes_13 : decode b_Endpoint_sendBytes 13 = .ok (.i2l, 1) := by decide +kernel
theorem d_Endpoint_sendBytes_14 : decode b_Endpoint_sendBytes 14 = .ok (.aload_n 1, 1) := by decide +kernel
theorem d_Endpoint_sendBytes_15 : decode b_Endpoint_sendBytes 15 = .ok (.getfield 260, 3) := by decide +kernel
theorem d_Endpoint_sendBytes_18 : decode b_Endpoint_sendBytes 18 = .ok (.invokestatic 263, 3) := by decide +kernel
theorem d_Endpoint_sendBytes_21 : decode b_Endpoint_sendBytes 21 = .ok (.l2i, 1) := by decide +kernel
theorem d_Endpoint_sendBytes_22 : decode b_Endpoint_sendBytes 22 = .ok (.istore 5, 2) := by decide +kernel
theorem d_Endpoint_sendBytes_24 : decode b_Endpoint_sendBytes 24 = .ok (.lload_n 2, 1) := by decide +kernel
theorem d_Endpoint_sendBytes_25 : decode b_Endpoint_sendBytes 25 = .ok (.bipush 8, 2) := by decide +kernel
theorem d_Endpoint_sendBytes_27 : decode b_Endpoint_sendBytes 27 = .ok (.bipush 8, 2) := by decide +kernel
theorem d_Endpoint_sendBytes_29 : decode b_Endpoint_sendBytes 29 = .ok (.iload 4, 2) := by decide +kernel
theorem d_Endpoint_sendBytes_31 : decode b_Endpoint_sendBytes 31 = .ok (.isub, 1) := by decide +kernel
theorem d_Endpoint_sendBytes_32 : decode b_Endpoint_sendBytes 32 = .ok (.imul, 1) := by decide +kernel
theorem d_Endpoint_sendBytes_33 : decode b_Endpoint_sendBytes 33 = .ok (.lshl, 1) := by decide +kernel
theorem d_Endpoint_sendBytes_34 : decode b_Endpoint_sendBytes 34 = .ok (.bipush 8, 2) := by decide +kernel
theorem d_Endpoint_sendBytes_36 : decode b_Endpoint_sendBytes 36 = .ok (.bipush 8, 2) := by decide +kernel
theorem d_Endpoint_sendBytes_38 : decode b_Endpoint_sendBytes 38 = .ok (.iload 5, 2) := by decide +kernel
theorem d_Endpoint_sendBytes_40 : decode b_Endpoint_sendBytes 40 = .ok (.isub, 1) := by decide +kernel
theorem d_Endpoint_sendBytes_41 : decode b_Endpoint_sendBytes 41 = .ok (.imul, 1) := by decide +kernel
theorem d_Endpoint_sendBytes_42 : decode b_Endpoint_sendBytes 42 = .ok (.lushr, 1) := by decide +kernel
theorem d_Endpoint_sendBytes_43 : decode b_Endpoint_sendBytes 43 = .ok (.lstore 6, 2) := by decide +kernel
theorem d_Endpoint_sendBytes_45 : decode b_Endpoint_sendBytes 45 = .ok (.aload_n 1, 1) := by decide +kernel
theorem d_Endpoint_sendBytes_46 : decode b_Endpoint_sendBytes 46 = .ok (.dup, 1) := by decide +kernel
theorem d_Endpoint_sendBytes_47 : decode b_Endpoint_sendBytes 47 = .ok (.getfield 260, 3) := by decide +kernel
theorem d_Endpoint_sendBytes_50 : decode b_Endpoint_sendBytes 50 = .ok (.iload 5, 2) := by decide +kernel
theorem d_Endpoint_sendBytes_52 : decode b_Endpoint_sendBytes 52 = .ok (.i2l, 1) := by decide +kernel
theorem d_Endpoint_sendBytes_53 : decode b_Endpoint_sendBytes 53 = .ok (.lsub, 1) := by decide +kernel
theorem d_Endpoint_sendBytes_54 : decode b_Endpoint_sendBytes 54 = .ok (.putfield 260, 3) := by decide +kernel
theorem d_Endpoint_sendBytes_57 : decode b_Endpoint_sendBytes 57 = .ok (.aload_n 0, 1) := by decide +kernel
theorem d_Endpoint_sendBytes_58 : decode b_Endpoint_sendBytes 58 = .ok (.bipush 94, 2) := by decide +kernel
theorem d_Endpoint_sendBytes_60 : decode b_Endpoint_sendBytes 60 = .ok (.aload_n 1, 1) := by decide +kernel
theorem d_Endpoint_sendBytes_61 : decode b_Endpoint_sendBytes 61 = .ok (.getfield 252, 3) := by decide +kernel
theorem d_Endpoint_sendBytes_64 : decode b_Endpoint_sendBytes 64 = .ok (.iload 5, 2) := by decide +kernel
theorem d_Endpoint_sendBytes_66 : decode b_Endpoint_sendBytes 66 = .ok (.i2l, 1) := by decide +kernel
theorem d_Endpoint_sendBytes_67 : decode b_Endpoint_sendBytes 67 = .ok (.lload 6, 2) := by decide +kernel
theorem d_Endpoint_sendBytes_69 : decode b_Endpoint_sendBytes 69 = .ok (.lconst 0, 1) := by decide +kernel
theorem d_Endpoint_sendBytes_70 : decode b_Endpoint_sendBytes 70 = .ok (.invokevirtual 90, 3) := by decide +kernel
theorem d_Endpoint_sendBytes_73 : decode b_Endpoint_sendBytes 73 = .ok (.iload 5, 2) := by decide +kernel
theorem d_Endpoint_sendBytes_75 : decode b_Endpoint_sendBytes 75 = .ok (.ireturn, 1) := by decide +kernel
theorem xw20 : (Cond.initialized "java/lang/Math") ∈ xa := xa_t 20 (by decide +kernel) (by decide +kernel)
theorem xw199 : (Cond.fieldLink "SecurePair$Endpoint" (260 : Nat) "SecurePair$Channel" "window" "J") ∈ xa := xa_t 199 (by decide +kernel) (by decide +kernel)
theorem xw910 : (Cond.methodLink "SecurePair$Endpoint" (263 : Nat) ({ cls := "java/lang/Math", name := "min", desc := "(JJ)J" } : MethodName)) ∈ xa := xa_t 910 (by decide +kernel) (by decide +kernel)
theorem xw911 : (Cond.static ({ cls := "java/lang/Math", name := "min", desc := "(JJ)J" } : MethodName)) ∈ xa := xa_t 911 (by decide +kernel) (by decide +kernel)
theorem xw912 : (Cond.code ({ cls := "java/lang/Math", name := "min", desc := "(JJ)J" } : MethodName) prog_17_method_70_code (4 : Nat) (Option.some ClassFile.FieldType.long)) ∈ xa := xa_t 912 (by decide +kernel) (by decide +kernel)
def p_sendBytes (B : Nat) (C : Nat) (x2 : Int64) (x3 : Int32) (σ : xb_St) : Int32 × xb_St := (if (1 : Int64) ≤ (σ.2 C 4) then ((if (σ.2 C 4) < x3.toInt64 then (σ.2 C 4) else x3.toInt64).toInt32, (p_send B (94 : Int32) (σ.2 C 3) (((if (σ.2 C 4) < x3.toInt64 then (σ.2 C 4) else x3.toInt64).toInt32).toInt64) (xb_lushr (xb_lshl x2 ((8 : Int32) * ((8 : Int32) - x3))) ((8 : Int32) * ((8 : Int32) - (if (σ.2 C 4) < x3.toInt64 then (σ.2 C 4) else x3.toInt64).toInt32))) (0 : Int64) (xb_sl σ C 4 ((σ.2 C 4) - ((if (σ.2 C 4) < x3.toInt64 then (σ.2 C 4) else x3.toInt64).toInt32).toInt64)))) else ((0 : Int32), σ))
set_option maxHeartbeats 4000000 in
set_option maxRecDepth 100000 in
theorem c_Endpoint_sendBytes (l : Launch) (D : va_G) (α : Nat → Nat) (κ : Nat → ClassId) (hα : xb_inj α 35) (σ : xb_St) (B : Nat) (C : Nat) (x2 : Int64) (x3 : Int32) (iB : sp_isEndpoint B) (iC : sp_isChannel C) (ok : sp_ok σ) : Met l y_Endpoint_sendBytes w_Endpoint_sendBytes ({ frames := 3, cells := 0, slots := 0, locals := 77 }) (va_Pc ([.ref (α B), .ref (α C), .long x2, .int x3]) (sp_Pre D α κ σ)) (va_Qi (fun r (u : xb_St) => r = (p_sendBytes B C x2 x3 σ).1 ∧ u = (p_sendBytes B C x2 x3 σ).2) (sp_B D α κ) (xb_A α 35)) 0 0 (xb_A α 35) := by
  refine Met.ofW (cc := b_Endpoint_sendBytes) (maxL := 8) (ret := (some .int)) (by decide) rfl ?_
  intro p e s m args below meth c s₁ B_ hml hv
  obtain ⟨rfl, hP, hK, hN⟩ := hv
  have hx := B_.exec
  have hb := B_.bytes
  have hr := B_.returns
  have hts := atoms_spec (ws := w_Endpoint_sendBytes) B_.pre
  have ht : ∀ w ∈ xa, w.before _ s = true := fun w h => hts w (List.mem_cons_of_mem _ h)
  have hown : s.vm.findClass "SecurePair$Endpoint" = some m.cls := findClass_of_methodNamed B_.named
  have hlocks := B_.notSynchronized
  have hD := sp_D hα κ
  have hS : va_S (xb_A α 35) s.heap s.heap [] := va_S.rf
  have hlA := sp_lnA_is iB
  have hlD := sp_lnD_is iB
  have hln := sp_ln_ne iB
  have hl := lv_entry ([.ref (α B), .ref (α C), .long x2, .int x3]) (n := 8) (Nat.le_of_ble_eq_true rfl)
  rw [lg_entry_eq]
  generalize (lg_sl ([.ref (α B), .ref (α C), .long x2, .int x3]) ++ List.replicate (8 - (lg_sl ([.ref (α B), .ref (α C), .long x2, .int x3])).length) Slot.unset).toArray = ls at hl ⊢
  have hl : lv_has ls 8 [(0, .ref (α B)), (1, .ref (α C)), (2, .long x2), (4, .int x3)] := hl
  refine lv_aload_n hx hb d_Endpoint_sendBytes_0 rfl (lv_at hl 1 rfl) ?_
  refine sp_g_Channel (v := .long (σ.2 C 4)) hx hb ht hown hK hP iC 4 (by decide) (ht _ xw199) (fun _ h_ => h_) rfl d_Endpoint_sendBytes_1 ?_
  refine lv_lconst (v := 1) hx hb d_Endpoint_sendBytes_4 (by decide) ?_
  refine xb_lge (tgt := 11) hx hb d_Endpoint_sendBytes_5 d_Endpoint_sendBytes_6 (by decide) (fun c1 => ?_) (fun c1 => ?_)
  · skip
    refine lv_iload hx hb d_Endpoint_sendBytes_11 (lv_at hl 3 rfl) ?_
    refine lv_i2l (v := x3.toInt64) hx hb d_Endpoint_sendBytes_13 (by rfl) ?_
    refine lv_aload_n hx hb d_Endpoint_sendBytes_14 rfl (lv_at hl 1 rfl) ?_
    refine sp_g_Channel (v := .long (σ.2 C 4)) hx hb ht hown hK hP iC 4 (by decide) (ht _ xw199) (fun _ h_ => h_) rfl d_Endpoint_sendBytes_15 ?_
    refine va_mmin_long hx hb (hml.trans hl.1.symm) hown (ht _ xw910) (ht _ xw911) (ht _ xw20) (ht _ xw912) (Nat.le_of_ble_eq_true rfl) (Nat.le_of_ble_eq_true rfl) (Nat.le_of_ble_eq_true rfl) (Nat.le_of_ble_eq_true rfl) d_Endpoint_sendBytes_18 ?_
    refine lv_l2i (v := (if (σ.2 C 4) < x3.toInt64 then (σ.2 C 4) else x3.toInt64).toInt32) hx hb d_Endpoint_sendBytes_21 (by rfl) ?_
    refine lv_istore (lv' := [(5, .int ((if (σ.2 C 4) < x3.toInt64 then (σ.2 C 4) else x3.toInt64).toInt32)), (0, .ref (α B)), (1, .ref (α C)), (2, .long x2), (4, .int x3)]) hx hb d_Endpoint_sendBytes_22 hl (by decide) rfl (fun ls hl => ?_)
    refine lv_lload_n hx hb d_Endpoint_sendBytes_24 rfl (lv_at hl 3 rfl) ?_
    refine lv_bipush (v := 8) hx hb d_Endpoint_sendBytes_25 (by decide) ?_
    refine lv_bipush (v := 8) hx hb d_Endpoint_sendBytes_27 (by decide) ?_
    refine lv_iload hx hb d_Endpoint_sendBytes_29 (lv_at hl 4 rfl) ?_
    refine lv_isub hx hb d_Endpoint_sendBytes_31 ?_
    refine lv_imul hx hb d_Endpoint_sendBytes_32 ?_
    refine lv_lshl (v := (xb_lshl x2 ((8 : Int32) * ((8 : Int32) - x3)))) hx hb d_Endpoint_sendBytes_33 rfl ?_
    refine lv_bipush (v := 8) hx hb d_Endpoint_sendBytes_34 (by decide) ?_
    refine lv_bipush (v := 8) hx hb d_Endpoint_sendBytes_36 (by decide) ?_
    refine lv_iload hx hb d_Endpoint_sendBytes_38 (lv_at hl 0 rfl) ?_
    refine lv_isub hx hb d_Endpoint_sendBytes_40 ?_
    refine lv_imul hx hb d_Endpoint_sendBytes_41 ?_
    refine lv_lushr (v := (xb_lushr (xb_lshl x2 ((8 : Int32) * ((8 : Int32) - x3))) ((8 : Int32) * ((8 : Int32) - (if (σ.2 C 4) < x3.toInt64 then (σ.2 C 4) else x3.toInt64).toInt32)))) hx hb d_Endpoint_sendBytes_42 rfl ?_
    refine lv_lstore (lv' := [(6, .long (xb_lushr (xb_lshl x2 ((8 : Int32) * ((8 : Int32) - x3))) ((8 : Int32) * ((8 : Int32) - (if (σ.2 C 4) < x3.toInt64 then (σ.2 C 4) else x3.toInt64).toInt32)))), (5, .int ((if (σ.2 C 4) < x3.toInt64 then (σ.2 C 4) else x3.toInt64).toInt32)), (0, .ref (α B)), (1, .ref (α C)), (2, .long x2), (4, .int x3)]) hx hb d_Endpoint_sendBytes_43 hl (by decide) rfl (fun ls hl => ?_)
    refine lv_aload_n hx hb d_Endpoint_sendBytes_45 rfl (lv_at hl 3 rfl) ?_
    refine lv_dup hx hb d_Endpoint_sendBytes_46 rfl ?_
    refine sp_g_Channel (v := .long (σ.2 C 4)) hx hb ht hown hK hP iC 4 (by decide) (ht _ xw199) (fun _ h_ => h_) rfl d_Endpoint_sendBytes_47 ?_
    refine lv_iload hx hb d_Endpoint_sendBytes_50 (lv_at hl 1 rfl) ?_
    refine lv_i2l (v := ((if (σ.2 C 4) < x3.toInt64 then (σ.2 C 4) else x3.toInt64).toInt32).toInt64) hx hb d_Endpoint_sendBytes_52 (by rfl) ?_
    refine lv_lsub hx hb d_Endpoint_sendBytes_53 ?_
    refine sp_pl_Channel (x := ((σ.2 C 4) - ((if (σ.2 C 4) < x3.toInt64 then (σ.2 C 4) else x3.toInt64).toInt32).toInt64)) (ty := .long) hx hb ht hown hK hP iC 4 (by decide) (ht _ xw199) (fun _ h_ => h_) hD hS rfl (by decide +kernel) rfl rfl hf_Channel_4 d_Endpoint_sendBytes_54 (fun H locs hP hS => ?_)
    refine lv_aload_n hx hb d_Endpoint_sendBytes_57 rfl (lv_at hl 2 rfl) ?_
    refine lv_bipush (v := 94) hx hb d_Endpoint_sendBytes_58 (by decide) ?_
    refine lv_aload_n hx hb d_Endpoint_sendBytes_60 rfl (lv_at hl 3 rfl) ?_
    refine sp_g_Channel (v := .long (σ.2 C 3)) hx hb ht hown hK hP iC 3 (by decide) (ht _ xw197) (fun _ h_ => h_) (congrArg (fun z_ => some (Value.long z_)) ((xb_l_nj (by decide)))) d_Endpoint_sendBytes_61 ?_
    refine lv_iload hx hb d_Endpoint_sendBytes_64 (lv_at hl 1 rfl) ?_
    refine lv_i2l (v := ((if (σ.2 C 4) < x3.toInt64 then (σ.2 C 4) else x3.toInt64).toInt32).toInt64) hx hb d_Endpoint_sendBytes_66 (by rfl) ?_
    refine lv_lload hx hb d_Endpoint_sendBytes_67 (lv_at hl 0 rfl) ?_
    refine lv_lconst (v := 0) hx hb d_Endpoint_sendBytes_69 (by decide) ?_
    refine sp_cv (sp_runE (n := 5) (As := [.int (94 : Int32), .long (σ.2 C 3), .long (((if (σ.2 C 4) < x3.toInt64 then (σ.2 C 4) else x3.toInt64).toInt32).toInt64), .long (xb_lushr (xb_lshl x2 ((8 : Int32) * ((8 : Int32) - x3))) ((8 : Int32) * ((8 : Int32) - (if (σ.2 C 4) < x3.toInt64 then (σ.2 C 4) else x3.toInt64).toInt32))), .long (0 : Int64)]) (rest := []) ⟨hx, hb, hml, hown, hts⟩ (c_Endpoint_send l D α κ hα (xb_sl σ C 4 ((σ.2 C 4) - ((if (σ.2 C 4) < x3.toInt64 then (σ.2 C 4) else x3.toInt64).toInt32).toInt64)) B (94 : Int32) (σ.2 C 3) (((if (σ.2 C 4) < x3.toInt64 then (σ.2 C 4) else x3.toInt64).toInt32).toInt64) (xb_lushr (xb_lshl x2 ((8 : Int32) * ((8 : Int32) - x3))) ((8 : Int32) * ((8 : Int32) - (if (σ.2 C 4) < x3.toInt64 then (σ.2 C 4) else x3.toInt64).toInt32))) (0 : Int64) iB (ok_sl ok)) iB xw379 xw381 xw382 xw383 xw380 xw3 xw384 rfl rfl rfl (by decide +kernel) ⟨Nat.le_of_ble_eq_true rfl, Nat.le_of_ble_eq_true rfl⟩ hP hK hN rfl rfl hl.1 rfl (lv_room (Nat.le_of_ble_eq_true rfl)) d_Endpoint_sendBytes_70 ⟨Nat.le_of_ble_eq_true rfl, Nat.le_of_ble_eq_true rfl⟩) hS (fun _ h_ => h_) (fun H locs hP hS => ?_)
    obtain ⟨τ1, hτ1⟩ : ∃ t_, t_ = (p_send B (94 : Int32) (σ.2 C 3) (((if (σ.2 C 4) < x3.toInt64 then (σ.2 C 4) else x3.toInt64).toInt32).toInt64) (xb_lushr (xb_lshl x2 ((8 : Int32) * ((8 : Int32) - x3))) ((8 : Int32) * ((8 : Int32) - (if (σ.2 C 4) < x3.toInt64 then (σ.2 C 4) else x3.toInt64).toInt32))) (0 : Int64) (xb_sl σ C 4 ((σ.2 C 4) - ((if (σ.2 C 4) < x3.toInt64 then (σ.2 C 4) else x3.toInt64).toInt32).toInt64))) := ⟨_, rfl⟩
    rw [← hτ1] at hP
    have okτ1 : sp_ok τ1 := by rw [hτ1]; exact (ok_p_send B (94 : Int32) (σ.2 C 3) (((if (σ.2 C 4) < x3.toInt64 then (σ.2 C 4) else x3.toInt64).toInt32).toInt64) (xb_lushr (xb_lshl x2 ((8 : Int32) * ((8 : Int32) - x3))) ((8 : Int32) * ((8 : Int32) - (if (σ.2 C 4) < x3.toInt64 then (σ.2 C 4) else x3.toInt64).toInt32))) (0 : Int64) iB (ok_sl ok))
    refine lv_iload hx hb d_Endpoint_sendBytes_73 (lv_at hl 1 rfl) ?_
    exact W.iret (v := (if (σ.2 C 4) < x3.toInt64 then (σ.2 C 4) else x3.toInt64).toInt32) hx hb hr (fun t ht_ hW => ⟨⟨(if (σ.2 C 4) < x3.toInt64 then (σ.2 C 4) else x3.toInt64).toInt32, τ1, rfl, ⟨congrArg Prod.fst (((by subst hτ1; exact ((if_pos c1)).symm)) : ((if (σ.2 C 4) < x3.toInt64 then (σ.2 C 4) else x3.toInt64).toInt32, τ1) = p_sendBytes B C x2 x3 σ), congrArg Prod.snd (((by subst hτ1; exact ((if_pos c1)).symm)) : ((if (σ.2 C 4) < x3.toInt64 then (σ.2 C 4) else x3.toInt64).toInt32, τ1) = p_sendBytes B C x2 x3 σ)⟩, by rw [sp_B, ht_]; exact hP⟩, hS.F ht_⟩) hS.2.2 d_Endpoint_sendBytes_75
  · skip
    refine lv_iconst (v := 0) hx hb d_Endpoint_sendBytes_9 (by decide) ?_
    exact W.iret (v := (0 : Int32)) hx hb hr (fun t ht_ hW => ⟨⟨(0 : Int32), σ, rfl, ⟨congrArg Prod.fst ((((if_neg c1)).symm) : ((0 : Int32), σ) = p_sendBytes B C x2 x3 σ), congrArg Prod.snd ((((if_neg c1)).symm) : ((0 : Int32), σ) = p_sendBytes B C x2 x3 σ)⟩, by rw [sp_B, ht_]; exact hP⟩, hS.F ht_⟩) hS.2.2 d_Endpoint_sendBytes_10
theorem ok_p_sendBytes {σ : xb_St} (B : Nat) (C : Nat) (x2 : Int64) (x3 : Int32) (iB : sp_isEndpoint B) (iC : sp_isChannel C) (ok : sp_ok σ) : sp_ok (p_sendBytes B C x2 x3 σ).2 := by
  have hlA := sp_lnA_is iB
  have hlD := sp_lnD_is iB
  have hln := sp_ln_ne iB
  unfold p_sendBytes
  by_cases c1 : (1 : Int64) ≤ (σ.2 C 4)
  · rw [if_pos c1]
    exact (ok_p_send B (94 : Int32) (σ.2 C 3) (((if (σ.2 C 4) < x3.toInt64 then (σ.2 C 4) else x3.toInt64).toInt32).toInt64) (xb_lushr (xb_lshl x2 ((8 : Int32) * ((8 : Int32) - x3))) ((8 : Int32) * ((8 : Int32) - (if (σ.2 C 4) < x3.toInt64 then (σ.2 C 4) else x3.toInt64).toInt32))) (0 : Int64) iB (ok_sl ok))
  · rw [if_neg c1]
    exact ok
abbrev b_Channel_takeByte : ByteArray := prog_2_method_11_code
def y_Channel_takeByte : MethodName := ⟨"SecurePair$Channel", "takeByte", "()I"⟩
abbrev w_Channel_takeByte : List Cond := .code y_Channel_takeByte b_Channel_takeByte 2 (some .int) :: xa
theorem d_Channel_takeByte_0 : decode b_Channel_takeByte 0 = .ok (.aload_n 0, 1) := by decide +kernel
theorem d_Channel_takeByte_1 : decode b_Channel_takeByte 1 = .ok (.getfield 41, 3) := by decide +kernel
theorem d_Channel_takeByte_4 : decode b_Channel_takeByte 4 = .ok (.ifCond .ne 5, 3) := by decide +kernel
theorem d_Channel_takeByte_7 : decode b_Channel_takeByte 7 = .ok (.iconst (-1), 1) := by decide +kernel
theorem d_Channel_takeByte_8 : decode b_Channel_takeByte 8 = .ok (.ireturn, 1) := by decide +kernel
theorem d_Channel_takeByte_9 : decode b_Channel_takeByte 9 = .ok (.aload_n 0, 1) := by decide +kernel
theorem d_Channel_takeByte_10 : decode b_Channel_takeByte 10 = .ok (.getfield 9, 3) := by decide +kernel
theorem d_Channel_takeByte_13 : decode b_Channel_takeByte 13 = .ok (.aload_n 0, 1) := by decide +kernel
theorem d_Channel_takeByte_14 : decode b_Channel_takeByte 14 = .ok (.getfield 38, 3) := by decide +kernel
theorem d_Channel_takeByte_17 : decode b_Channel_takeByte 17 = .ok (.iaload, 1) := by decide +kernel
theorem d_Channel_takeByte_18 : decode b_Channel_takeByte 18 = .ok (.istore_n 1, 1) := by decide +kernel
theorem d_Channel_takeByte_19 : decode b_Channel_takeByte 19 = .ok (.aload_n 0, 1) := by decide +kernel
theorem d_Channel_takeByte_20 : decode b_Channel_takeByte 20 = .ok (.aload_n 0, 1) := by decide +kernel
theorem d_Channel_takeByte_21 : decode b_Channel_takeByte 21 = .ok (.getfield 38, 3) := by decide +kernel
theorem d_Channel_takeByte_24 : decode b_Channel_takeByte 24 = .ok (.iconst 1, 1) := by decide +kernel
theorem d_Channel_takeByte_25 : decode b_Channel_takeByte 25 = .ok (.iadd, 1) := by decide +kernel
theorem d_Channel_takeByte_26 : decode b_Channel_takeByte 26 = .ok (.bipush 24, 2) := by decide +kernel
theorem d_Channel_takeByte_28 : decode b_Channel_takeByte 28 = .ok (.irem, 1) := by decide +kernel
theorem d_Channel_takeByte_29 : decode b_Channel_takeByte 29 = .ok (.putfield 38, 3) := by decide +kernel
theorem d_Channel_takeByte_32 : decode b_Channel_takeByte 32 = .ok (.aload_n 0, 1) := by decide +kernel
theorem d_Channel_takeByte_33 : decode b_Channel_takeByte 33 = .ok (.dup, 1) := by decide +kernel
theorem d_Channel_takeByte_34 : decode b_Channel_takeByte 34 = .ok (.getfield 41, 3) := by decide +kernel
theorem d_Channel_takeByte_37 : decode b_Channel_takeByte 37 = .ok (.iconst 1, 1) := by decide +kernel
theorem d_Channel_takeByte_38 : decode b_Channel_takeByte 38 = .ok (.isub, 1) := by decide +kernel
theorem d_Channel_takeByte_39 : decode b_Channel_takeByte 39 = .ok (.putfield 41, 3) := by decide +kernel
theorem d_Channel_takeByte_42 : decode b_Channel_takeByte 42 = .ok (.aload_n 0, 1) := by decide +kernel
theorem d_Channel_takeByte_43 : decode b_Channel_takeByte 43 = .ok (.dup, 1) := by decide +kernel
theorem d_Channel_takeByte_44 : decode b_Channel_takeByte 44 = .ok (.getfield 32, 3) := by decide +kernel
theorem d_Channel_takeByte_47 : decode b_Channel_takeByte 47 = .ok (.iconst 1, 1) := by decide +kernel
theorem d_Channel_takeByte_48 : decode b_Channel_takeByte 48 = .ok (.iadd, 1) := by decide +kernel
theorem d_Channel_takeByte_49 : decode b_Channel_takeByte 49 = .ok (.putfield 32, 3) := by decide +kernel
theorem d_Channel_takeByte_52 : decode b_Channel_takeByte 52 = .ok (.iload_n 1, 1) := by decide +kernel
theorem d_Channel_takeByte_53 : decode b_Channel_takeByte 53 = .ok (.ireturn, 1) := by decide +kernel
theorem xw193 : (Cond.fieldLink "SecurePair$Channel" (9 : Nat) "SecurePair$Channel" "inbox" "[I") ∈ xa := xa_t 193 (by decide +kernel) (by decide +kernel)
def p_takeByte (C : Nat) (σ : xb_St) : Int32 × xb_St := (if (σ.1 C 7) = 0 then ((-1 : Int32), σ) else ((σ.1 (C + 3) ((σ.1 C 6).toNatClampNeg)), (xb_si (xb_si (xb_si σ C 6 (xb_irem ((σ.1 C 6) + (1 : Int32)) (24 : Int32))) C 7 ((σ.1 C 7) - (1 : Int32))) C 8 ((σ.1 C 8) + (1 : Int32)))))
set_option maxHeartbeats 4000000 in
set_option maxRecDepth 100000 in
theorem c_Channel_takeByte (l : Launch) (D : va_G) (α : Nat → Nat) (κ : Nat → ClassId) (hα : xb_inj α 35) (σ : xb_St) (C : Nat) (iC : sp_isChannel C) (ok : sp_ok σ) : Met l y_Channel_takeByte w_Channel_takeByte ({ frames := 0, cells := 0, slots := 0, locals := 0 }) (va_Pc ([.ref (α C)]) (sp_Pre D α κ σ)) (va_Qi (fun r (u : xb_St) => r = (p_takeByte C σ).1 ∧ u = (p_takeByte C σ).2) (sp_B D α κ) (xb_A α 35)) 0 0 (xb_A α 35) := by
  refine Met.ofW (cc := b_Channel_takeByte) (maxL := 2) (ret := (some .int)) (by decide) rfl ?_
  intro p e s m args below meth c s₁ B_ hml hv
  obtain ⟨rfl, hP, hK, hN⟩ := hv
  have hx := B_.exec
  have hb := B_.bytes
  have hr := B_.returns
  have hts := atoms_spec (ws := w_Channel_takeByte) B_.pre
  have ht : ∀ w ∈ xa, w.before _ s = true := fun w h => hts w (List.mem_cons_of_mem _ h)
  have hown : s.vm.findClass "SecurePair$Channel" = some m.cls := findClass_of_methodNamed B_.named
  have hlocks := B_.notSynchronized
  have hD := sp_D hα κ
  have hS : va_S (xb_A α 35) s.heap s.heap [] := va_S.rf
  have hl := lv_entry ([.ref (α C)]) (n := 2) (Nat.le_of_ble_eq_true rfl)
  rw [lg_entry_eq]
  generalize (lg_sl ([.ref (α C)]) ++ List.replicate (2 - (lg_sl ([.ref (α C)])).length) Slot.unset).toArray = ls at hl ⊢
  have hl : lv_has ls 2 [(0, .ref (α C))] := hl
  obtain ⟨⟨n0, hn0, en0⟩, n1, hn1, en1⟩ := ok.2 C iC
  have hz := xb_nb en0 (by omega)
  have hz0 : (σ.1 C 6).toNatClampNeg < 24 := by rw [hz.2]; exact hn0
  have hy := xb_nb en1 (by omega)
  have hy0 : (σ.1 C 7).toNatClampNeg ≤ 24 := by rw [hy.2]; exact hn1
  refine lv_aload_n hx hb d_Channel_takeByte_0 rfl (lv_at hl 0 rfl) ?_
  refine sp_g_Channel (v := .int (σ.1 C 7)) hx hb ht hown hK hP iC 7 (by decide) (ht _ xw203) (fun _ h_ => h_) rfl d_Channel_takeByte_1 ?_
  refine lv_if_ne (tgt := 9) hx hb d_Channel_takeByte_4 (by decide) (fun c1 => ?_) (fun c1 => ?_)
  · skip
    have nc1 := mt (xb_eqN hy.1 (xb_lit (x := (0 : Int32)) 0 rfl) (by omega) (by omega)).mpr c1
    refine lv_aload_n hx hb d_Channel_takeByte_9 rfl (lv_at hl 0 rfl) ?_
    refine sp_g_Channel (v := .ref (α (C + 3))) hx hb ht hown hK hP iC 1 (by decide) (ht _ xw193) (fun _ h_ => h_) rfl d_Channel_takeByte_10 ?_
    refine lv_aload_n hx hb d_Channel_takeByte_13 rfl (lv_at hl 0 rfl) ?_
    refine sp_g_Channel (v := .int (σ.1 C 6)) hx hb ht hown hK hP iC 6 (by decide) (ht _ xw202) (fun _ h_ => h_) rfl d_Channel_takeByte_14 ?_
    refine sp_ga_inbox (n := (σ.1 C 6).toNatClampNeg) (v := (σ.1 (C + 3) ((σ.1 C 6).toNatClampNeg))) hx hb hK hP (by omega) (xb_in hz.1 (by omega) (by decide)) (xb_cl hz.1 (by omega)) rfl d_Channel_takeByte_17 ?_
    refine lv_istore_n (lv' := [(1, .int (σ.1 (C + 3) ((σ.1 C 6).toNatClampNeg))), (0, .ref (α C))]) hx hb d_Channel_takeByte_18 rfl hl (by decide) rfl (fun ls hl => ?_)
    refine lv_aload_n hx hb d_Channel_takeByte_19 rfl (lv_at hl 1 rfl) ?_
    refine lv_aload_n hx hb d_Channel_takeByte_20 rfl (lv_at hl 1 rfl) ?_
    refine sp_g_Channel (v := .int (σ.1 C 6)) hx hb ht hown hK hP iC 6 (by decide) (ht _ xw202) (fun _ h_ => h_) rfl d_Channel_takeByte_21 ?_
    refine lv_iconst (v := 1) hx hb d_Channel_takeByte_24 (by decide) ?_
    refine lv_iadd hx hb d_Channel_takeByte_25 ?_
    refine lv_bipush (v := 24) hx hb d_Channel_takeByte_26 (by decide) ?_
    refine lv_irem hx hb d_Channel_takeByte_28 (by decide) ?_
    refine sp_pi_Channel (x := (xb_irem ((σ.1 C 6) + (1 : Int32)) (24 : Int32))) (ty := .int) hx hb ht hown hK hP iC 6 (by decide) (ht _ xw202) (fun _ h_ => h_) hD hS rfl (by decide +kernel) rfl rfl hf_Channel_6 d_Channel_takeByte_29 (fun H locs hP hS => ?_)
    refine lv_aload_n hx hb d_Channel_takeByte_32 rfl (lv_at hl 1 rfl) ?_
    refine lv_dup hx hb d_Channel_takeByte_33 rfl ?_
    refine sp_g_Channel (v := .int (σ.1 C 7)) hx hb ht hown hK hP iC 7 (by decide) (ht _ xw203) (fun _ h_ => h_) (congrArg (fun z_ => some (Value.int z_)) ((xb_i_nj (by decide)))) d_Channel_takeByte_34 ?_
    refine lv_iconst (v := 1) hx hb d_Channel_takeByte_37 (by decide) ?_
    refine lv_isub hx hb d_Channel_takeByte_38 ?_
    refine sp_pi_Channel (x := ((σ.1 C 7) - (1 : Int32))) (ty := .int) hx hb ht hown hK hP iC 7 (by decide) (ht _ xw203) (fun _ h_ => h_) hD hS rfl (by decide +kernel) rfl rfl hf_Channel_7 d_Channel_takeByte_39 (fun H locs hP hS => ?_)
    refine lv_aload_n hx hb d_Channel_takeByte_42 rfl (lv_at hl 1 rfl) ?_
    refine lv_dup hx hb d_Channel_takeByte_43 rfl ?_
    refine sp_g_Channel (v := .int (σ.1 C 8)) hx hb ht hown hK hP iC 8 (by decide) (ht _ xw205) (fun _ h_ => h_) (congrArg (fun z_ => some (Value.int z_)) (((xb_i_nj (by decide))).trans ((xb_i_nj (by decide))))) d_Channel_takeByte_44 ?_
    refine lv_iconst (v := 1) hx hb d_Channel_takeByte_47 (by decide) ?_
    refine lv_iadd hx hb d_Channel_takeByte_48 ?_
    refine sp_pi_Channel (x := ((σ.1 C 8) + (1 : Int32))) (ty := .int) hx hb ht hown hK hP iC 8 (by decide) (ht _ xw205) (fun _ h_ => h_) hD hS rfl (by decide +kernel) rfl rfl hf_Channel_8 d_Channel_takeByte_49 (fun H locs hP hS => ?_)
    refine lv_iload_n hx hb d_Channel_takeByte_52 rfl (lv_at hl 0 rfl) ?_
    exact W.iret (v := (σ.1 (C + 3) ((σ.1 C 6).toNatClampNeg))) hx hb hr (fun t ht_ hW => ⟨⟨(σ.1 (C + 3) ((σ.1 C 6).toNatClampNeg)), (xb_si (xb_si (xb_si σ C 6 (xb_irem ((σ.1 C 6) + (1 : Int32)) (24 : Int32))) C 7 ((σ.1 C 7) - (1 : Int32))) C 8 ((σ.1 C 8) + (1 : Int32))), rfl, ⟨congrArg Prod.fst ((((if_neg c1)).symm) : ((σ.1 (C + 3) ((σ.1 C 6).toNatClampNeg)), (xb_si (xb_si (xb_si σ C 6 (xb_irem ((σ.1 C 6) + (1 : Int32)) (24 : Int32))) C 7 ((σ.1 C 7) - (1 : Int32))) C 8 ((σ.1 C 8) + (1 : Int32)))) = p_takeByte C σ), congrArg Prod.snd ((((if_neg c1)).symm) : ((σ.1 (C + 3) ((σ.1 C 6).toNatClampNeg)), (xb_si (xb_si (xb_si σ C 6 (xb_irem ((σ.1 C 6) + (1 : Int32)) (24 : Int32))) C 7 ((σ.1 C 7) - (1 : Int32))) C 8 ((σ.1 C 8) + (1 : Int32)))) = p_takeByte C σ)⟩, by rw [sp_B, ht_]; exact hP⟩, hS.F ht_⟩) hS.2.2 d_Channel_takeByte_53
  · skip
    have nc1 := (xb_eqN hy.1 (xb_lit (x := (0 : Int32)) 0 rfl) (by omega) (by omega)).mp c1
    refine lv_iconst (v := -1) hx hb d_Channel_takeByte_7 (by decide) ?_
    exact W.iret (v := (-1 : Int32)) hx hb hr (fun t ht_ hW => ⟨⟨(-1 : Int32), σ, rfl, ⟨congrArg Prod.fst ((((if_pos c1)).symm) : ((-1 : Int32), σ) = p_takeByte C σ), congrArg Prod.snd ((((if_pos c1)).symm) : ((-1 : Int32), σ) = p_takeByte C σ)⟩, by rw [sp_B, ht_]; exact hP⟩, hS.F ht_⟩) hS.2.2 d_Channel_takeByte_8
theorem ok_p_takeByte {σ : xb_St} (C : Nat) (iC : sp_isChannel C) (ok : sp_ok σ) : sp_ok (p_takeByte C σ).2 := by
  obtain ⟨⟨n0, hn0, en0⟩, n1, hn1, en1⟩ := ok.2 C iC
  unfold p_takeByte
  split
  · exact ok
  · rename_i h
    have h : ¬ n1 = 0 := mt (xb_eqN en1 (xb_lit (x := (0 : Int32)) 0 rfl) (by omega) (by decide)).mpr h
    exact ok_si (ok_held (ok_first ok iC ⟨(n0 + 1) % 24, by omega, xb_nr (xb_na en0 (xb_lit (x := (1 : Int32)) 1 rfl)) (xb_lit (x := (24 : Int32)) 24 rfl) (by omega) (by decide) (by decide)⟩) iC ⟨n1 - 1, by omega, xb_ns en1 (xb_lit (x := (1 : Int32)) 1 rfl) (by omega)⟩) (by omega) (by omega)
