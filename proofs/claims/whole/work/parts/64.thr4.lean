abbrev b_P_open : ByteArray := prog_1_method_8_code
def y_P_open : MethodName := ⟨"SecurePair", "open", "(I)I"⟩
abbrev w_P_open : List Cond := .code y_P_open b_P_open 4 (some .int) :: xa
theorem d_P_open_0 : decode b_P_open 0 = .ok (.aload_n 0, 1) := by decide +kernel
theorem d_P_open_1 : decode b_P_open 1 = .ok (.iload_n 1, 1) := by decide +kernel
theorem d_P_open_2 : decode b_P_open 2 = .ok (.invokevirtual 64, 3) := by decide +kernel
theorem d_P_open_5 : decode b_P_open 5 = .ok (.astore_n 2, 1) := by decide +kernel
theorem d_P_open_6 : decode b_P_open 6 = .ok (.aload_n 2, 1) := by decide +kernel
theorem d_P_open_7 : decode b_P_open 7 = .ok (.getfield 91, 3) := by decide +kernel
theorem d_P_open_10 : decode b_P_open 10 = .ok (.iconst 4, 1) := by decide +kernel
theorem d_P_open_11 : decode b_P_open 11 = .ok (.if_icmp .eq 13, 3) := by decide +kernel
theorem d_P_open_14 : decode b_P_open 14 = .ok (.new 71, 3) := by decide +kernel
theorem d_P_open_17 : decode b_P_open 17 = .ok (.dup, 1) := by decide +kernel
theorem d_P_open_18 : decode b_P_open 18 = .ok (.ldc 101, 2) := by decide +kernel
theorem d_P_open_20 : decode b_P_open 20 = .ok (.invokespecial 75, 3) := by decide +kernel
theorem d_P_open_23 : decode b_P_open 23 = .ok (.athrow, 1) := by decide +kernel
theorem d_P_open_24 : decode b_P_open 24 = .ok (.aload_n 2, 1) := by decide +kernel
theorem d_P_open_25 : decode b_P_open 25 = .ok (.invokevirtual 103, 3) := by decide +kernel
theorem d_P_open_28 : decode b_P_open 28 = .ok (.astore_n 3, 1) := by decide +kernel
theorem d_P_open_29 : decode b_P_open 29 = .ok (.aload_n 3, 1) := by decide +kernel
theorem d_P_open_30 : decode b_P_open 30 = .ok (.ifnonnull 13, 3) := by decide +kernel
theorem d_P_open_33 : decode b_P_open 33 = .ok (.new 107, 3) := by decide +kernel
theorem d_P_open_36 : decode b_P_open 36 = .ok (.dup, 1) := by decide +kernel
theorem d_P_open_37 : decode b_P_open 37 = .ok (.ldc 109, 2) := by decide +kernel
theorem d_P_open_39 : decode b_P_open 39 = .ok (.invokespecial 111, 3) := by decide +kernel
theorem d_P_open_42 : decode b_P_open 42 = .ok (.athrow, 1) := by decide +kernel
theorem d_P_open_43 : decode b_P_open 43 = .ok (.aload_n 2, 1) := by decide +kernel
theorem d_P_open_44 : decode b_P_open 44 = .ok (.aload_n 3, 1) := by decide +kernel
theorem d_P_open_45 : decode b_P_open 45 = .ok (.invokevirtual 112, 3) := by decide +kernel
theorem d_P_open_48 : decode b_P_open 48 = .ok (.aload_n 3, 1) := by decide +kernel
theorem d_P_open_49 : decode b_P_open 49 = .ok (.getfield 116, 3) := by decide +kernel
theorem d_P_open_52 : decode b_P_open 52 = .ok (.ireturn, 1) := by decide +kernel
theorem xw18 : (Cond.initialized "java/lang/UnsupportedOperationException") ∈ xa := xa_t 18 (by decide +kernel) (by decide +kernel)
theorem xw191 : (Cond.fieldLink "SecurePair" (116 : Nat) "SecurePair$Channel" "index" "I") ∈ xa := xa_t 191 (by decide +kernel) (by decide +kernel)
theorem xw843 : (Cond.methodLink "SecurePair" (103 : Nat) ({ cls := "SecurePair$Endpoint", name := "leastFree", desc := "()LSecurePair$Channel;" } : MethodName)) ∈ xa := xa_t 843 (by decide +kernel) (by decide +kernel)
theorem xw844 : (Cond.classLink "SecurePair" (107 : Nat) "java/lang/UnsupportedOperationException") ∈ xa := xa_t 844 (by decide +kernel) (by decide +kernel)
theorem xw860 : (Cond.methodLink "SecurePair" (112 : Nat) ({ cls := "SecurePair$Endpoint", name := "ask", desc := "(LSecurePair$Channel;)V" } : MethodName)) ∈ xa := xa_t 860 (by decide +kernel) (by decide +kernel)
theorem xw861 : (Cond.instanceMethod ({ cls := "SecurePair$Endpoint", name := "ask", desc := "(LSecurePair$Channel;)V" } : MethodName)) ∈ xa := xa_t 861 (by decide +kernel) (by decide +kernel)
theorem xw862 : (Cond.sameMethod "SecurePair$Endpoint" "SecurePair$Endpoint" "ask" "(LSecurePair$Channel;)V") ∈ xa := xa_t 862 (by decide +kernel) (by decide +kernel)
theorem xw863 : (Cond.selects "SecurePair$Client" ({ cls := "SecurePair$Endpoint", name := "ask", desc := "(LSecurePair$Channel;)V" } : MethodName) ({ cls := "SecurePair$Endpoint", name := "ask", desc := "(LSecurePair$Channel;)V" } : MethodName)) ∈ xa := xa_t 863 (by decide +kernel) (by decide +kernel)
theorem xw864 : (Cond.selects "SecurePair$Server" ({ cls := "SecurePair$Endpoint", name := "ask", desc := "(LSecurePair$Channel;)V" } : MethodName) ({ cls := "SecurePair$Endpoint", name := "ask", desc := "(LSecurePair$Channel;)V" } : MethodName)) ∈ xa := xa_t 864 (by decide +kernel) (by decide +kernel)
theorem xw865 : (Cond.code ({ cls := "SecurePair$Endpoint", name := "ask", desc := "(LSecurePair$Channel;)V" } : MethodName) prog_4_method_23_code (2 : Nat) (Option.none : Option ClassFile.FieldType)) ∈ xa := xa_t 865 (by decide +kernel) (by decide +kernel)
def th_P_open (Z : Nat) (x1 : Int32) (σ : xb_St) : Nat := (if (th_P_endpointOrThrow Z x1 σ) = 0 then (xb_om (p_eot Z x1 σ) 0 (fun K1 => (if (σ.1 K1 9) = (4 : Int32) then (xb_om (p_leastFree K1 σ) 3 (fun K3 => 0)) else 2))) else (th_P_endpointOrThrow Z x1 σ))
def p_open (Z : Nat) (x1 : Int32) (σ : xb_St) : Int32 × xb_St := (xb_om (p_eot Z x1 σ) (0, σ) (fun K1 => (if (σ.1 K1 9) = (4 : Int32) then (xb_om (p_leastFree K1 σ) (0, σ) (fun K3 => (((p_ask K1 K3 σ).1 K3 0), (p_ask K1 K3 σ)))) else (0, σ))))
set_option maxHeartbeats 4000000 in
set_option maxRecDepth 100000 in
theorem c_P_open (l : Launch) (D : va_G) (α : Nat → Nat) (κ : Nat → ClassId) (hα : xb_inj α 35) (σ : xb_St) (Z : Nat) (x1 : Int32) (iZ : sp_isP Z) (ok : sp_ok σ) (hnt : th_P_open Z x1 σ = 0) : Met l y_P_open w_P_open ({ frames := 4, cells := 0, slots := 0, locals := 98 }) (va_Pc ([.ref (α Z), .int x1]) (sp_Pre D α κ σ)) (va_Qi (fun r (u : xb_St) => r = (p_open Z x1 σ).1 ∧ u = (p_open Z x1 σ).2) (sp_B D α κ) (xb_A α 35)) 0 0 (xb_A α 35) := by
  unfold th_P_open at hnt
  refine Met.ofW (cc := b_P_open) (maxL := 4) (ret := (some .int)) (by decide) rfl ?_
  intro p e s m args below meth c s₁ B_ hml hv
  obtain ⟨rfl, hP, hK, hN⟩ := hv
  have hx := B_.exec
  have hb := B_.bytes
  have hr := B_.returns
  have hts := atoms_spec (ws := w_P_open) B_.pre
  have ht : ∀ w ∈ xa, w.before _ s = true := fun w h => hts w (List.mem_cons_of_mem _ h)
  have hown : s.vm.findClass "SecurePair" = some m.cls := findClass_of_methodNamed B_.named
  have hlocks := B_.notSynchronized
  have hD := sp_D hα κ
  have hS : va_S (xb_A α 35) s.heap s.heap [] := va_S.rf
  have hl := lv_entry ([.ref (α Z), .int x1]) (n := 4) (Nat.le_of_ble_eq_true rfl)
  rw [lg_entry_eq]
  generalize (lg_sl ([.ref (α Z), .int x1]) ++ List.replicate (4 - (lg_sl ([.ref (α Z), .int x1])).length) Slot.unset).toArray = ls at hl ⊢
  have hl : lv_has ls 4 [(0, .ref (α Z)), (1, .int x1)] := hl
  refine lv_aload_n hx hb d_P_open_0 rfl (lv_at hl 0 rfl) ?_
  refine lv_iload_n hx hb d_P_open_1 rfl (lv_at hl 1 rfl) ?_
  have hq1 := xb_th0 hnt
  rw [if_pos hq1] at hnt
  refine xn_cq (va_runV (As := [.int x1]) (rest := []) ⟨hx, hb, hml, hown, hts⟩ (n_P_endpointOrThrow l D α κ hα σ Z x1 iZ hq1) (cwV 1 hts (xa_V xw509 xw511 xs2 xw1 xw512) rfl rfl rfl (by decide +kernel) ⟨Nat.le_of_ble_eq_true rfl, Nat.le_of_ble_eq_true rfl⟩) ⟨sp_blind, va_recv hK hP rfl (sp_at_P iZ), sp_pre hP hK hN _⟩ rfl rfl hl.1 rfl (lv_room (Nat.le_of_ble_eq_true rfl)) d_P_open_2 ⟨Nat.le_of_ble_eq_true rfl, Nat.le_of_ble_eq_true rfl⟩) hS (fun H locs hP hS => ?_)
  rcases c1 : (p_eot Z x1 σ) with _ | K1
  · exact absurd c1 (p_eot_nn hq1)
  · skip
    have iK1 := p_eot_is iZ c1; have hlAK1 := sp_lnA_is iK1; have hlDK1 := sp_lnD_is iK1; have hlnK1 := sp_ln_ne iK1
    rw [xb_om_some c1] at hnt
    refine lv_astore_n (lv' := [(2, .ref (α K1)), (0, .ref (α Z)), (1, .int x1)]) hx hb d_P_open_5 rfl hl (by decide) rfl (fun ls hl => ?_)
    refine lv_aload_n hx hb d_P_open_6 rfl (lv_at hl 0 rfl) ?_
    refine sp_g_Endpoint (v := .int (σ.1 K1 9)) hx hb ht hown hK hP iK1 9 (by decide) (ht _ xw250) (fun _ h_ => h_) rfl d_P_open_7 ?_
    refine lv_iconst (v := 4) hx hb d_P_open_10 (by decide) ?_
    refine lv_icmp_eq (tgt := 24) hx hb d_P_open_11 (by decide) (fun c2 => ?_) (fun c2 => ?_)
    · skip
      rw [if_pos c2] at hnt
      refine lv_aload_n hx hb d_P_open_24 rfl (lv_at hl 0 rfl) ?_
      refine sp_cq (sp_runE (n := 0) (As := []) (rest := []) ⟨hx, hb, hml, hown, hts⟩ (c_Endpoint_leastFree l D α κ hα σ K1 iK1) iK1 xw843 xw779 xw780 xw781 xw778 xw3 xw782 rfl rfl rfl (by decide +kernel) ⟨Nat.le_of_ble_eq_true rfl, Nat.le_of_ble_eq_true rfl⟩ hP hK hN rfl rfl hl.1 rfl (lv_room (Nat.le_of_ble_eq_true rfl)) d_P_open_25 ⟨Nat.le_of_ble_eq_true rfl, Nat.le_of_ble_eq_true rfl⟩) hS (fun _ h_ => h_) (fun H locs hP hS => ?_)
      rcases c3 : (p_leastFree K1 σ) with _ | K3
      · skip
        rw [xb_om_none c3] at hnt
        refine lv_astore_nN (lv' := [(3, .null), (2, .ref (α K1)), (0, .ref (α Z)), (1, .int x1)]) hx hb d_P_open_28 rfl hl (by decide) rfl (fun ls hl => ?_)
        refine lv_aload_nN hx hb d_P_open_29 rfl (lv_at hl 0 rfl) ?_
        refine lv_ifnonnullN hx hb d_P_open_30 ?_
        exact absurd hnt (by decide)
      · skip
        have iK3 := p_leastFree_is iK1 c3
        rw [xb_om_some c3] at hnt
        refine lv_astore_n (lv' := [(3, .ref (α K3)), (2, .ref (α K1)), (0, .ref (α Z)), (1, .int x1)]) hx hb d_P_open_28 rfl hl (by decide) rfl (fun ls hl => ?_)
        refine lv_aload_n hx hb d_P_open_29 rfl (lv_at hl 0 rfl) ?_
        refine lv_ifnonnull (tgt := 43) hx hb d_P_open_30 (by decide) ?_
        refine lv_aload_n hx hb d_P_open_43 rfl (lv_at hl 1 rfl) ?_
        refine lv_aload_n hx hb d_P_open_44 rfl (lv_at hl 0 rfl) ?_
        refine sp_cv (sp_runE (n := 1) (As := [.ref (α K3)]) (rest := []) ⟨hx, hb, hml, hown, hts⟩ (c_Endpoint_ask l D α κ hα σ K1 K3 iK1 iK3 ok) iK1 xw860 xw862 xw863 xw864 xw861 xw3 xw865 rfl rfl rfl (by decide +kernel) ⟨Nat.le_of_ble_eq_true rfl, Nat.le_of_ble_eq_true rfl⟩ hP hK hN rfl rfl hl.1 rfl (lv_room (Nat.le_of_ble_eq_true rfl)) d_P_open_45 ⟨Nat.le_of_ble_eq_true rfl, Nat.le_of_ble_eq_true rfl⟩) hS (fun _ h_ => h_) (fun H locs hP hS => ?_)
        obtain ⟨τ1, hτ1⟩ : ∃ t_, t_ = (p_ask K1 K3 σ) := ⟨_, rfl⟩
        rw [← hτ1] at hP
        have okτ1 : sp_ok τ1 := by rw [hτ1]; exact (ok_p_ask K1 K3 iK1 iK3 ok)
        refine lv_aload_n hx hb d_P_open_48 rfl (lv_at hl 0 rfl) ?_
        refine sp_g_Channel (v := .int (τ1.1 K3 0)) hx hb ht hown hK hP iK3 0 (by decide) (ht _ xw191) (fun _ h_ => h_) rfl d_P_open_49 ?_
        exact W.iret (v := (τ1.1 K3 0)) hx hb hr (fun t ht_ hW => ⟨⟨(τ1.1 K3 0), τ1, rfl, ⟨congrArg Prod.fst (((by subst hτ1; exact (by unfold p_open; rw [xb_om_some c1, if_pos c2, xb_om_some c3]))) : ((τ1.1 K3 0), τ1) = p_open Z x1 σ), congrArg Prod.snd (((by subst hτ1; exact (by unfold p_open; rw [xb_om_some c1, if_pos c2, xb_om_some c3]))) : ((τ1.1 K3 0), τ1) = p_open Z x1 σ)⟩, by rw [sp_B, ht_]; exact hP⟩, hS.F ht_⟩) hS.2.2 d_P_open_52
    · skip
      rw [if_neg c2] at hnt
      exact absurd hnt (by decide)
theorem ok_p_open {σ : xb_St} (Z : Nat) (x1 : Int32) (iZ : sp_isP Z) (ok : sp_ok σ) (hnt : th_P_open Z x1 σ = 0) : sp_ok (p_open Z x1 σ).2 := by
  unfold th_P_open at hnt
  unfold p_open
  have hq1 := xb_th0 hnt
  rw [if_pos hq1] at hnt
  rcases c1 : (p_eot Z x1 σ) with _ | K1
  · exact absurd c1 (p_eot_nn hq1)
  · dsimp only [xb_om]
    have iK1 := p_eot_is iZ c1; have hlAK1 := sp_lnA_is iK1; have hlDK1 := sp_lnD_is iK1; have hlnK1 := sp_ln_ne iK1
    rw [xb_om_some c1] at hnt
    by_cases c2 : (σ.1 K1 9) = (4 : Int32)
    · rw [if_pos c2]
      rw [if_pos c2] at hnt
      rcases c3 : (p_leastFree K1 σ) with _ | K3
      · dsimp only [xb_om]
        rw [xb_om_none c3] at hnt
        exact absurd hnt (by decide)
      · dsimp only [xb_om]
        have iK3 := p_leastFree_is iK1 c3
        rw [xb_om_some c3] at hnt
        exact (ok_p_ask K1 K3 iK1 iK3 ok)
    · rw [if_neg c2]
      rw [if_neg c2] at hnt
      exact absurd hnt (by decide)
set_option maxHeartbeats 4000000 in
set_option maxRecDepth 100000 in
theorem t_P_open_1 (l : Launch) (D : va_G) (α : Nat → Nat) (κ : Nat → ClassId) (hα : xb_inj α 35) (htr : l.stackTraces = false) (σ : xb_St) (Z : Nat) (x1 : Int32) (iZ : sp_isP Z) (hnt : th_P_open Z x1 σ = 1) : xt_Met l y_P_open w_P_open ({ frames := 7, cells := 1, slots := 6, locals := 112 }) (va_Pc ([.ref (α Z), .int x1]) (st_Pre D α κ σ)) "java/lang/IndexOutOfBoundsException" 1 6 := by
  unfold th_P_open at hnt
  refine xt_ofW (cc := b_P_open) (maxL := 4) (ret := (some .int)) (by decide) rfl ?_
  intro p e s m args below meth c s₁ B_ hml hte hv
  obtain ⟨rfl, ⟨hP, hK, hN⟩, hG⟩ := hv
  have hx := B_.exec
  have hb := B_.bytes
  have hr := B_.returns
  have hts := atoms_spec (ws := w_P_open) B_.pre
  have ht : ∀ w ∈ xa, w.before _ s = true := fun w h => hts w (List.mem_cons_of_mem _ h)
  have hown : s.vm.findClass "SecurePair" = some m.cls := findClass_of_methodNamed B_.named
  have hlocks := B_.notSynchronized
  have hD := sp_D hα κ
  have hS : va_S (fun _ => False) s.heap s.heap [] := va_S.rf
  have hl := lv_entry ([.ref (α Z), .int x1]) (n := 4) (Nat.le_of_ble_eq_true rfl)
  rw [lg_entry_eq]
  generalize (lg_sl ([.ref (α Z), .int x1]) ++ List.replicate (4 - (lg_sl ([.ref (α Z), .int x1])).length) Slot.unset).toArray = ls at hl ⊢
  have hl : lv_has ls 4 [(0, .ref (α Z)), (1, .int x1)] := hl
  refine lv_aload_n hx hb d_P_open_0 rfl (lv_at hl 0 rfl) ?_
  refine lv_iload_n hx hb d_P_open_1 rfl (lv_at hl 1 rfl) ?_
  by_cases hq1 : (th_P_endpointOrThrow Z x1 σ) = 0
  · skip
    rw [if_pos hq1] at hnt
    refine xn_cq (va_runV (As := [.int x1]) (rest := []) ⟨hx, hb, hml, hown, hts⟩ (n_P_endpointOrThrow l D α κ hα σ Z x1 iZ hq1) (cwV 1 hts (xa_V xw509 xw511 xs2 xw1 xw512) rfl rfl rfl (by decide +kernel) ⟨Nat.le_of_ble_eq_true rfl, Nat.le_of_ble_eq_true rfl⟩) ⟨sp_blind, va_recv hK hP rfl (sp_at_P iZ), sp_pre hP hK hN _⟩ rfl rfl hl.1 rfl (lv_room (Nat.le_of_ble_eq_true rfl)) d_P_open_2 ⟨Nat.le_of_ble_eq_true rfl, Nat.le_of_ble_eq_true rfl⟩) hS (fun H locs hP hS => ?_)
    obtain rfl := xn_nil hS
    rcases c1 : (p_eot Z x1 σ) with _ | K1
    · exact absurd c1 (p_eot_nn hq1)
    · skip
      have iK1 := p_eot_is iZ c1; have hlAK1 := sp_lnA_is iK1; have hlDK1 := sp_lnD_is iK1; have hlnK1 := sp_ln_ne iK1
      rw [xb_om_some c1] at hnt
      refine lv_astore_n (lv' := [(2, .ref (α K1)), (0, .ref (α Z)), (1, .int x1)]) hx hb d_P_open_5 rfl hl (by decide) rfl (fun ls hl => ?_)
      refine lv_aload_n hx hb d_P_open_6 rfl (lv_at hl 0 rfl) ?_
      refine sp_g_Endpoint (v := .int (σ.1 K1 9)) hx hb ht hown hK hP iK1 9 (by decide) (ht _ xw250) (fun _ h_ => h_) rfl d_P_open_7 ?_
      refine lv_iconst (v := 4) hx hb d_P_open_10 (by decide) ?_
      refine lv_icmp_eq (tgt := 24) hx hb d_P_open_11 (by decide) (fun c2 => ?_) (fun c2 => ?_)
      · skip
        rw [if_pos c2] at hnt
        refine lv_aload_n hx hb d_P_open_24 rfl (lv_at hl 0 rfl) ?_
        refine xn_cq (sp_runE (n := 0) (As := []) (rest := []) ⟨hx, hb, hml, hown, hts⟩ (n_Endpoint_leastFree l D α κ hα σ K1 iK1) iK1 xw843 xw779 xw780 xw781 xw778 xw3 xw782 rfl rfl rfl (by decide +kernel) ⟨Nat.le_of_ble_eq_true rfl, Nat.le_of_ble_eq_true rfl⟩ hP hK hN rfl rfl hl.1 rfl (lv_room (Nat.le_of_ble_eq_true rfl)) d_P_open_25 ⟨Nat.le_of_ble_eq_true rfl, Nat.le_of_ble_eq_true rfl⟩) hS (fun H locs hP hS => ?_)
        obtain rfl := xn_nil hS
        rcases c3 : (p_leastFree K1 σ) with _ | K3
        · skip
          rw [xb_om_none c3] at hnt
          refine lv_astore_nN (lv' := [(3, .null), (2, .ref (α K1)), (0, .ref (α Z)), (1, .int x1)]) hx hb d_P_open_28 rfl hl (by decide) rfl (fun ls hl => ?_)
          refine lv_aload_nN hx hb d_P_open_29 rfl (lv_at hl 0 rfl) ?_
          refine lv_ifnonnullN hx hb d_P_open_30 ?_
          exact absurd hnt (by decide)
        · skip
          have iK3 := p_leastFree_is iK1 c3
          rw [xb_om_some c3] at hnt
          exact absurd hnt (by decide)
      · skip
        rw [if_neg c2] at hnt
        exact absurd hnt (by decide)
  · skip
    rw [if_neg hq1] at hnt
    exact xt_leave (xt_runV (As := [.int x1]) (rest := []) ⟨hx, hb, hml, hown, hts⟩ (t_P_endpointOrThrow_1 l D α κ hα htr σ Z x1 iZ hnt) (cwV 1 hts (xa_V xw509 xw511 xs2 xw1 xw512) rfl rfl rfl (by decide +kernel) ⟨Nat.le_of_ble_eq_true rfl, Nat.le_of_ble_eq_true rfl⟩) ⟨st_blind, va_recv hK hP rfl (sp_at_P iZ), st_pre hP hK hN hG hS _⟩ rfl rfl hl.1 rfl (lv_room (Nat.le_of_ble_eq_true rfl)) d_P_open_2 ⟨by decide, by decide⟩) hte hlocks (by decide) (by decide)
set_option maxHeartbeats 4000000 in
set_option maxRecDepth 100000 in
theorem t_P_open_2 (l : Launch) (D : va_G) (α : Nat → Nat) (κ : Nat → ClassId) (hα : xb_inj α 35) (htr : l.stackTraces = false) (σ : xb_St) (Z : Nat) (x1 : Int32) (iZ : sp_isP Z) (hnt : th_P_open Z x1 σ = 2) : xt_Met l y_P_open w_P_open ({ frames := 7, cells := 1, slots := 6, locals := 112 }) (va_Pc ([.ref (α Z), .int x1]) (st_Pre D α κ σ)) "java/lang/IllegalStateException" 1 6 := by
  unfold th_P_open at hnt
  refine xt_ofW (cc := b_P_open) (maxL := 4) (ret := (some .int)) (by decide) rfl ?_
  intro p e s m args below meth c s₁ B_ hml hte hv
  obtain ⟨rfl, ⟨hP, hK, hN⟩, hG⟩ := hv
  have hx := B_.exec
  have hb := B_.bytes
  have hr := B_.returns
  have hts := atoms_spec (ws := w_P_open) B_.pre
  have ht : ∀ w ∈ xa, w.before _ s = true := fun w h => hts w (List.mem_cons_of_mem _ h)
  have hown : s.vm.findClass "SecurePair" = some m.cls := findClass_of_methodNamed B_.named
  have hlocks := B_.notSynchronized
  have hD := sp_D hα κ
  have hS : va_S (fun _ => False) s.heap s.heap [] := va_S.rf
  have hl := lv_entry ([.ref (α Z), .int x1]) (n := 4) (Nat.le_of_ble_eq_true rfl)
  rw [lg_entry_eq]
  generalize (lg_sl ([.ref (α Z), .int x1]) ++ List.replicate (4 - (lg_sl ([.ref (α Z), .int x1])).length) Slot.unset).toArray = ls at hl ⊢
  have hl : lv_has ls 4 [(0, .ref (α Z)), (1, .int x1)] := hl
  refine lv_aload_n hx hb d_P_open_0 rfl (lv_at hl 0 rfl) ?_
  refine lv_iload_n hx hb d_P_open_1 rfl (lv_at hl 1 rfl) ?_
  by_cases hq1 : (th_P_endpointOrThrow Z x1 σ) = 0
  · skip
    rw [if_pos hq1] at hnt
    refine xn_cq (va_runV (As := [.int x1]) (rest := []) ⟨hx, hb, hml, hown, hts⟩ (n_P_endpointOrThrow l D α κ hα σ Z x1 iZ hq1) (cwV 1 hts (xa_V xw509 xw511 xs2 xw1 xw512) rfl rfl rfl (by decide +kernel) ⟨Nat.le_of_ble_eq_true rfl, Nat.le_of_ble_eq_true rfl⟩) ⟨sp_blind, va_recv hK hP rfl (sp_at_P iZ), sp_pre hP hK hN _⟩ rfl rfl hl.1 rfl (lv_room (Nat.le_of_ble_eq_true rfl)) d_P_open_2 ⟨Nat.le_of_ble_eq_true rfl, Nat.le_of_ble_eq_true rfl⟩) hS (fun H locs hP hS => ?_)
    obtain rfl := xn_nil hS
    rcases c1 : (p_eot Z x1 σ) with _ | K1
    · exact absurd c1 (p_eot_nn hq1)
    · skip
      have iK1 := p_eot_is iZ c1; have hlAK1 := sp_lnA_is iK1; have hlDK1 := sp_lnD_is iK1; have hlnK1 := sp_ln_ne iK1
      rw [xb_om_some c1] at hnt
      refine lv_astore_n (lv' := [(2, .ref (α K1)), (0, .ref (α Z)), (1, .int x1)]) hx hb d_P_open_5 rfl hl (by decide) rfl (fun ls hl => ?_)
      refine lv_aload_n hx hb d_P_open_6 rfl (lv_at hl 0 rfl) ?_
      refine sp_g_Endpoint (v := .int (σ.1 K1 9)) hx hb ht hown hK hP iK1 9 (by decide) (ht _ xw250) (fun _ h_ => h_) rfl d_P_open_7 ?_
      refine lv_iconst (v := 4) hx hb d_P_open_10 (by decide) ?_
      refine lv_icmp_eq (tgt := 24) hx hb d_P_open_11 (by decide) (fun c2 => ?_) (fun c2 => ?_)
      · skip
        rw [if_pos c2] at hnt
        refine lv_aload_n hx hb d_P_open_24 rfl (lv_at hl 0 rfl) ?_
        refine xn_cq (sp_runE (n := 0) (As := []) (rest := []) ⟨hx, hb, hml, hown, hts⟩ (n_Endpoint_leastFree l D α κ hα σ K1 iK1) iK1 xw843 xw779 xw780 xw781 xw778 xw3 xw782 rfl rfl rfl (by decide +kernel) ⟨Nat.le_of_ble_eq_true rfl, Nat.le_of_ble_eq_true rfl⟩ hP hK hN rfl rfl hl.1 rfl (lv_room (Nat.le_of_ble_eq_true rfl)) d_P_open_25 ⟨Nat.le_of_ble_eq_true rfl, Nat.le_of_ble_eq_true rfl⟩) hS (fun H locs hP hS => ?_)
        obtain rfl := xn_nil hS
        rcases c3 : (p_leastFree K1 σ) with _ | K3
        · skip
          rw [xb_om_none c3] at hnt
          refine lv_astore_nN (lv' := [(3, .null), (2, .ref (α K1)), (0, .ref (α Z)), (1, .int x1)]) hx hb d_P_open_28 rfl hl (by decide) rfl (fun ls hl => ?_)
          refine lv_aload_nN hx hb d_P_open_29 rfl (lv_at hl 0 rfl) ?_
          refine lv_ifnonnullN hx hb d_P_open_30 ?_
          exact absurd hnt (by decide)
        · skip
          have iK3 := p_leastFree_is iK1 c3
          rw [xb_om_some c3] at hnt
          exact absurd hnt (by decide)
      · skip
        rw [if_neg c2] at hnt
        obtain ⟨sa, hsa⟩ := hG.2.2.1 (101, "not ready") (by decide)
        exact xt_throw hx hb htr (own := "SecurePair") (text := "not ready") hown (by decide +kernel) (by decide +kernel) (ht _ xw588) (ht _ xw16) hsa.1 hsa.2 (xt_atoms [12, 535, 544, 549, 552, 554, 536, 537, 27, 28, 538, 543, 550, 570, 525, 571, 527, 572, 529, 539, 541, 531, 566, 567, 569, 531, 599, 600, 601, 560, 560, 561, 562, 563, 563, 564, 565, 566, 598, 589, 591, 547, 592, 593, 594, 595, 534, 533, 596] xt_g75 xt_b75 (by decide) ht hG) (hl.1.trans hml.symm) hte d_P_open_14 d_P_open_17 d_P_open_18 d_P_open_20 d_P_open_23 (by decide) (by decide) (by decide) (by decide) hlocks (by decide) (by decide) hS.1
  · skip
    rw [if_neg hq1] at hnt
    exact absurd hnt (th_P_endpointOrThrow_v2 Z x1 σ iZ)
set_option maxHeartbeats 4000000 in
set_option maxRecDepth 100000 in
theorem t_P_open_3 (l : Launch) (D : va_G) (α : Nat → Nat) (κ : Nat → ClassId) (hα : xb_inj α 35) (htr : l.stackTraces = false) (σ : xb_St) (Z : Nat) (x1 : Int32) (iZ : sp_isP Z) (hnt : th_P_open Z x1 σ = 3) : xt_Met l y_P_open w_P_open ({ frames := 7, cells := 1, slots := 6, locals := 112 }) (va_Pc ([.ref (α Z), .int x1]) (st_Pre D α κ σ)) "java/lang/UnsupportedOperationException" 1 6 := by
  unfold th_P_open at hnt
  refine xt_ofW (cc := b_P_open) (maxL := 4) (ret := (some .int)) (by decide) rfl ?_
  intro p e s m args below meth c s₁ B_ hml hte hv
  obtain ⟨rfl, ⟨hP, hK, hN⟩, hG⟩ := hv
  have hx := B_.exec
  have hb := B_.bytes
  have hr := B_.returns
  have hts := atoms_spec (ws := w_P_open) B_.pre
  have ht : ∀ w ∈ xa, w.before _ s = true := fun w h => hts w (List.mem_cons_of_mem _ h)
  have hown : s.vm.findClass "SecurePair" = some m.cls := findClass_of_methodNamed B_.named
  have hlocks := B_.notSynchronized
  have hD := sp_D hα κ
  have hS : va_S (fun _ => False) s.heap s.heap [] := va_S.rf
  have hl := lv_entry ([.ref (α Z), .int x1]) (n := 4) (Nat.le_of_ble_eq_true rfl)
  rw [lg_entry_eq]
  generalize (lg_sl ([.ref (α Z), .int x1]) ++ List.replicate (4 - (lg_sl ([.ref (α Z), .int x1])).length) Slot.unset).toArray = ls at hl ⊢
  have hl : lv_has ls 4 [(0, .ref (α Z)), (1, .int x1)] := hl
  refine lv_aload_n hx hb d_P_open_0 rfl (lv_at hl 0 rfl) ?_
  refine lv_iload_n hx hb d_P_open_1 rfl (lv_at hl 1 rfl) ?_
  by_cases hq1 : (th_P_endpointOrThrow Z x1 σ) = 0
  · skip
    rw [if_pos hq1] at hnt
    refine xn_cq (va_runV (As := [.int x1]) (rest := []) ⟨hx, hb, hml, hown, hts⟩ (n_P_endpointOrThrow l D α κ hα σ Z x1 iZ hq1) (cwV 1 hts (xa_V xw509 xw511 xs2 xw1 xw512) rfl rfl rfl (by decide +kernel) ⟨Nat.le_of_ble_eq_true rfl, Nat.le_of_ble_eq_true rfl⟩) ⟨sp_blind, va_recv hK hP rfl (sp_at_P iZ), sp_pre hP hK hN _⟩ rfl rfl hl.1 rfl (lv_room (Nat.le_of_ble_eq_true rfl)) d_P_open_2 ⟨Nat.le_of_ble_eq_true rfl, Nat.le_of_ble_eq_true rfl⟩) hS (fun H locs hP hS => ?_)
    obtain rfl := xn_nil hS
    rcases c1 : (p_eot Z x1 σ) with _ | K1
    · exact absurd c1 (p_eot_nn hq1)
    · skip
      have iK1 := p_eot_is iZ c1; have hlAK1 := sp_lnA_is iK1; have hlDK1 := sp_lnD_is iK1; have hlnK1 := sp_ln_ne iK1
      rw [xb_om_some c1] at hnt
      refine lv_astore_n (lv' := [(2, .ref (α K1)), (0, .ref (α Z)), (1, .int x1)]) hx hb d_P_open_5 rfl hl (by decide) rfl (fun ls hl => ?_)
      refine lv_aload_n hx hb d_P_open_6 rfl (lv_at hl 0 rfl) ?_
      refine sp_g_Endpoint (v := .int (σ.1 K1 9)) hx hb ht hown hK hP iK1 9 (by decide) (ht _ xw250) (fun _ h_ => h_) rfl d_P_open_7 ?_
      refine lv_iconst (v := 4) hx hb d_P_open_10 (by decide) ?_
      refine lv_icmp_eq (tgt := 24) hx hb d_P_open_11 (by decide) (fun c2 => ?_) (fun c2 => ?_)
      · skip
        rw [if_pos c2] at hnt
        refine lv_aload_n hx hb d_P_open_24 rfl (lv_at hl 0 rfl) ?_
        refine xn_cq (sp_runE (n := 0) (As := []) (rest := []) ⟨hx, hb, hml, hown, hts⟩ (n_Endpoint_leastFree l D α κ hα σ K1 iK1) iK1 xw843 xw779 xw780 xw781 xw778 xw3 xw782 rfl rfl rfl (by decide +kernel) ⟨Nat.le_of_ble_eq_true rfl, Nat.le_of_ble_eq_true rfl⟩ hP hK hN rfl rfl hl.1 rfl (lv_room (Nat.le_of_ble_eq_true rfl)) d_P_open_25 ⟨Nat.le_of_ble_eq_true rfl, Nat.le_of_ble_eq_true rfl⟩) hS (fun H locs hP hS => ?_)
        obtain rfl := xn_nil hS
        rcases c3 : (p_leastFree K1 σ) with _ | K3
        · skip
          rw [xb_om_none c3] at hnt
          refine lv_astore_nN (lv' := [(3, .null), (2, .ref (α K1)), (0, .ref (α Z)), (1, .int x1)]) hx hb d_P_open_28 rfl hl (by decide) rfl (fun ls hl => ?_)
          refine lv_aload_nN hx hb d_P_open_29 rfl (lv_at hl 0 rfl) ?_
          refine lv_ifnonnullN hx hb d_P_open_30 ?_
          obtain ⟨sa, hsa⟩ := hG.2.2.1 (109, "no channel is free") (by decide)
          exact xt_throw hx hb htr (own := "SecurePair") (text := "no channel is free") hown (by decide +kernel) (by decide +kernel) (ht _ xw844) (ht _ xw18) hsa.1 hsa.2 (xt_atoms [12, 535, 544, 549, 552, 554, 536, 537, 27, 28, 538, 543, 550, 570, 525, 571, 527, 572, 529, 539, 541, 531, 566, 567, 569, 531, 855, 856, 857, 560, 560, 561, 562, 563, 563, 564, 565, 566, 854, 845, 847, 548, 848, 849, 850, 851, 534, 533, 852] xt_g111 xt_b111 (by decide) ht hG) (hl.1.trans hml.symm) hte d_P_open_33 d_P_open_36 d_P_open_37 d_P_open_39 d_P_open_42 (by decide) (by decide) (by decide) (by decide) hlocks (by decide) (by decide) hS.1
        · skip
          have iK3 := p_leastFree_is iK1 c3
          rw [xb_om_some c3] at hnt
          exact absurd hnt (by decide)
      · skip
        rw [if_neg c2] at hnt
        exact absurd hnt (by decide)
  · skip
    rw [if_neg hq1] at hnt
    exact absurd hnt (th_P_endpointOrThrow_v3 Z x1 σ iZ)
abbrev b_P_write : ByteArray := prog_1_method_9_code
def y_P_write : MethodName := ⟨"SecurePair", "write", "(IIJI)I"⟩
abbrev w_P_write : List Cond := .code y_P_write b_P_write 8 (some .int) :: xa
theorem d_P_write_0 : decode b_P_write 0 = .ok (.aload_n 0, 1) := by decide +kernel
theorem d_P_write_1 : decode b_P_write 1 = .ok (.iload_n 1, 1) := by decide +kernel
theorem d_P_write_2 : decode b_P_write 2 = .ok (.invokevirtual 64, 3) := by decide +kernel
theorem d_P_write_5 : decode b_P_write 5 = .ok (.astore 6, 2) := by decide +kernel
theorem d_P_write_7 : decode b_P_write 7 = .ok (.aload 6, 2) := by decide +kernel
theorem d_P_write_9 : decode b_P_write 9 = .ok (.iload_n 2, 1) := by decide +kernel
theorem d_P_write_10 : decode b_P_write 10 = .ok (.invokestatic 121, 3) := by decide +kernel
theorem d_P_write_13 : decode b_P_write 13 = .ok (.astore 7, 2) := by decide +kernel
theorem d_P_write_15 : decode b_P_write 15 = .ok (.iload 5, 2) := by decide +kernel
theorem d_P_write_17 : decode b_P_write 17 = .ok (.iconst 1, 1) := by decide +kernel
theorem d_P_write_18 : decode b_P_write 18 = .ok (.if_icmp .lt 10, 3) := by decide +kernel
theorem d_P_write_21 : decode b_P_write 21 = .ok (.iload 5, 2) := by decide +kernel
theorem d_P_write_23 : decode b_P_write 23 = .ok (.bipush 8, 2) := by decide +kernel
theorem d_P_write_25 : decode b_P_write 25 = .ok (.if_icmp .le 13, 3) := by decide +kernel
theorem d_P_write_28 : decode b_P_write 28 = .ok (.new 125, 3) := by decide +kernel
theorem d_P_write_31 : decode b_P_write 31 = .ok (.dup, 1) := by decide +kernel
theorem d_P_write_32 : decode b_P_write 32 = .ok (.ldc 127, 2) := by decide +kernel
theorem d_P_write_34 : decode b_P_write 34 = .ok (.invokespecial 129, 3) := by decide +kernel
theorem d_P_write_37 : decode b_P_write 37 = .ok (.athrow, 1) := by decide +kernel
theorem d_P_write_38 : decode b_P_write 38 = .ok (.aload 6, 2) := by decide +kernel
theorem d_P_write_40 : decode b_P_write 40 = .ok (.aload 7, 2) := by decide +kernel
theorem d_P_write_42 : decode b_P_write 42 = .ok (.lload_n 3, 1) := by decide +kernel
theorem d_P_write_43 : decode b_P_write 43 = .ok (.iload 5, 2) := by decide +kernel
theorem d_P_write_45 : decode b_P_write 45 = .ok (.invokevirtual 130, 3) := by decide +kernel
theorem d_P_write_48 : decode b_P_write 48 = .ok (.ireturn, 1) := by decide +kernel
theorem xw19 : (Cond.initialized "java/lang/IllegalArgumentException") ∈ xa := xa_t 19 (by decide +kernel) (by decide +kernel)
theorem xw874 : (Cond.methodLink "SecurePair" (121 : Nat) ({ cls := "SecurePair", name := "usableOrThrow", desc := "(LSecurePair$Endpoint;I)LSecurePair$Channel;" } : MethodName)) ∈ xa := xa_t 874 (by decide +kernel) (by decide +kernel)
theorem xw875 : (Cond.static ({ cls := "SecurePair", name := "usableOrThrow", desc := "(LSecurePair$Endpoint;I)LSecurePair$Channel;" } : MethodName)) ∈ xa := xa_t 875 (by decide +kernel) (by decide +kernel)
theorem xw876 : (Cond.code ({ cls := "SecurePair", name := "usableOrThrow", desc := "(LSecurePair$Endpoint;I)LSecurePair$Channel;" } : MethodName) prog_1_method_28_code (3 : Nat) (Option.some (ClassFile.FieldType.object "SecurePair$Channel"))) ∈ xa := xa_t 876 (by decide +kernel) (by decide +kernel)
theorem xw888 : (Cond.classLink "SecurePair" (125 : Nat) "java/lang/IllegalArgumentException") ∈ xa := xa_t 888 (by decide +kernel) (by decide +kernel)
theorem xw904 : (Cond.methodLink "SecurePair" (130 : Nat) ({ cls := "SecurePair$Endpoint", name := "sendBytes", desc := "(LSecurePair$Channel;JI)I" } : MethodName)) ∈ xa := xa_t 904 (by decide +kernel) (by decide +kernel)
theorem xw905 : (Cond.instanceMethod ({ cls := "SecurePair$Endpoint", name := "sendBytes", desc := "(LSecurePair$Channel;JI)I" } : MethodName)) ∈ xa := xa_t 905 (by decide +kernel) (by decide +kernel)
theorem xw906 : (Cond.sameMethod "SecurePair$Endpoint" "SecurePair$Endpoint" "sendBytes" "(LSecurePair$Channel;JI)I") ∈ xa := xa_t 906 (by decide +kernel) (by decide +kernel)
theorem xw907 : (Cond.selects "SecurePair$Client" ({ cls := "SecurePair$Endpoint", name := "sendBytes", desc := "(LSecurePair$Channel;JI)I" } : MethodName) ({ cls := "SecurePair$Endpoint", name := "sendBytes", desc := "(LSecurePair$Channel;JI)I" } : MethodName)) ∈ xa := xa_t 907 (by decide +kernel) (by decide +kernel)
theorem xw908 : (Cond.selects "SecurePair$Server" ({ cls := "SecurePair$Endpoint", name := "sendBytes", desc := "(LSecurePair$Channel;JI)I" } : MethodName) ({ cls := "SecurePair$Endpoint", name := "sendBytes", desc := "(LSecurePair$Channel;JI)I" } : MethodName)) ∈ xa := xa_t 908 (by decide +kernel) (by decide +kernel)
theorem xw909 : (Cond.code ({ cls := "SecurePair$Endpoint", name := "sendBytes", desc := "(LSecurePair$Channel;JI)I" } : MethodName) prog_4_method_24_code (8 : Nat) (Option.some ClassFile.FieldType.int)) ∈ xa := xa_t 909 (by decide +kernel) (by decide +kernel)
def th_P_write (Z : Nat) (x1 : Int32) (x2 : Int32) (x3 : Int64) (x4 : Int32) (σ : xb_St) : Nat := (if (th_P_endpointOrThrow Z x1 σ) = 0 then (xb_om (p_eot Z x1 σ) 0 (fun K1 => (if (th_P_usableOrThrow K1 x2 σ) = 0 then (xb_om (p_uot K1 x2 σ) 0 (fun K2 => (if x4 < (1 : Int32) then 3 else (if x4 ≤ (8 : Int32) then 0 else 3)))) else (th_P_usableOrThrow K1 x2 σ)))) else (th_P_endpointOrThrow Z x1 σ))
def p_write (Z : Nat) (x1 : Int32) (x2 : Int32) (x3 : Int64) (x4 : Int32) (σ : xb_St) : Int32 × xb_St := (xb_om (p_eot Z x1 σ) (0, σ) (fun K1 => (xb_om (p_uot K1 x2 σ) (0, σ) (fun K2 => (if x4 < (1 : Int32) then (0, σ) else (if x4 ≤ (8 : Int32) then ((p_sendBytes K1 K2 x3 x4 σ).1, (p_sendBytes K1 K2 x3 x4 σ).2) else (0, σ)))))))
set_option maxHeartbeats 4000000 in
set_option maxRecDepth 100000 in
theorem c_P_write (l : Launch) (D : va_G) (α : Nat → Nat) (κ : Nat → ClassId) (hα : xb_inj α 35) (σ : xb_St) (Z : Nat) (x1 : Int32) (x2 : Int32) (x3 : Int64) (x4 : Int32) (iZ : sp_isP Z) (ok : sp_ok σ) (hnt : th_P_write Z x1 x2 x3 x4 σ = 0) : Met l y_P_write w_P_write ({ frames := 4, cells := 0, slots := 0, locals := 104 }) (va_Pc ([.ref (α Z), .int x1, .int x2, .long x3, .int x4]) (sp_Pre D α κ σ)) (va_Qi (fun r (u : xb_St) => r = (p_write Z x1 x2 x3 x4 σ).1 ∧ u = (p_write Z x1 x2 x3 x4 σ).2) (sp_B D α κ) (xb_A α 35)) 0 0 (xb_A α 35) := by
  unfold th_P_write at hnt
  refine Met.ofW (cc := b_P_write) (maxL := 8) (ret := (some .int)) (by decide) rfl ?_
  intro p e s m args below meth c s₁ B_ hml hv
  obtain ⟨rfl, hP, hK, hN⟩ := hv
  have hx := B_.exec
  have hb := B_.bytes
  have hr := B_.returns
  have hts := atoms_spec (ws := w_P_write) B_.pre
  have ht : ∀ w ∈ xa, w.before _ s = true := fun w h => hts w (List.mem_cons_of_mem _ h)
  have hown : s.vm.findClass "SecurePair" = some m.cls := findClass_of_methodNamed B_.named
  have hlocks := B_.notSynchronized
  have hD := sp_D hα κ
  have hS : va_S (xb_A α 35) s.heap s.heap [] := va_S.rf
  have hl := lv_entry ([.ref (α Z), .int x1, .int x2, .long x3, .int x4]) (n := 8) (Nat.le_of_ble_eq_true rfl)
  rw [lg_entry_eq]
  generalize (lg_sl ([.ref (α Z), .int x1, .int x2, .long x3, .int x4]) ++ List.replicate (8 - (lg_sl ([.ref (α Z), .int x1, .int x2, .long x3, .int x4])).length) Slot.unset).toArray = ls at hl ⊢
  have hl : lv_has ls 8 [(0, .ref (α Z)), (1, .int x1), (2, .int x2), (3, .long x3), (5, .int x4)] := hl
  refine lv_aload_n hx hb d_P_write_0 rfl (lv_at hl 0 rfl) ?_
  refine lv_iload_n hx hb d_P_write_1 rfl (lv_at hl 1 rfl) ?_
  have hq1 := xb_th0 hnt
  rw [if_pos hq1] at hnt
  refine xn_cq (va_runV (As := [.int x1]) (rest := []) ⟨hx, hb, hml, hown, hts⟩ (n_P_endpointOrThrow l D α κ hα σ Z x1 iZ hq1) (cwV 1 hts (xa_V xw509 xw511 xs2 xw1 xw512) rfl rfl rfl (by decide +kernel) ⟨Nat.le_of_ble_eq_true rfl, Nat.le_of_ble_eq_true rfl⟩) ⟨sp_blind, va_recv hK hP rfl (sp_at_P iZ), sp_pre hP hK hN _⟩ rfl rfl hl.1 rfl (lv_room (Nat.le_of_ble_eq_true rfl)) d_P_write_2 ⟨Nat.le_of_ble_eq_true rfl, Nat.le_of_ble_eq_true rfl⟩) hS (fun H locs hP hS => ?_)
  rcases c1 : (p_eot Z x1 σ) with _ | K1
  · exact absurd c1 (p_eot_nn hq1)
  · skip
    have iK1 := p_eot_is iZ c1; have hlAK1 := sp_lnA_is iK1; have hlDK1 := sp_lnD_is iK1; have hlnK1 := sp_ln_ne iK1
    rw [xb_om_some c1] at hnt
    refine lv_astore (lv' := [(6, .ref (α K1)), (0, .ref (α Z)), (1, .int x1), (2, .int x2), (3, .long x3), (5, .int x4)]) hx hb d_P_write_5 hl (by decide) rfl (fun ls hl => ?_)
    refine lv_aload hx hb d_P_write_7 (lv_at hl 0 rfl) ?_
    refine lv_iload_n hx hb d_P_write_9 rfl (lv_at hl 3 rfl) ?_
    have hq2 := xb_th0 hnt
    rw [if_pos hq2] at hnt
    refine xn_cq (va_runS (As := [.ref (α K1), .int x2]) (rest := []) ⟨hx, hb, hml, hown, hts⟩ (n_P_usableOrThrow l D α κ hα σ K1 x2 iK1 hq2) (cwS 2 hts (xa_S xw874 xw875 xw1 xw876) rfl rfl rfl (by decide +kernel) ⟨Nat.le_of_ble_eq_true rfl, Nat.le_of_ble_eq_true rfl⟩) ⟨sp_blind, sp_pre hP hK hN _⟩ rfl rfl hl.1 rfl (lv_room (Nat.le_of_ble_eq_true rfl)) d_P_write_10 ⟨Nat.le_of_ble_eq_true rfl, Nat.le_of_ble_eq_true rfl⟩) hS (fun H locs hP hS => ?_)
    rcases c2 : (p_uot K1 x2 σ) with _ | K2
    · exact absurd c2 (p_uot_nn hq2)
    · skip
      have iK2 := p_uot_is iK1 c2
      rw [xb_om_some c2] at hnt
      refine lv_astore (lv' := [(7, .ref (α K2)), (6, .ref (α K1)), (0, .ref (α Z)), (1, .int x1), (2, .int x2), (3, .long x3), (5, .int x4)]) hx hb d_P_write_13 hl (by decide) rfl (fun ls hl => ?_)
      refine lv_iload hx hb d_P_write_15 (lv_at hl 6 rfl) ?_
      refine lv_iconst (v := 1) hx hb d_P_write_17 (by decide) ?_
      refine lv_icmp_lt (tgt := 28) hx hb d_P_write_18 (by decide) (fun c3 => ?_) (fun c3 => ?_)
      · skip
        rw [if_pos c3] at hnt
        exact absurd hnt (by decide)
      · skip
        rw [if_neg c3] at hnt
        refine lv_iload hx hb d_P_write_21 (lv_at hl 6 rfl) ?_
        refine lv_bipush (v := 8) hx hb d_P_write_23 (by decide) ?_
        refine lv_icmp_le (tgt := 38) hx hb d_P_write_25 (by decide) (fun c4 => ?_) (fun c4 => ?_)
        · skip
          rw [if_pos c4] at hnt
          refine lv_aload hx hb d_P_write_38 (lv_at hl 1 rfl) ?_
          refine lv_aload hx hb d_P_write_40 (lv_at hl 0 rfl) ?_
          refine lv_lload_n hx hb d_P_write_42 rfl (lv_at hl 5 rfl) ?_
          refine lv_iload hx hb d_P_write_43 (lv_at hl 6 rfl) ?_
          refine sp_ci (sp_runE (n := 3) (As := [.ref (α K2), .long x3, .int x4]) (rest := []) ⟨hx, hb, hml, hown, hts⟩ (c_Endpoint_sendBytes l D α κ hα σ K1 K2 x3 x4 iK1 iK2 ok) iK1 xw904 xw906 xw907 xw908 xw905 xw3 xw909 rfl rfl rfl (by decide +kernel) ⟨Nat.le_of_ble_eq_true rfl, Nat.le_of_ble_eq_true rfl⟩ hP hK hN rfl rfl hl.1 rfl (lv_room (Nat.le_of_ble_eq_true rfl)) d_P_write_45 ⟨Nat.le_of_ble_eq_true rfl, Nat.le_of_ble_eq_true rfl⟩) hS (fun _ h_ => h_) (fun H locs hP hS => ?_)
          obtain ⟨τ1, hτ1⟩ : ∃ t_, t_ = (p_sendBytes K1 K2 x3 x4 σ).2 := ⟨_, rfl⟩
          rw [← hτ1] at hP
          have okτ1 : sp_ok τ1 := by rw [hτ1]; exact (ok_p_sendBytes K1 K2 x3 x4 iK1 iK2 ok)
          obtain ⟨ρ1, hρ1⟩ : ∃ r_, r_ = (p_sendBytes K1 K2 x3 x4 σ).1 := ⟨_, rfl⟩
          refine xb_ti (y := ρ1) hρ1.symm ?_
          exact W.iret (v := ρ1) hx hb hr (fun t ht_ hW => ⟨⟨ρ1, τ1, rfl, ⟨congrArg Prod.fst (((by subst hρ1; subst hτ1; exact (by unfold p_write; rw [xb_om_some c1, xb_om_some c2, if_neg c3, if_pos c4]))) : (ρ1, τ1) = p_write Z x1 x2 x3 x4 σ), congrArg Prod.snd (((by subst hρ1; subst hτ1; exact (by unfold p_write; rw [xb_om_some c1, xb_om_some c2, if_neg c3, if_pos c4]))) : (ρ1, τ1) = p_write Z x1 x2 x3 x4 σ)⟩, by rw [sp_B, ht_]; exact hP⟩, hS.F ht_⟩) hS.2.2 d_P_write_48
        · skip
          rw [if_neg c4] at hnt
          exact absurd hnt (by decide)
theorem ok_p_write {σ : xb_St} (Z : Nat) (x1 : Int32) (x2 : Int32) (x3 : Int64) (x4 : Int32) (iZ : sp_isP Z) (ok : sp_ok σ) (hnt : th_P_write Z x1 x2 x3 x4 σ = 0) : sp_ok (p_write Z x1 x2 x3 x4 σ).2 := by
  unfold th_P_write at hnt
  unfold p_write
  have hq1 := xb_th0 hnt
  rw [if_pos hq1] at hnt
  rcases c1 : (p_eot Z x1 σ) with _ | K1
  · exact absurd c1 (p_eot_nn hq1)
  · dsimp only [xb_om]
    have iK1 := p_eot_is iZ c1; have hlAK1 := sp_lnA_is iK1; have hlDK1 := sp_lnD_is iK1; have hlnK1 := sp_ln_ne iK1
    rw [xb_om_some c1] at hnt
    have hq2 := xb_th0 hnt
    rw [if_pos hq2] at hnt
    rcases c2 : (p_uot K1 x2 σ) with _ | K2
    · exact absurd c2 (p_uot_nn hq2)
    · dsimp only [xb_om]
      have iK2 := p_uot_is iK1 c2
      rw [xb_om_some c2] at hnt
      by_cases c3 : x4 < (1 : Int32)
      · rw [if_pos c3]
        rw [if_pos c3] at hnt
        exact absurd hnt (by decide)
      · rw [if_neg c3]
        rw [if_neg c3] at hnt
        by_cases c4 : x4 ≤ (8 : Int32)
        · rw [if_pos c4]
          rw [if_pos c4] at hnt
          exact (ok_p_sendBytes K1 K2 x3 x4 iK1 iK2 ok)
        · rw [if_neg c4]
          rw [if_neg c4] at hnt
          exact absurd hnt (by decide)
set_option maxHeartbeats 4000000 in
set_option maxRecDepth 100000 in
theorem t_P_write_1 (l : Launch) (D : va_G) (α : Nat → Nat) (κ : Nat → ClassId) (hα : xb_inj α 35) (htr : l.stackTraces = false) (σ : xb_St) (Z : Nat) (x1 : Int32) (x2 : Int32) (x3 : Int64) (x4 : Int32) (iZ : sp_isP Z) (hnt : th_P_write Z x1 x2 x3 x4 σ = 1) : xt_Met l y_P_write w_P_write ({ frames := 8, cells := 1, slots := 6, locals := 134 }) (va_Pc ([.ref (α Z), .int x1, .int x2, .long x3, .int x4]) (st_Pre D α κ σ)) "java/lang/IndexOutOfBoundsException" 1 6 := by
  unfold th_P_write at hnt
  refine xt_ofW (cc := b_P_write) (maxL := 8) (ret := (some .int)) (by decide) rfl ?_
  intro p e s m args below meth c s₁ B_ hml hte hv
  obtain ⟨rfl, ⟨hP, hK, hN⟩, hG⟩ := hv
  have hx := B_.exec
  have hb := B_.bytes
  have hr := B_.returns
  have hts := atoms_spec (ws := w_P_write) B_.pre
  have ht : ∀ w ∈ xa, w.before _ s = true := fun w h => hts w (List.mem_cons_of_mem _ h)
  have hown : s.vm.findClass "SecurePair" = some m.cls := findClass_of_methodNamed B_.named
  have hlocks := B_.notSynchronized
  have hD := sp_D hα κ
  have hS : va_S (fun _ => False) s.heap s.heap [] := va_S.rf
  have hl := lv_entry ([.ref (α Z), .int x1, .int x2, .long x3, .int x4]) (n := 8) (Nat.le_of_ble_eq_true rfl)
  rw [lg_entry_eq]
  generalize (lg_sl ([.ref (α Z), .int x1, .int x2, .long x3, .int x4]) ++ List.replicate (8 - (lg_sl ([.ref (α Z), .int x1, .int x2, .long x3, .int x4])).length) Slot.unset).toArray = ls at hl ⊢
  have hl : lv_has ls 8 [(0, .ref (α Z)), (1, .int x1), (2, .int x2), (3, .long x3), (5, .int x4)] := hl
  refine lv_aload_n hx hb d_P_write_0 rfl (lv_at hl 0 rfl) ?_
  refine lv_iload_n hx hb d_P_write_1 rfl (lv_at hl 1 rfl) ?_
  by_cases hq1 : (th_P_endpointOrThrow Z x1 σ) = 0
  · skip
    rw [if_pos hq1] at hnt
    refine xn_cq (va_runV (As := [.int x1]) (rest := []) ⟨hx, hb, hml, hown, hts⟩ (n_P_endpointOrThrow l D α κ hα σ Z x1 iZ hq1) (cwV 1 hts (xa_V xw509 xw511 xs2 xw1 xw512) rfl rfl rfl (by decide +kernel) ⟨Nat.le_of_ble_eq_true rfl, Nat.le_of_ble_eq_true rfl⟩) ⟨sp_blind, va_recv hK hP rfl (sp_at_P iZ), sp_pre hP hK hN _⟩ rfl rfl hl.1 rfl (lv_room (Nat.le_of_ble_eq_true rfl)) d_P_write_2 ⟨Nat.le_of_ble_eq_true rfl, Nat.le_of_ble_eq_true rfl⟩) hS (fun H locs hP hS => ?_)
    obtain rfl := xn_nil hS
    rcases c1 : (p_eot Z x1 σ) with _ | K1
    · exact absurd c1 (p_eot_nn hq1)
    · skip
      have iK1 := p_eot_is iZ c1; have hlAK1 := sp_lnA_is iK1; have hlDK1 := sp_lnD_is iK1; have hlnK1 := sp_ln_ne iK1
      rw [xb_om_some c1] at hnt
      refine lv_astore (lv' := [(6, .ref (α K1)), (0, .ref (α Z)), (1, .int x1), (2, .int x2), (3, .long x3), (5, .int x4)]) hx hb d_P_write_5 hl (by decide) rfl (fun ls hl => ?_)
      refine lv_aload hx hb d_P_write_7 (lv_at hl 0 rfl) ?_
      refine lv_iload_n hx hb d_P_write_9 rfl (lv_at hl 3 rfl) ?_
      by_cases hq2 : (th_P_usableOrThrow K1 x2 σ) = 0
      · skip
        rw [if_pos hq2] at hnt
        refine xn_cq (va_runS (As := [.ref (α K1), .int x2]) (rest := []) ⟨hx, hb, hml, hown, hts⟩ (n_P_usableOrThrow l D α κ hα σ K1 x2 iK1 hq2) (cwS 2 hts (xa_S xw874 xw875 xw1 xw876) rfl rfl rfl (by decide +kernel) ⟨Nat.le_of_ble_eq_true rfl, Nat.le_of_ble_eq_true rfl⟩) ⟨sp_blind, sp_pre hP hK hN _⟩ rfl rfl hl.1 rfl (lv_room (Nat.le_of_ble_eq_true rfl)) d_P_write_10 ⟨Nat.le_of_ble_eq_true rfl, Nat.le_of_ble_eq_true rfl⟩) hS (fun H locs hP hS => ?_)
        obtain rfl := xn_nil hS
        rcases c2 : (p_uot K1 x2 σ) with _ | K2
        · exact absurd c2 (p_uot_nn hq2)
        · skip
          have iK2 := p_uot_is iK1 c2
          rw [xb_om_some c2] at hnt
          refine lv_astore (lv' := [(7, .ref (α K2)), (6, .ref (α K1)), (0, .ref (α Z)), (1, .int x1), (2, .int x2), (3, .long x3), (5, .int x4)]) hx hb d_P_write_13 hl (by decide) rfl (fun ls hl => ?_)
          refine lv_iload hx hb d_P_write_15 (lv_at hl 6 rfl) ?_
          refine lv_iconst (v := 1) hx hb d_P_write_17 (by decide) ?_
          refine lv_icmp_lt (tgt := 28) hx hb d_P_write_18 (by decide) (fun c3 => ?_) (fun c3 => ?_)
          · skip
            rw [if_pos c3] at hnt
            exact absurd hnt (by decide)
          · skip
            rw [if_neg c3] at hnt
            refine lv_iload hx hb d_P_write_21 (lv_at hl 6 rfl) ?_
            refine lv_bipush (v := 8) hx hb d_P_write_23 (by decide) ?_
            refine lv_icmp_le (tgt := 38) hx hb d_P_write_25 (by decide) (fun c4 => ?_) (fun c4 => ?_)
            · skip
              rw [if_pos c4] at hnt
              exact absurd hnt (by decide)
            · skip
              rw [if_neg c4] at hnt
              exact absurd hnt (by decide)
      · skip
        rw [if_neg hq2] at hnt
        exact xt_leave (xt_runS (As := [.ref (α K1), .int x2]) (rest := []) ⟨hx, hb, hml, hown, hts⟩ (t_P_usableOrThrow_1 l D α κ hα htr σ K1 x2 iK1 hnt) (cwS 2 hts (xa_S xw874 xw875 xw1 xw876) rfl rfl rfl (by decide +kernel) ⟨Nat.le_of_ble_eq_true rfl, Nat.le_of_ble_eq_true rfl⟩) ⟨st_blind, st_pre hP hK hN hG hS _⟩ rfl rfl hl.1 rfl (lv_room (Nat.le_of_ble_eq_true rfl)) d_P_write_10 ⟨by decide, by decide⟩) hte hlocks (by decide) (by decide)
  · skip
    rw [if_neg hq1] at hnt
    exact xt_leave (xt_runV (As := [.int x1]) (rest := []) ⟨hx, hb, hml, hown, hts⟩ (t_P_endpointOrThrow_1 l D α κ hα htr σ Z x1 iZ hnt) (cwV 1 hts (xa_V xw509 xw511 xs2 xw1 xw512) rfl rfl rfl (by decide +kernel) ⟨Nat.le_of_ble_eq_true rfl, Nat.le_of_ble_eq_true rfl⟩) ⟨st_blind, va_recv hK hP rfl (sp_at_P iZ), st_pre hP hK hN hG hS _⟩ rfl rfl hl.1 rfl (lv_room (Nat.le_of_ble_eq_true rfl)) d_P_write_2 ⟨by decide, by decide⟩) hte hlocks (by decide) (by decide)
set_option maxHeartbeats 4000000 in
set_option maxRecDepth 100000 in
theorem t_P_write_2 (l : Launch) (D : va_G) (α : Nat → Nat) (κ : Nat → ClassId) (hα : xb_inj α 35) (htr : l.stackTraces = false) (σ : xb_St) (Z : Nat) (x1 : Int32) (x2 : Int32) (x3 : Int64) (x4 : Int32) (iZ : sp_isP Z) (hnt : th_P_write Z x1 x2 x3 x4 σ = 2) : xt_Met l y_P_write w_P_write ({ frames := 8, cells := 1, slots := 6, locals := 134 }) (va_Pc ([.ref (α Z), .int x1, .int x2, .long x3, .int x4]) (st_Pre D α κ σ)) "java/lang/IllegalStateException" 1 6 := by
  unfold th_P_write at hnt
  refine xt_ofW (cc := b_P_write) (maxL := 8) (ret := (some .int)) (by decide) rfl ?_
  intro p e s m args below meth c s₁ B_ hml hte hv
  obtain ⟨rfl, ⟨hP, hK, hN⟩, hG⟩ := hv
  have hx := B_.exec
  have hb := B_.bytes
  have hr := B_.returns
  have hts := atoms_spec (ws := w_P_write) B_.pre
  have ht : ∀ w ∈ xa, w.before _ s = true := fun w h => hts w (List.mem_cons_of_mem _ h)
  have hown : s.vm.findClass "SecurePair" = some m.cls := findClass_of_methodNamed B_.named
  have hlocks := B_.notSynchronized
  have hD := sp_D hα κ
  have hS : va_S (fun _ => False) s.heap s.heap [] := va_S.rf
  have hl := lv_entry ([.ref (α Z), .int x1, .int x2, .long x3, .int x4]) (n := 8) (Nat.le_of_ble_eq_true rfl)
  rw [lg_entry_eq]
  generalize (lg_sl ([.ref (α Z), .int x1, .int x2, .long x3, .int x4]) ++ List.replicate (8 - (lg_sl ([.ref (α Z), .int x1, .int x2, .long x3, .int x4])).length) Slot.unset).toArray = ls at hl ⊢
  have hl : lv_has ls 8 [(0, .ref (α Z)), (1, .int x1), (2, .int x2), (3, .long x3), (5, .int x4)] := hl
  refine lv_aload_n hx hb d_P_write_0 rfl (lv_at hl 0 rfl) ?_
  refine lv_iload_n hx hb d_P_write_1 rfl (lv_at hl 1 rfl) ?_
  by_cases hq1 : (th_P_endpointOrThrow Z x1 σ) = 0
  · skip
    rw [if_pos hq1] at hnt
    refine xn_cq (va_runV (As := [.int x1]) (rest := []) ⟨hx, hb, hml, hown, hts⟩ (n_P_endpointOrThrow l D α κ hα σ Z x1 iZ hq1) (cwV 1 hts (xa_V xw509 xw511 xs2 xw1 xw512) rfl rfl rfl (by decide +kernel) ⟨Nat.le_of_ble_eq_true rfl, Nat.le_of_ble_eq_true rfl⟩) ⟨sp_blind, va_recv hK hP rfl (sp_at_P iZ), sp_pre hP hK hN _⟩ rfl rfl hl.1 rfl (lv_room (Nat.le_of_ble_eq_true rfl)) d_P_write_2 ⟨Nat.le_of_ble_eq_true rfl, Nat.le_of_ble_eq_true rfl⟩) hS (fun H locs hP hS => ?_)
    obtain rfl := xn_nil hS
    rcases c1 : (p_eot Z x1 σ) with _ | K1
    · exact absurd c1 (p_eot_nn hq1)
    · skip
      have iK1 := p_eot_is iZ c1; have hlAK1 := sp_lnA_is iK1; have hlDK1 := sp_lnD_is iK1; have hlnK1 := sp_ln_ne iK1
      rw [xb_om_some c1] at hnt
      refine lv_astore (lv' := [(6, .ref (α K1)), (0, .ref (α Z)), (1, .int x1), (2, .int x2), (3, .long x3), (5, .int x4)]) hx hb d_P_write_5 hl (by decide) rfl (fun ls hl => ?_)
      refine lv_aload hx hb d_P_write_7 (lv_at hl 0 rfl) ?_
      refine lv_iload_n hx hb d_P_write_9 rfl (lv_at hl 3 rfl) ?_
      by_cases hq2 : (th_P_usableOrThrow K1 x2 σ) = 0
      · skip
        rw [if_pos hq2] at hnt
        refine xn_cq (va_runS (As := [.ref (α K1), .int x2]) (rest := []) ⟨hx, hb, hml, hown, hts⟩ (n_P_usableOrThrow l D α κ hα σ K1 x2 iK1 hq2) (cwS 2 hts (xa_S xw874 xw875 xw1 xw876) rfl rfl rfl (by decide +kernel) ⟨Nat.le_of_ble_eq_true rfl, Nat.le_of_ble_eq_true rfl⟩) ⟨sp_blind, sp_pre hP hK hN _⟩ rfl rfl hl.1 rfl (lv_room (Nat.le_of_ble_eq_true rfl)) d_P_write_10 ⟨Nat.le_of_ble_eq_true rfl, Nat.le_of_ble_eq_true rfl⟩) hS (fun H locs hP hS => ?_)
        obtain rfl := xn_nil hS
        rcases c2 : (p_uot K1 x2 σ) with _ | K2
        · exact absurd c2 (p_uot_nn hq2)
        · skip
          have iK2 := p_uot_is iK1 c2
          rw [xb_om_some c2] at hnt
          refine lv_astore (lv' := [(7, .ref (α K2)), (6, .ref (α K1)), (0, .ref (α Z)), (1, .int x1), (2, .int x2), (3, .long x3), (5, .int x4)]) hx hb d_P_write_13 hl (by decide) rfl (fun ls hl => ?_)
          refine lv_iload hx hb d_P_write_15 (lv_at hl 6 rfl) ?_
          refine lv_iconst (v := 1) hx hb d_P_write_17 (by decide) ?_
          refine lv_icmp_lt (tgt := 28) hx hb d_P_write_18 (by decide) (fun c3 => ?_) (fun c3 => ?_)
          · skip
            rw [if_pos c3] at hnt
            exact absurd hnt (by decide)
          · skip
            rw [if_neg c3] at hnt
            refine lv_iload hx hb d_P_write_21 (lv_at hl 6 rfl) ?_
            refine lv_bipush (v := 8) hx hb d_P_write_23 (by decide) ?_
            refine lv_icmp_le (tgt := 38) hx hb d_P_write_25 (by decide) (fun c4 => ?_) (fun c4 => ?_)
            · skip
              rw [if_pos c4] at hnt
              exact absurd hnt (by decide)
            · skip
              rw [if_neg c4] at hnt
              exact absurd hnt (by decide)
      · skip
        rw [if_neg hq2] at hnt
        exact xt_leave (xt_runS (As := [.ref (α K1), .int x2]) (rest := []) ⟨hx, hb, hml, hown, hts⟩ (t_P_usableOrThrow_2 l D α κ hα htr σ K1 x2 iK1 hnt) (cwS 2 hts (xa_S xw874 xw875 xw1 xw876) rfl rfl rfl (by decide +kernel) ⟨Nat.le_of_ble_eq_true rfl, Nat.le_of_ble_eq_true rfl⟩) ⟨st_blind, st_pre hP hK hN hG hS _⟩ rfl rfl hl.1 rfl (lv_room (Nat.le_of_ble_eq_true rfl)) d_P_write_10 ⟨by decide, by decide⟩) hte hlocks (by decide) (by decide)
  · skip
    rw [if_neg hq1] at hnt
    exact absurd hnt (th_P_endpointOrThrow_v2 Z x1 σ iZ)
set_option maxHeartbeats 4000000 in
set_option maxRecDepth 100000 in
theorem t_P_write_3 (l : Launch) (D : va_G) (α : Nat → Nat) (κ : Nat → ClassId) (hα : xb_inj α 35) (htr : l.stackTraces = false) (σ : xb_St) (Z : Nat) (x1 : Int32) (x2 : Int32) (x3 : Int64) (x4 : Int32) (iZ : sp_isP Z) (hnt : th_P_write Z x1 x2 x3 x4 σ = 3) : xt_Met l y_P_write w_P_write ({ frames := 8, cells := 1, slots := 6, locals := 134 }) (va_Pc ([.ref (α Z), .int x1, .int x2, .long x3, .int x4]) (st_Pre D α κ σ)) "java/lang/IllegalArgumentException" 1 6 := by
  unfold th_P_write at hnt
  refine xt_ofW (cc := b_P_write) (maxL := 8) (ret := (some .int)) (by decide) rfl ?_
  intro p e s m args below meth c s₁ B_ hml hte hv
  obtain ⟨rfl, ⟨hP, hK, hN⟩, hG⟩ := hv
  have hx := B_.exec
  have hb := B_.bytes
  have hr := B_.returns
  have hts := atoms_spec (ws := w_P_write) B_.pre
  have ht : ∀ w ∈ xa, w.before _ s = true := fun w h => hts w (List.mem_cons_of_mem _ h)
  have hown : s.vm.findClass "SecurePair" = some m.cls := findClass_of_methodNamed B_.named
  have hlocks := B_.notSynchronized
  have hD := sp_D hα κ
  have hS : va_S (fun _ => False) s.heap s.heap [] := va_S.rf
  have hl := lv_entry ([.ref (α Z), .int x1, .int x2, .long x3, .int x4]) (n := 8) (Nat.le_of_ble_eq_true rfl)
  rw [lg_entry_eq]
  generalize (lg_sl ([.ref (α Z), .int x1, .int x2, .long x3, .int x4]) ++ List.replicate (8 - (lg_sl ([.ref (α Z), .int x1, .int x2, .long x3, .int x4])).length) Slot.unset).toArray = ls at hl ⊢
  have hl : lv_has ls 8 [(0, .ref (α Z)), (1, .int x1), (2, .int x2), (3, .long x3), (5, .int x4)] := hl
  refine lv_aload_n hx hb d_P_write_0 rfl (lv_at hl 0 rfl) ?_
  refine lv_iload_n hx hb d_P_write_1 rfl (lv_at hl 1 rfl) ?_
  by_cases hq1 : (th_P_endpointOrThrow Z x1 σ) = 0
  · skip
    rw [if_pos hq1] at hnt
    refine xn_cq (va_runV (As := [.int x1]) (rest := []) ⟨hx, hb, hml, hown, hts⟩ (n_P_endpointOrThrow l D α κ hα σ Z x1 iZ hq1) (cwV 1 hts (xa_V xw509 xw511 xs2 xw1 xw512) rfl rfl rfl (by decide +kernel) ⟨Nat.le_of_ble_eq_true rfl, Nat.le_of_ble_eq_true rfl⟩) ⟨sp_blind, va_recv hK hP rfl (sp_at_P iZ), sp_pre hP hK hN _⟩ rfl rfl hl.1 rfl (lv_room (Nat.le_of_ble_eq_true rfl)) d_P_write_2 ⟨Nat.le_of_ble_eq_true rfl, Nat.le_of_ble_eq_true rfl⟩) hS (fun H locs hP hS => ?_)
    obtain rfl := xn_nil hS
    rcases c1 : (p_eot Z x1 σ) with _ | K1
    · exact absurd c1 (p_eot_nn hq1)
    · skip
      have iK1 := p_eot_is iZ c1; have hlAK1 := sp_lnA_is iK1; have hlDK1 := sp_lnD_is iK1; have hlnK1 := sp_ln_ne iK1
      rw [xb_om_some c1] at hnt
      refine lv_astore (lv' := [(6, .ref (α K1)), (0, .ref (α Z)), (1, .int x1), (2, .int x2), (3, .long x3), (5, .int x4)]) hx hb d_P_write_5 hl (by decide) rfl (fun ls hl => ?_)
      refine lv_aload hx hb d_P_write_7 (lv_at hl 0 rfl) ?_
      refine lv_iload_n hx hb d_P_write_9 rfl (lv_at hl 3 rfl) ?_
      by_cases hq2 : (th_P_usableOrThrow K1 x2 σ) = 0
      · skip
        rw [if_pos hq2] at hnt
        refine xn_cq (va_runS (As := [.ref (α K1), .int x2]) (rest := []) ⟨hx, hb, hml, hown, hts⟩ (n_P_usableOrThrow l D α κ hα σ K1 x2 iK1 hq2) (cwS 2 hts (xa_S xw874 xw875 xw1 xw876) rfl rfl rfl (by decide +kernel) ⟨Nat.le_of_ble_eq_true rfl, Nat.le_of_ble_eq_true rfl⟩) ⟨sp_blind, sp_pre hP hK hN _⟩ rfl rfl hl.1 rfl (lv_room (Nat.le_of_ble_eq_true rfl)) d_P_write_10 ⟨Nat.le_of_ble_eq_true rfl, Nat.le_of_ble_eq_true rfl⟩) hS (fun H locs hP hS => ?_)
        obtain rfl := xn_nil hS
        rcases c2 : (p_uot K1 x2 σ) with _ | K2
        · exact absurd c2 (p_uot_nn hq2)
        · skip
          have iK2 := p_uot_is iK1 c2
          rw [xb_om_some c2] at hnt
          refine lv_astore (lv' := [(7, .ref (α K2)), (6, .ref (α K1)), (0, .ref (α Z)), (1, .int x1), (2, .int x2), (3, .long x3), (5, .int x4)]) hx hb d_P_write_13 hl (by decide) rfl (fun ls hl => ?_)
          refine lv_iload hx hb d_P_write_15 (lv_at hl 6 rfl) ?_
          refine lv_iconst (v := 1) hx hb d_P_write_17 (by decide) ?_
          refine lv_icmp_lt (tgt := 28) hx hb d_P_write_18 (by decide) (fun c3 => ?_) (fun c3 => ?_)
          · skip
            rw [if_pos c3] at hnt
            obtain ⟨sa, hsa⟩ := hG.2.2.1 (127, "not 1 to 8 bytes") (by decide)
            exact xt_throw hx hb htr (own := "SecurePair") (text := "not 1 to 8 bytes") hown (by decide +kernel) (by decide +kernel) (ht _ xw888) (ht _ xw19) hsa.1 hsa.2 (xt_atoms [12, 535, 544, 549, 552, 554, 536, 537, 27, 28, 538, 543, 550, 570, 525, 571, 527, 572, 529, 539, 541, 531, 566, 567, 569, 531, 899, 900, 901, 560, 560, 561, 562, 563, 563, 564, 565, 566, 898, 889, 891, 546, 892, 893, 894, 895, 534, 533, 896] xt_g129 xt_b129 (by decide) ht hG) (hl.1.trans hml.symm) hte d_P_write_28 d_P_write_31 d_P_write_32 d_P_write_34 d_P_write_37 (by decide) (by decide) (by decide) (by decide) hlocks (by decide) (by decide) hS.1
          · skip
            rw [if_neg c3] at hnt
            refine lv_iload hx hb d_P_write_21 (lv_at hl 6 rfl) ?_
            refine lv_bipush (v := 8) hx hb d_P_write_23 (by decide) ?_
            refine lv_icmp_le (tgt := 38) hx hb d_P_write_25 (by decide) (fun c4 => ?_) (fun c4 => ?_)
            · skip
              rw [if_pos c4] at hnt
              exact absurd hnt (by decide)
            · skip
              rw [if_neg c4] at hnt
              obtain ⟨sa, hsa⟩ := hG.2.2.1 (127, "not 1 to 8 bytes") (by decide)
              exact xt_throw hx hb htr (own := "SecurePair") (text := "not 1 to 8 bytes") hown (by decide +kernel) (by decide +kernel) (ht _ xw888) (ht _ xw19) hsa.1 hsa.2 (xt_atoms [12, 535, 544, 549, 552, 554, 536, 537, 27, 28, 538, 543, 550, 570, 525, 571, 527, 572, 529, 539, 541, 531, 566, 567, 569, 531, 899, 900, 901, 560, 560, 561, 562, 563, 563, 564, 565, 566, 898, 889, 891, 546, 892, 893, 894, 895, 534, 533, 896] xt_g129 xt_b129 (by decide) ht hG) (hl.1.trans hml.symm) hte d_P_write_28 d_P_write_31 d_P_write_32 d_P_write_34 d_P_write_37 (by decide) (by decide) (by decide) (by decide) hlocks (by decide) (by decide) hS.1
      · skip
        rw [if_neg hq2] at hnt
        exact absurd hnt (th_P_usableOrThrow_v3 K1 x2 σ iK1)
  · skip
    rw [if_neg hq1] at hnt
    exact absurd hnt (th_P_endpointOrThrow_v3 Z x1 σ iZ)
abbrev b_P_read : ByteArray := prog_1_method_10_code
def y_P_read : MethodName := ⟨"SecurePair", "read", "(II)I"⟩
abbrev w_P_read : List Cond := .code y_P_read b_P_read 6 (some .int) :: xa
theorem d_P_read_0 : decode b_P_read 0 = .ok (.aload_n 0, 1) := by decide +kernel
theorem d_P_read_1 : decode b_P_read 1 = .ok (.iload_n 1, 1) := by decide +kernel
theorem d_P_read_2 : decode b_P_read 2 = .ok (.invokevirtual 64, 3) := by decide +kernel
theorem d_P_read_5 : decode b_P_read 5 = .ok (.astore_n 3, 1) := by decide +kernel
theorem d_P_read_6 : decode b_P_read 6 = .ok (.aload_n 3, 1) := by decide +kernel
theorem d_P_read_7 : decode b_P_read 7 = .ok (.iload_n 2, 1) := by decide +kernel
theorem d_P_read_8 : decode b_P_read 8 = .ok (.invokestatic 134, 3) := by decide +kernel
theorem d_P_read_11 : decode b_P_read 11 = .ok (.astore 4, 2) := by decide +kernel
theorem d_P_read_13 : decode b_P_read 13 = .ok (.aload 4, 2) := by decide +kernel
theorem d_P_read_15 : decode b_P_read 15 = .ok (.invokevirtual 137, 3) := by decide +kernel
theorem d_P_read_18 : decode b_P_read 18 = .ok (.istore 5, 2) := by decide +kernel
theorem d_P_read_20 : decode b_P_read 20 = .ok (.aload_n 3, 1) := by decide +kernel
theorem d_P_read_21 : decode b_P_read 21 = .ok (.aload 4, 2) := by decide +kernel
theorem d_P_read_23 : decode b_P_read 23 = .ok (.invokevirtual 140, 3) := by decide +kernel
theorem d_P_read_26 : decode b_P_read 26 = .ok (.iload 5, 2) := by decide +kernel
theorem d_P_read_28 : decode b_P_read 28 = .ok (.ireturn, 1) := by decide +kernel
theorem xw920 : (Cond.methodLink "SecurePair" (137 : Nat) ({ cls := "SecurePair$Channel", name := "takeByte", desc := "()I" } : MethodName)) ∈ xa := xa_t 920 (by decide +kernel) (by decide +kernel)
theorem xw921 : (Cond.instanceMethod ({ cls := "SecurePair$Channel", name := "takeByte", desc := "()I" } : MethodName)) ∈ xa := xa_t 921 (by decide +kernel) (by decide +kernel)
theorem xw922 : (Cond.selects "SecurePair$Channel" ({ cls := "SecurePair$Channel", name := "takeByte", desc := "()I" } : MethodName) ({ cls := "SecurePair$Channel", name := "takeByte", desc := "()I" } : MethodName)) ∈ xa := xa_t 922 (by decide +kernel) (by decide +kernel)
theorem xw923 : (Cond.code ({ cls := "SecurePair$Channel", name := "takeByte", desc := "()I" } : MethodName) prog_2_method_11_code (2 : Nat) (Option.some ClassFile.FieldType.int)) ∈ xa := xa_t 923 (by decide +kernel) (by decide +kernel)
theorem xw924 : (Cond.methodLink "SecurePair" (140 : Nat) ({ cls := "SecurePair$Endpoint", name := "makeRoom", desc := "(LSecurePair$Channel;)V" } : MethodName)) ∈ xa := xa_t 924 (by decide +kernel) (by decide +kernel)
theorem xw925 : (Cond.instanceMethod ({ cls := "SecurePair$Endpoint", name := "makeRoom", desc := "(LSecurePair$Channel;)V" } : MethodName)) ∈ xa := xa_t 925 (by decide +kernel) (by decide +kernel)
theorem xw926 : (Cond.sameMethod "SecurePair$Endpoint" "SecurePair$Endpoint" "makeRoom" "(LSecurePair$Channel;)V") ∈ xa := xa_t 926 (by decide +kernel) (by decide +kernel)
theorem xw927 : (Cond.selects "SecurePair$Client" ({ cls := "SecurePair$Endpoint", name := "makeRoom", desc := "(LSecurePair$Channel;)V" } : MethodName) ({ cls := "SecurePair$Endpoint", name := "makeRoom", desc := "(LSecurePair$Channel;)V" } : MethodName)) ∈ xa := xa_t 927 (by decide +kernel) (by decide +kernel)
theorem xw928 : (Cond.selects "SecurePair$Server" ({ cls := "SecurePair$Endpoint", name := "makeRoom", desc := "(LSecurePair$Channel;)V" } : MethodName) ({ cls := "SecurePair$Endpoint", name := "makeRoom", desc := "(LSecurePair$Channel;)V" } : MethodName)) ∈ xa := xa_t 928 (by decide +kernel) (by decide +kernel)
theorem xw929 : (Cond.code ({ cls := "SecurePair$Endpoint", name := "makeRoom", desc := "(LSecurePair$Channel;)V" } : MethodName) prog_4_method_25_code (3 : Nat) (Option.none : Option ClassFile.FieldType)) ∈ xa := xa_t 929 (by decide +kernel) (by decide +kernel)
def th_P_read (Z : Nat) (x1 : Int32) (x2 : Int32) (σ : xb_St) : Nat := (if (th_P_endpointOrThrow Z x1 σ) = 0 then (xb_om (p_eot Z x1 σ) 0 (fun K1 => (if (th_P_channelOrThrow K1 x2 σ) = 0 then 0 else (th_P_channelOrThrow K1 x2 σ)))) else (th_P_endpointOrThrow Z x1 σ))
def p_read (Z : Nat) (x1 : Int32) (x2 : Int32) (σ : xb_St) : Int32 × xb_St := (xb_om (p_eot Z x1 σ) (0, σ) (fun K1 => (xb_om (p_cot K1 x2 σ) (0, σ) (fun K2 => ((p_takeByte K2 σ).1, (p_makeRoom K1 K2 (p_takeByte K2 σ).2))))))
set_option maxHeartbeats 4000000 in
set_option maxRecDepth 100000 in
theorem c_P_read (l : Launch) (D : va_G) (α : Nat → Nat) (κ : Nat → ClassId) (hα : xb_inj α 35) (σ : xb_St) (Z : Nat) (x1 : Int32) (x2 : Int32) (iZ : sp_isP Z) (ok : sp_ok σ) (hnt : th_P_read Z x1 x2 σ = 0) : Met l y_P_read w_P_read ({ frames := 4, cells := 0, slots := 0, locals := 99 }) (va_Pc ([.ref (α Z), .int x1, .int x2]) (sp_Pre D α κ σ)) (va_Qi (fun r (u : xb_St) => r = (p_read Z x1 x2 σ).1 ∧ u = (p_read Z x1 x2 σ).2) (sp_B D α κ) (xb_A α 35)) 0 0 (xb_A α 35) := by
  unfold th_P_read at hnt
  refine Met.ofW (cc := b_P_read) (maxL := 6) (ret := (some .int)) (by decide) rfl ?_
  intro p e s m args below meth c s₁ B_ hml hv
  obtain ⟨rfl, hP, hK, hN⟩ := hv
  have hx := B_.exec
  have hb := B_.bytes
  have hr := B_.returns
  have hts := atoms_spec (ws := w_P_read) B_.pre
  have ht : ∀ w ∈ xa, w.before _ s = true := fun w h => hts w (List.mem_cons_of_mem _ h)
  have hown : s.vm.findClass "SecurePair" = some m.cls := findClass_of_methodNamed B_.named
  have hlocks := B_.notSynchronized
  have hD := sp_D hα κ
  have hS : va_S (xb_A α 35) s.heap s.heap [] := va_S.rf
  have hl := lv_entry ([.ref (α Z), .int x1, .int x2]) (n := 6) (Nat.le_of_ble_eq_true rfl)
  rw [lg_entry_eq]
  generalize (lg_sl ([.ref (α Z), .int x1, .int x2]) ++ List.replicate (6 - (lg_sl ([.ref (α Z), .int x1, .int x2])).length) Slot.unset).toArray = ls at hl ⊢
  have hl : lv_has ls 6 [(0, .ref (α Z)), (1, .int x1), (2, .int x2)] := hl
  refine lv_aload_n hx hb d_P_read_0 rfl (lv_at hl 0 rfl) ?_
  refine lv_iload_n hx hb d_P_read_1 rfl (lv_at hl 1 rfl) ?_
  have hq1 := xb_th0 hnt
  rw [if_pos hq1] at hnt
  refine xn_cq (va_runV (As := [.int x1]) (rest := []) ⟨hx, hb, hml, hown, hts⟩ (n_P_endpointOrThrow l D α κ hα σ Z x1 iZ hq1) (cwV 1 hts (xa_V xw509 xw511 xs2 xw1 xw512) rfl rfl rfl (by decide +kernel) ⟨Nat.le_of_ble_eq_true rfl, Nat.le_of_ble_eq_true rfl⟩) ⟨sp_blind, va_recv hK hP rfl (sp_at_P iZ), sp_pre hP hK hN _⟩ rfl rfl hl.1 rfl (lv_room (Nat.le_of_ble_eq_true rfl)) d_P_read_2 ⟨Nat.le_of_ble_eq_true rfl, Nat.le_of_ble_eq_true rfl⟩) hS (fun H locs hP hS => ?_)
  rcases c1 : (p_eot Z x1 σ) with _ | K1
  · exact absurd c1 (p_eot_nn hq1)
  · skip
    have iK1 := p_eot_is iZ c1; have hlAK1 := sp_lnA_is iK1; have hlDK1 := sp_lnD_is iK1; have hlnK1 := sp_ln_ne iK1
    rw [xb_om_some c1] at hnt
    refine lv_astore_n (lv' := [(3, .ref (α K1)), (0, .ref (α Z)), (1, .int x1), (2, .int x2)]) hx hb d_P_read_5 rfl hl (by decide) rfl (fun ls hl => ?_)
    refine lv_aload_n hx hb d_P_read_6 rfl (lv_at hl 0 rfl) ?_
    refine lv_iload_n hx hb d_P_read_7 rfl (lv_at hl 3 rfl) ?_
    have hq2 := xb_th0 hnt
    rw [if_pos hq2] at hnt
    refine xn_cq (va_runS (As := [.ref (α K1), .int x2]) (rest := []) ⟨hx, hb, hml, hown, hts⟩ (n_P_channelOrThrow l D α κ hα σ K1 x2 iK1 hq2) (cwS 2 hts (xa_S xw877 xw878 xw1 xw879) rfl rfl rfl (by decide +kernel) ⟨Nat.le_of_ble_eq_true rfl, Nat.le_of_ble_eq_true rfl⟩) ⟨sp_blind, sp_pre hP hK hN _⟩ rfl rfl hl.1 rfl (lv_room (Nat.le_of_ble_eq_true rfl)) d_P_read_8 ⟨Nat.le_of_ble_eq_true rfl, Nat.le_of_ble_eq_true rfl⟩) hS (fun H locs hP hS => ?_)
    rcases c2 : (p_cot K1 x2 σ) with _ | K2
    · exact absurd c2 (p_cot_nn hq2)
    · skip
      have iK2 := p_cot_is iK1 c2
      refine lv_astore (lv' := [(4, .ref (α K2)), (3, .ref (α K1)), (0, .ref (α Z)), (1, .int x1), (2, .int x2)]) hx hb d_P_read_11 hl (by decide) rfl (fun ls hl => ?_)
      refine lv_aload hx hb d_P_read_13 (lv_at hl 0 rfl) ?_
      refine sp_ci (va_runV (As := []) (rest := []) ⟨hx, hb, hml, hown, hts⟩ (c_Channel_takeByte l D α κ hα σ K2 iK2 ok) (cwV 0 hts (xa_V xw920 xw921 xw922 xw9 xw923) rfl rfl rfl (by decide +kernel) ⟨Nat.le_of_ble_eq_true rfl, Nat.le_of_ble_eq_true rfl⟩) ⟨sp_blind, va_recv hK hP rfl (sp_at_Channel iK2), sp_pre hP hK hN _⟩ rfl rfl hl.1 rfl (lv_room (Nat.le_of_ble_eq_true rfl)) d_P_read_15 ⟨Nat.le_of_ble_eq_true rfl, Nat.le_of_ble_eq_true rfl⟩) hS (fun _ h_ => h_) (fun H locs hP hS => ?_)
      obtain ⟨τ1, hτ1⟩ : ∃ t_, t_ = (p_takeByte K2 σ).2 := ⟨_, rfl⟩
      rw [← hτ1] at hP
      have okτ1 : sp_ok τ1 := by rw [hτ1]; exact (ok_p_takeByte K2 iK2 ok)
      obtain ⟨ρ1, hρ1⟩ : ∃ r_, r_ = (p_takeByte K2 σ).1 := ⟨_, rfl⟩
      refine xb_ti (y := ρ1) hρ1.symm ?_
      refine lv_istore (lv' := [(5, .int ρ1), (4, .ref (α K2)), (3, .ref (α K1)), (0, .ref (α Z)), (1, .int x1), (2, .int x2)]) hx hb d_P_read_18 hl (by decide) rfl (fun ls hl => ?_)
      refine lv_aload_n hx hb d_P_read_20 rfl (lv_at hl 2 rfl) ?_
      refine lv_aload hx hb d_P_read_21 (lv_at hl 1 rfl) ?_
      refine sp_cv (sp_runE (n := 1) (As := [.ref (α K2)]) (rest := []) ⟨hx, hb, hml, hown, hts⟩ (c_Endpoint_makeRoom l D α κ hα τ1 K1 K2 iK1 iK2 okτ1) iK1 xw924 xw926 xw927 xw928 xw925 xw3 xw929 rfl rfl rfl (by decide +kernel) ⟨Nat.le_of_ble_eq_true rfl, Nat.le_of_ble_eq_true rfl⟩ hP hK hN rfl rfl hl.1 rfl (lv_room (Nat.le_of_ble_eq_true rfl)) d_P_read_23 ⟨Nat.le_of_ble_eq_true rfl, Nat.le_of_ble_eq_true rfl⟩) hS (fun _ h_ => h_) (fun H locs hP hS => ?_)
      obtain ⟨τ2, hτ2⟩ : ∃ t_, t_ = (p_makeRoom K1 K2 τ1) := ⟨_, rfl⟩
      rw [← hτ2] at hP
      have okτ2 : sp_ok τ2 := by rw [hτ2]; exact (ok_p_makeRoom K1 K2 iK1 iK2 okτ1)
      refine lv_iload hx hb d_P_read_26 (lv_at hl 0 rfl) ?_
      exact W.iret (v := ρ1) hx hb hr (fun t ht_ hW => ⟨⟨ρ1, τ2, rfl, ⟨congrArg Prod.fst (((by subst hτ2; subst hρ1; subst hτ1; exact (by unfold p_read; rw [xb_om_some c1, xb_om_some c2]))) : (ρ1, τ2) = p_read Z x1 x2 σ), congrArg Prod.snd (((by subst hτ2; subst hρ1; subst hτ1; exact (by unfold p_read; rw [xb_om_some c1, xb_om_some c2]))) : (ρ1, τ2) = p_read Z x1 x2 σ)⟩, by rw [sp_B, ht_]; exact hP⟩, hS.F ht_⟩) hS.2.2 d_P_read_28
theorem ok_p_read {σ : xb_St} (Z : Nat) (x1 : Int32) (x2 : Int32) (iZ : sp_isP Z) (ok : sp_ok σ) (hnt : th_P_read Z x1 x2 σ = 0) : sp_ok (p_read Z x1 x2 σ).2 := by
  unfold th_P_read at hnt
  unfold p_read
  have hq1 := xb_th0 hnt
  rw [if_pos hq1] at hnt
  rcases c1 : (p_eot Z x1 σ) with _ | K1
  · exact absurd c1 (p_eot_nn hq1)
  · dsimp only [xb_om]
    have iK1 := p_eot_is iZ c1; have hlAK1 := sp_lnA_is iK1; have hlDK1 := sp_lnD_is iK1; have hlnK1 := sp_ln_ne iK1
    rw [xb_om_some c1] at hnt
    have hq2 := xb_th0 hnt
    rw [if_pos hq2] at hnt
    rcases c2 : (p_cot K1 x2 σ) with _ | K2
    · exact absurd c2 (p_cot_nn hq2)
    · dsimp only [xb_om]
      have iK2 := p_cot_is iK1 c2
      skip
      exact (ok_p_makeRoom K1 K2 iK1 iK2 (ok_p_takeByte K2 iK2 ok))
set_option maxHeartbeats 4000000 in
set_option maxRecDepth 100000 in
theorem t_P_read_1 (l : Launch) (D : va_G) (α : Nat → Nat) (κ : Nat → ClassId) (hα : xb_inj α 35) (htr : l.stackTraces = false) (σ : xb_St) (Z : Nat) (x1 : Int32) (x2 : Int32) (iZ : sp_isP Z) (hnt : th_P_read Z x1 x2 σ = 1) : xt_Met l y_P_read w_P_read ({ frames := 7, cells := 1, slots := 6, locals := 112 }) (va_Pc ([.ref (α Z), .int x1, .int x2]) (st_Pre D α κ σ)) "java/lang/IndexOutOfBoundsException" 1 6 := by
  unfold th_P_read at hnt
  refine xt_ofW (cc := b_P_read) (maxL := 6) (ret := (some .int)) (by decide) rfl ?_
  intro p e s m args below meth c s₁ B_ hml hte hv
  obtain ⟨rfl, ⟨hP, hK, hN⟩, hG⟩ := hv
  have hx := B_.exec
  have hb := B_.bytes
  have hr := B_.returns
  have hts := atoms_spec (ws := w_P_read) B_.pre
  have ht : ∀ w ∈ xa, w.before _ s = true := fun w h => hts w (List.mem_cons_of_mem _ h)
  have hown : s.vm.findClass "SecurePair" = some m.cls := findClass_of_methodNamed B_.named
  have hlocks := B_.notSynchronized
  have hD := sp_D hα κ
  have hS : va_S (fun _ => False) s.heap s.heap [] := va_S.rf
  have hl := lv_entry ([.ref (α Z), .int x1, .int x2]) (n := 6) (Nat.le_of_ble_eq_true rfl)
  rw [lg_entry_eq]
  generalize (lg_sl ([.ref (α Z), .int x1, .int x2]) ++ List.replicate (6 - (lg_sl ([.ref (α Z), .int x1, .int x2])).length) Slot.unset).toArray = ls at hl ⊢
  have hl : lv_has ls 6 [(0, .ref (α Z)), (1, .int x1), (2, .int x2)] := hl
  refine lv_aload_n hx hb d_P_read_0 rfl (lv_at hl 0 rfl) ?_
  refine lv_iload_n hx hb d_P_read_1 rfl (lv_at hl 1 rfl) ?_
  by_cases hq1 : (th_P_endpointOrThrow Z x1 σ) = 0
  · skip
    rw [if_pos hq1] at hnt
    refine xn_cq (va_runV (As := [.int x1]) (rest := []) ⟨hx, hb, hml, hown, hts⟩ (n_P_endpointOrThrow l D α κ hα σ Z x1 iZ hq1) (cwV 1 hts (xa_V xw509 xw511 xs2 xw1 xw512) rfl rfl rfl (by decide +kernel) ⟨Nat.le_of_ble_eq_true rfl, Nat.le_of_ble_eq_true rfl⟩) ⟨sp_blind, va_recv hK hP rfl (sp_at_P iZ), sp_pre hP hK hN _⟩ rfl rfl hl.1 rfl (lv_room (Nat.le_of_ble_eq_true rfl)) d_P_read_2 ⟨Nat.le_of_ble_eq_true rfl, Nat.le_of_ble_eq_true rfl⟩) hS (fun H locs hP hS => ?_)
    obtain rfl := xn_nil hS
    rcases c1 : (p_eot Z x1 σ) with _ | K1
    · exact absurd c1 (p_eot_nn hq1)
    · skip
      have iK1 := p_eot_is iZ c1; have hlAK1 := sp_lnA_is iK1; have hlDK1 := sp_lnD_is iK1; have hlnK1 := sp_ln_ne iK1
      rw [xb_om_some c1] at hnt
      refine lv_astore_n (lv' := [(3, .ref (α K1)), (0, .ref (α Z)), (1, .int x1), (2, .int x2)]) hx hb d_P_read_5 rfl hl (by decide) rfl (fun ls hl => ?_)
      refine lv_aload_n hx hb d_P_read_6 rfl (lv_at hl 0 rfl) ?_
      refine lv_iload_n hx hb d_P_read_7 rfl (lv_at hl 3 rfl) ?_
      by_cases hq2 : (th_P_channelOrThrow K1 x2 σ) = 0
      · skip
        rw [if_pos hq2] at hnt
        exact absurd hnt (by decide)
      · skip
        rw [if_neg hq2] at hnt
        exact xt_leave (xt_runS (As := [.ref (α K1), .int x2]) (rest := []) ⟨hx, hb, hml, hown, hts⟩ (t_P_channelOrThrow_1 l D α κ hα htr σ K1 x2 iK1 hnt) (cwS 2 hts (xa_S xw877 xw878 xw1 xw879) rfl rfl rfl (by decide +kernel) ⟨Nat.le_of_ble_eq_true rfl, Nat.le_of_ble_eq_true rfl⟩) ⟨st_blind, st_pre hP hK hN hG hS _⟩ rfl rfl hl.1 rfl (lv_room (Nat.le_of_ble_eq_true rfl)) d_P_read_8 ⟨by decide, by decide⟩) hte hlocks (by decide) (by decide)
  · skip
    rw [if_neg hq1] at hnt
    exact xt_leave (xt_runV (As := [.int x1]) (rest := []) ⟨hx, hb, hml, hown, hts⟩ (t_P_endpointOrThrow_1 l D α κ hα htr σ Z x1 iZ hnt) (cwV 1 hts (xa_V xw509 xw511 xs2 xw1 xw512) rfl rfl rfl (by decide +kernel) ⟨Nat.le_of_ble_eq_true rfl, Nat.le_of_ble_eq_true rfl⟩) ⟨st_blind, va_recv hK hP rfl (sp_at_P iZ), st_pre hP hK hN hG hS _⟩ rfl rfl hl.1 rfl (lv_room (Nat.le_of_ble_eq_true rfl)) d_P_read_2 ⟨by decide, by decide⟩) hte hlocks (by decide) (by decide)
abbrev b_P_close : ByteArray := prog_1_method_11_code
def y_P_close : MethodName := ⟨"SecurePair", "close", "(II)I"⟩
abbrev w_P_close : List Cond := .code y_P_close b_P_close 5 (some .int) :: xa
theorem d_P_close_0 : decode b_P_close 0 = .ok (.aload_n 0, 1) := by decide +kernel
theorem d_P_close_1 : decode b_P_close 1 = .ok (.iload_n 1, 1) := by decide +kernel
theorem d_P_close_2 : decode b_P_close 2 = .ok (.invokevirtual 64, 3) := by decide +kernel
theorem d_P_close_5 : decode b_P_close 5 = .ok (.astore_n 3, 1) := by decide +kernel
theorem d_P_close_6 : decode b_P_close 6 = .ok (.aload_n 3, 1) := by decide +kernel
theorem d_P_close_7 : decode b_P_close 7 = .ok (.iload_n 2, 1) := by decide +kernel
theorem d_P_close_8 : decode b_P_close 8 = .ok (.invokestatic 121, 3) := by decide +kernel
theorem d_P_close_11 : decode b_P_close 11 = .ok (.astore 4, 2) := by decide +kernel
theorem d_P_close_13 : decode b_P_close 13 = .ok (.aload_n 3, 1) := by decide +kernel
theorem d_P_close_14 : decode b_P_close 14 = .ok (.aload 4, 2) := by decide +kernel
theorem d_P_close_16 : decode b_P_close 16 = .ok (.invokevirtual 143, 3) := by decide +kernel
theorem d_P_close_19 : decode b_P_close 19 = .ok (.ireturn, 1) := by decide +kernel
theorem xw938 : (Cond.methodLink "SecurePair" (143 : Nat) ({ cls := "SecurePair$Endpoint", name := "shut", desc := "(LSecurePair$Channel;)I" } : MethodName)) ∈ xa := xa_t 938 (by decide +kernel) (by decide +kernel)
theorem xw939 : (Cond.instanceMethod ({ cls := "SecurePair$Endpoint", name := "shut", desc := "(LSecurePair$Channel;)I" } : MethodName)) ∈ xa := xa_t 939 (by decide +kernel) (by decide +kernel)
theorem xw940 : (Cond.sameMethod "SecurePair$Endpoint" "SecurePair$Endpoint" "shut" "(LSecurePair$Channel;)I") ∈ xa := xa_t 940 (by decide +kernel) (by decide +kernel)
theorem xw941 : (Cond.selects "SecurePair$Client" ({ cls := "SecurePair$Endpoint", name := "shut", desc := "(LSecurePair$Channel;)I" } : MethodName) ({ cls := "SecurePair$Endpoint", name := "shut", desc := "(LSecurePair$Channel;)I" } : MethodName)) ∈ xa := xa_t 941 (by decide +kernel) (by decide +kernel)
theorem xw942 : (Cond.selects "SecurePair$Server" ({ cls := "SecurePair$Endpoint", name := "shut", desc := "(LSecurePair$Channel;)I" } : MethodName) ({ cls := "SecurePair$Endpoint", name := "shut", desc := "(LSecurePair$Channel;)I" } : MethodName)) ∈ xa := xa_t 942 (by decide +kernel) (by decide +kernel)
theorem xw943 : (Cond.code ({ cls := "SecurePair$Endpoint", name := "shut", desc := "(LSecurePair$Channel;)I" } : MethodName) prog_4_method_26_code (3 : Nat) (Option.some ClassFile.FieldType.int)) ∈ xa := xa_t 943 (by decide +kernel) (by decide +kernel)
def th_P_close (Z : Nat) (x1 : Int32) (x2 : Int32) (σ : xb_St) : Nat := (if (th_P_endpointOrThrow Z x1 σ) = 0 then (xb_om (p_eot Z x1 σ) 0 (fun K1 => (if (th_P_usableOrThrow K1 x2 σ) = 0 then 0 else (th_P_usableOrThrow K1 x2 σ)))) else (th_P_endpointOrThrow Z x1 σ))
def p_close (Z : Nat) (x1 : Int32) (x2 : Int32) (σ : xb_St) : Int32 × xb_St := (xb_om (p_eot Z x1 σ) (0, σ) (fun K1 => (xb_om (p_uot K1 x2 σ) (0, σ) (fun K2 => ((p_shut K1 K2 σ).1, (p_shut K1 K2 σ).2)))))
set_option maxHeartbeats 4000000 in
set_option maxRecDepth 100000 in
theorem c_P_close (l : Launch) (D : va_G) (α : Nat → Nat) (κ : Nat → ClassId) (hα : xb_inj α 35) (σ : xb_St) (Z : Nat) (x1 : Int32) (x2 : Int32) (iZ : sp_isP Z) (ok : sp_ok σ) (hnt : th_P_close Z x1 x2 σ = 0) : Met l y_P_close w_P_close ({ frames := 4, cells := 0, slots := 0, locals := 99 }) (va_Pc ([.ref (α Z), .int x1, .int x2]) (sp_Pre D α κ σ)) (va_Qi (fun r (u : xb_St) => r = (p_close Z x1 x2 σ).1 ∧ u = (p_close Z x1 x2 σ).2) (sp_B D α κ) (xb_A α 35)) 0 0 (xb_A α 35) := by
  unfold th_P_close at hnt
  refine Met.ofW (cc := b_P_close) (maxL := 5) (ret := (some .int)) (by decide) rfl ?_
  intro p e s m args below meth c s₁ B_ hml hv
  obtain ⟨rfl, hP, hK, hN⟩ := hv
  have hx := B_.exec
  have hb := B_.bytes
  have hr := B_.returns
  have hts := atoms_spec (ws := w_P_close) B_.pre
  have ht : ∀ w ∈ xa, w.before _ s = true := fun w h => hts w (List.mem_cons_of_mem _ h)
  have hown : s.vm.findClass "SecurePair" = some m.cls := findClass_of_methodNamed B_.named
  have hlocks := B_.notSynchronized
  have hD := sp_D hα κ
  have hS : va_S (xb_A α 35) s.heap s.heap [] := va_S.rf
  have hl := lv_entry ([.ref (α Z), .int x1, .int x2]) (n := 5) (Nat.le_of_ble_eq_true rfl)
  rw [lg_entry_eq]
  generalize (lg_sl ([.ref (α Z), .int x1, .int x2]) ++ List.replicate (5 - (lg_sl ([.ref (α Z), .int x1, .int x2])).length) Slot.unset).toArray = ls at hl ⊢
  have hl : lv_has ls 5 [(0, .ref (α Z)), (1, .int x1), (2, .int x2)] := hl
  refine lv_aload_n hx hb d_P_close_0 rfl (lv_at hl 0 rfl) ?_
  refine lv_iload_n hx hb d_P_close_1 rfl (lv_at hl 1 rfl) ?_
  have hq1 := xb_th0 hnt
  rw [if_pos hq1] at hnt
  refine xn_cq (va_runV (As := [.int x1]) (rest := []) ⟨hx, hb, hml, hown, hts⟩ (n_P_endpointOrThrow l D α κ hα σ Z x1 iZ hq1) (cwV 1 hts (xa_V xw509 xw511 xs2 xw1 xw512) rfl rfl rfl (by decide +kernel) ⟨Nat.le_of_ble_eq_true rfl, Nat.le_of_ble_eq_true rfl⟩) ⟨sp_blind, va_recv hK hP rfl (sp_at_P iZ), sp_pre hP hK hN _⟩ rfl rfl hl.1 rfl (lv_room (Nat.le_of_ble_eq_true rfl)) d_P_close_2 ⟨Nat.le_of_ble_eq_true rfl, Nat.le_of_ble_eq_true rfl⟩) hS (fun H locs hP hS => ?_)
  rcases c1 : (p_eot Z x1 σ) with _ | K1
  · exact absurd c1 (p_eot_nn hq1)
  · skip
    have iK1 := p_eot_is iZ c1; have hlAK1 := sp_lnA_is iK1; have hlDK1 := sp_lnD_is iK1; have hlnK1 := sp_ln_ne iK1
    rw [xb_om_some c1] at hnt
    refine lv_astore_n (lv' := [(3, .ref (α K1)), (0, .ref (α Z)), (1, .int x1), (2, .int x2)]) hx hb d_P_close_5 rfl hl (by decide) rfl (fun ls hl => ?_)
    refine lv_aload_n hx hb d_P_close_6 rfl (lv_at hl 0 rfl) ?_
    refine lv_iload_n hx hb d_P_close_7 rfl (lv_at hl 3 rfl) ?_
    have hq2 := xb_th0 hnt
    rw [if_pos hq2] at hnt
    refine xn_cq (va_runS (As := [.ref (α K1), .int x2]) (rest := []) ⟨hx, hb, hml, hown, hts⟩ (n_P_usableOrThrow l D α κ hα σ K1 x2 iK1 hq2) (cwS 2 hts (xa_S xw874 xw875 xw1 xw876) rfl rfl rfl (by decide +kernel) ⟨Nat.le_of_ble_eq_true rfl, Nat.le_of_ble_eq_true rfl⟩) ⟨sp_blind, sp_pre hP hK hN _⟩ rfl rfl hl.1 rfl (lv_room (Nat.le_of_ble_eq_true rfl)) d_P_close_8 ⟨Nat.le_of_ble_eq_true rfl, Nat.le_of_ble_eq_true rfl⟩) hS (fun H locs hP hS => ?_)
    rcases c2 : (p_uot K1 x2 σ) with _ | K2
    · exact absurd c2 (p_uot_nn hq2)
    · skip
      have iK2 := p_uot_is iK1 c2
      refine lv_astore (lv' := [(4, .ref (α K2)), (3, .ref (α K1)), (0, .ref (α Z)), (1, .int x1), (2, .int x2)]) hx hb d_P_close_11 hl (by decide) rfl (fun ls hl => ?_)
      refine lv_aload_n hx hb d_P_close_13 rfl (lv_at hl 1 rfl) ?_
      refine lv_aload hx hb d_P_close_14 (lv_at hl 0 rfl) ?_
      refine sp_ci (sp_runE (n := 1) (As := [.ref (α K2)]) (rest := []) ⟨hx, hb, hml, hown, hts⟩ (c_Endpoint_shut l D α κ hα σ K1 K2 iK1 iK2 ok) iK1 xw938 xw940 xw941 xw942 xw939 xw3 xw943 rfl rfl rfl (by decide +kernel) ⟨Nat.le_of_ble_eq_true rfl, Nat.le_of_ble_eq_true rfl⟩ hP hK hN rfl rfl hl.1 rfl (lv_room (Nat.le_of_ble_eq_true rfl)) d_P_close_16 ⟨Nat.le_of_ble_eq_true rfl, Nat.le_of_ble_eq_true rfl⟩) hS (fun _ h_ => h_) (fun H locs hP hS => ?_)
      obtain ⟨τ1, hτ1⟩ : ∃ t_, t_ = (p_shut K1 K2 σ).2 := ⟨_, rfl⟩
      rw [← hτ1] at hP
      have okτ1 : sp_ok τ1 := by rw [hτ1]; exact (ok_p_shut K1 K2 iK1 iK2 ok)
      obtain ⟨ρ1, hρ1⟩ : ∃ r_, r_ = (p_shut K1 K2 σ).1 := ⟨_, rfl⟩
      refine xb_ti (y := ρ1) hρ1.symm ?_
      exact W.iret (v := ρ1) hx hb hr (fun t ht_ hW => ⟨⟨ρ1, τ1, rfl, ⟨congrArg Prod.fst (((by subst hρ1; subst hτ1; exact (by unfold p_close; rw [xb_om_some c1, xb_om_some c2]))) : (ρ1, τ1) = p_close Z x1 x2 σ), congrArg Prod.snd (((by subst hρ1; subst hτ1; exact (by unfold p_close; rw [xb_om_some c1, xb_om_some c2]))) : (ρ1, τ1) = p_close Z x1 x2 σ)⟩, by rw [sp_B, ht_]; exact hP⟩, hS.F ht_⟩) hS.2.2 d_P_close_19
theorem ok_p_close {σ : xb_St} (Z : Nat) (x1 : Int32) (x2 : Int32) (iZ : sp_isP Z) (ok : sp_ok σ) (hnt : th_P_close Z x1 x2 σ = 0) : sp_ok (p_close Z x1 x2 σ).2 := by
  unfold th_P_close at hnt
  unfold p_close
  have hq1 := xb_th0 hnt
  rw [if_pos hq1] at hnt
  rcases c1 : (p_eot Z x1 σ) with _ | K1
  · exact absurd c1 (p_eot_nn hq1)
  · dsimp only [xb_om]
    have iK1 := p_eot_is iZ c1; have hlAK1 := sp_lnA_is iK1; have hlDK1 := sp_lnD_is iK1; have hlnK1 := sp_ln_ne iK1
    rw [xb_om_some c1] at hnt
    have hq2 := xb_th0 hnt
    rw [if_pos hq2] at hnt
    rcases c2 : (p_uot K1 x2 σ) with _ | K2
    · exact absurd c2 (p_uot_nn hq2)
    · dsimp only [xb_om]
      have iK2 := p_uot_is iK1 c2
      skip
      exact (ok_p_shut K1 K2 iK1 iK2 ok)
set_option maxHeartbeats 4000000 in
set_option maxRecDepth 100000 in
theorem t_P_close_1 (l : Launch) (D : va_G) (α : Nat → Nat) (κ : Nat → ClassId) (hα : xb_inj α 35) (htr : l.stackTraces = false) (σ : xb_St) (Z : Nat) (x1 : Int32) (x2 : Int32) (iZ : sp_isP Z) (hnt : th_P_close Z x1 x2 σ = 1) : xt_Met l y_P_close w_P_close ({ frames := 8, cells := 1, slots := 6, locals := 134 }) (va_Pc ([.ref (α Z), .int x1, .int x2]) (st_Pre D α κ σ)) "java/lang/IndexOutOfBoundsException" 1 6 := by
  unfold th_P_close at hnt
  refine xt_ofW (cc := b_P_close) (maxL := 5) (ret := (some .int)) (by decide) rfl ?_
  intro p e s m args below meth c s₁ B_ hml hte hv
  obtain ⟨rfl, ⟨hP, hK, hN⟩, hG⟩ := hv
  have hx := B_.exec
  have hb := B_.bytes
  have hr := B_.returns
  have hts := atoms_spec (ws := w_P_close) B_.pre
  have ht : ∀ w ∈ xa, w.before _ s = true := fun w h => hts w (List.mem_cons_of_mem _ h)
  have hown : s.vm.findClass "SecurePair" = some m.cls := findClass_of_methodNamed B_.named
  have hlocks := B_.notSynchronized
  have hD := sp_D hα κ
  have hS : va_S (fun _ => False) s.heap s.heap [] := va_S.rf
  have hl := lv_entry ([.ref (α Z), .int x1, .int x2]) (n := 5) (Nat.le_of_ble_eq_true rfl)
  rw [lg_entry_eq]
  generalize (lg_sl ([.ref (α Z), .int x1, .int x2]) ++ List.replicate (5 - (lg_sl ([.ref (α Z), .int x1, .int x2])).length) Slot.unset).toArray = ls at hl ⊢
  have hl : lv_has ls 5 [(0, .ref (α Z)), (1, .int x1), (2, .int x2)] := hl
  refine lv_aload_n hx hb d_P_close_0 rfl (lv_at hl 0 rfl) ?_
  refine lv_iload_n hx hb d_P_close_1 rfl (lv_at hl 1 rfl) ?_
  by_cases hq1 : (th_P_endpointOrThrow Z x1 σ) = 0
  · skip
    rw [if_pos hq1] at hnt
    refine xn_cq (va_runV (As := [.int x1]) (rest := []) ⟨hx, hb, hml, hown, hts⟩ (n_P_endpointOrThrow l D α κ hα σ Z x1 iZ hq1) (cwV 1 hts (xa_V xw509 xw511 xs2 xw1 xw512) rfl rfl rfl (by decide +kernel) ⟨Nat.le_of_ble_eq_true rfl, Nat.le_of_ble_eq_true rfl⟩) ⟨sp_blind, va_recv hK hP rfl (sp_at_P iZ), sp_pre hP hK hN _⟩ rfl rfl hl.1 rfl (lv_room (Nat.le_of_ble_eq_true rfl)) d_P_close_2 ⟨Nat.le_of_ble_eq_true rfl, Nat.le_of_ble_eq_true rfl⟩) hS (fun H locs hP hS => ?_)
    obtain rfl := xn_nil hS
    rcases c1 : (p_eot Z x1 σ) with _ | K1
    · exact absurd c1 (p_eot_nn hq1)
    · skip
      have iK1 := p_eot_is iZ c1; have hlAK1 := sp_lnA_is iK1; have hlDK1 := sp_lnD_is iK1; have hlnK1 := sp_ln_ne iK1
      rw [xb_om_some c1] at hnt
      refine lv_astore_n (lv' := [(3, .ref (α K1)), (0, .ref (α Z)), (1, .int x1), (2, .int x2)]) hx hb d_P_close_5 rfl hl (by decide) rfl (fun ls hl => ?_)
      refine lv_aload_n hx hb d_P_close_6 rfl (lv_at hl 0 rfl) ?_
      refine lv_iload_n hx hb d_P_close_7 rfl (lv_at hl 3 rfl) ?_
      by_cases hq2 : (th_P_usableOrThrow K1 x2 σ) = 0
      · skip
        rw [if_pos hq2] at hnt
        exact absurd hnt (by decide)
      · skip
        rw [if_neg hq2] at hnt
        exact xt_leave (xt_runS (As := [.ref (α K1), .int x2]) (rest := []) ⟨hx, hb, hml, hown, hts⟩ (t_P_usableOrThrow_1 l D α κ hα htr σ K1 x2 iK1 hnt) (cwS 2 hts (xa_S xw874 xw875 xw1 xw876) rfl rfl rfl (by decide +kernel) ⟨Nat.le_of_ble_eq_true rfl, Nat.le_of_ble_eq_true rfl⟩) ⟨st_blind, st_pre hP hK hN hG hS _⟩ rfl rfl hl.1 rfl (lv_room (Nat.le_of_ble_eq_true rfl)) d_P_close_8 ⟨by decide, by decide⟩) hte hlocks (by decide) (by decide)
  · skip
    rw [if_neg hq1] at hnt
    exact xt_leave (xt_runV (As := [.int x1]) (rest := []) ⟨hx, hb, hml, hown, hts⟩ (t_P_endpointOrThrow_1 l D α κ hα htr σ Z x1 iZ hnt) (cwV 1 hts (xa_V xw509 xw511 xs2 xw1 xw512) rfl rfl rfl (by decide +kernel) ⟨Nat.le_of_ble_eq_true rfl, Nat.le_of_ble_eq_true rfl⟩) ⟨st_blind, va_recv hK hP rfl (sp_at_P iZ), st_pre hP hK hN hG hS _⟩ rfl rfl hl.1 rfl (lv_room (Nat.le_of_ble_eq_true rfl)) d_P_close_2 ⟨by decide, by decide⟩) hte hlocks (by decide) (by decide)
set_option maxHeartbeats 4000000 in
set_option maxRecDepth 100000 in
theorem t_P_close_2 (l : Launch) (D : va_G) (α : Nat → Nat) (κ : Nat → ClassId) (hα : xb_inj α 35) (htr : l.stackTraces = false) (σ : xb_St) (Z : Nat) (x1 : Int32) (x2 : Int32) (iZ : sp_isP Z) (hnt : th_P_close Z x1 x2 σ = 2) : xt_Met l y_P_close w_P_close ({ frames := 8, cells := 1, slots := 6, locals := 134 }) (va_Pc ([.ref (α Z), .int x1, .int x2]) (st_Pre D α κ σ)) "java/lang/IllegalStateException" 1 6 := by
  unfold th_P_close at hnt
  refine xt_ofW (cc := b_P_close) (maxL := 5) (ret := (some .int)) (by decide) rfl ?_
  intro p e s m args below meth c s₁ B_ hml hte hv
  obtain ⟨rfl, ⟨hP, hK, hN⟩, hG⟩ := hv
  have hx := B_.exec
  have hb := B_.bytes
  have hr := B_.returns
  have hts := atoms_spec (ws := w_P_close) B_.pre
  have ht : ∀ w ∈ xa, w.before _ s = true := fun w h => hts w (List.mem_cons_of_mem _ h)
  have hown : s.vm.findClass "SecurePair" = some m.cls := findClass_of_methodNamed B_.named
  have hlocks := B_.notSynchronized
  have hD := sp_D hα κ
  have hS : va_S (fun _ => False) s.heap s.heap [] := va_S.rf
  have hl := lv_entry ([.ref (α Z), .int x1, .int x2]) (n := 5) (Nat.le_of_ble_eq_true rfl)
  rw [lg_entry_eq]
  generalize (lg_sl ([.ref (α Z), .int x1, .int x2]) ++ List.replicate (5 - (lg_sl ([.ref (α Z), .int x1, .int x2])).length) Slot.unset).toArray = ls at hl ⊢
  have hl : lv_has ls 5 [(0, .ref (α Z)), (1, .int x1), (2, .int x2)] := hl
  refine lv_aload_n hx hb d_P_close_0 rfl (lv_at hl 0 rfl) ?_
  refine lv_iload_n hx hb d_P_close_1 rfl (lv_at hl 1 rfl) ?_
  by_cases hq1 : (th_P_endpointOrThrow Z x1 σ) = 0
  · skip
    rw [if_pos hq1] at hnt
    refine xn_cq (va_runV (As := [.int x1]) (rest := []) ⟨hx, hb, hml, hown, hts⟩ (n_P_endpointOrThrow l D α κ hα σ Z x1 iZ hq1) (cwV 1 hts (xa_V xw509 xw511 xs2 xw1 xw512) rfl rfl rfl (by decide +kernel) ⟨Nat.le_of_ble_eq_true rfl, Nat.le_of_ble_eq_true rfl⟩) ⟨sp_blind, va_recv hK hP rfl (sp_at_P iZ), sp_pre hP hK hN _⟩ rfl rfl hl.1 rfl (lv_room (Nat.le_of_ble_eq_true rfl)) d_P_close_2 ⟨Nat.le_of_ble_eq_true rfl, Nat.le_of_ble_eq_true rfl⟩) hS (fun H locs hP hS => ?_)
    obtain rfl := xn_nil hS
    rcases c1 : (p_eot Z x1 σ) with _ | K1
    · exact absurd c1 (p_eot_nn hq1)
    · skip
      have iK1 := p_eot_is iZ c1; have hlAK1 := sp_lnA_is iK1; have hlDK1 := sp_lnD_is iK1; have hlnK1 := sp_ln_ne iK1
      rw [xb_om_some c1] at hnt
      refine lv_astore_n (lv' := [(3, .ref (α K1)), (0, .ref (α Z)), (1, .int x1), (2, .int x2)]) hx hb d_P_close_5 rfl hl (by decide) rfl (fun ls hl => ?_)
      refine lv_aload_n hx hb d_P_close_6 rfl (lv_at hl 0 rfl) ?_
      refine lv_iload_n hx hb d_P_close_7 rfl (lv_at hl 3 rfl) ?_
      by_cases hq2 : (th_P_usableOrThrow K1 x2 σ) = 0
      · skip
        rw [if_pos hq2] at hnt
        exact absurd hnt (by decide)
      · skip
        rw [if_neg hq2] at hnt
        exact xt_leave (xt_runS (As := [.ref (α K1), .int x2]) (rest := []) ⟨hx, hb, hml, hown, hts⟩ (t_P_usableOrThrow_2 l D α κ hα htr σ K1 x2 iK1 hnt) (cwS 2 hts (xa_S xw874 xw875 xw1 xw876) rfl rfl rfl (by decide +kernel) ⟨Nat.le_of_ble_eq_true rfl, Nat.le_of_ble_eq_true rfl⟩) ⟨st_blind, st_pre hP hK hN hG hS _⟩ rfl rfl hl.1 rfl (lv_room (Nat.le_of_ble_eq_true rfl)) d_P_close_8 ⟨by decide, by decide⟩) hte hlocks (by decide) (by decide)
  · skip
    rw [if_neg hq1] at hnt
    exact absurd hnt (th_P_endpointOrThrow_v2 Z x1 σ iZ)
