abbrev b_P_begin : ByteArray := prog_1_method_6_code
def y_P_begin : MethodName := ⟨"SecurePair", "begin", "(I)I"⟩
abbrev w_P_begin : List Cond := .code y_P_begin b_P_begin 3 (some .int) :: xa
theorem d_P_begin_0 : decode b_P_begin 0 = .ok (.aload_n 0, 1) := by decide +kernel
theorem d_P_begin_1 : decode b_P_begin 1 = .ok (.iload_n 1, 1) := by decide +kernel
theorem d_P_begin_2 : decode b_P_begin 2 = .ok (.invokevirtual 64, 3) := by decide +kernel
theorem d_P_begin_5 : decode b_P_begin 5 = .ok (.astore_n 2, 1) := by decide +kernel
theorem d_P_begin_6 : decode b_P_begin 6 = .ok (.aload_n 2, 1) := by decide +kernel
theorem d_P_begin_7 : decode b_P_begin 7 = .ok (.invokevirtual 67, 3) := by decide +kernel
theorem d_P_begin_10 : decode b_P_begin 10 = .ok (.ifCond .ne 13, 3) := by decide +kernel
theorem d_P_begin_13 : decode b_P_begin 13 = .ok (.new 71, 3) := by decide +kernel
theorem d_P_begin_16 : decode b_P_begin 16 = .ok (.dup, 1) := by decide +kernel
theorem d_P_begin_17 : decode b_P_begin 17 = .ok (.ldc 73, 2) := by decide +kernel
theorem d_P_begin_19 : decode b_P_begin 19 = .ok (.invokespecial 75, 3) := by decide +kernel
theorem d_P_begin_22 : decode b_P_begin 22 = .ok (.athrow, 1) := by decide +kernel
theorem d_P_begin_23 : decode b_P_begin 23 = .ok (.aload_n 2, 1) := by decide +kernel
theorem d_P_begin_24 : decode b_P_begin 24 = .ok (.invokevirtual 78, 3) := by decide +kernel
theorem d_P_begin_27 : decode b_P_begin 27 = .ok (.aload_n 2, 1) := by decide +kernel
theorem d_P_begin_28 : decode b_P_begin 28 = .ok (.getfield 81, 3) := by decide +kernel
theorem d_P_begin_31 : decode b_P_begin 31 = .ok (.ireturn, 1) := by decide +kernel
theorem xw260 : (Cond.fieldLink "SecurePair" (81 : Nat) "SecurePair$Endpoint" "initsSent" "I") ∈ xa := xa_t 260 (by decide +kernel) (by decide +kernel)
theorem xw509 : (Cond.methodLink "SecurePair" (64 : Nat) ({ cls := "SecurePair", name := "endpointOrThrow", desc := "(I)LSecurePair$Endpoint;" } : MethodName)) ∈ xa := xa_t 509 (by decide +kernel) (by decide +kernel)
theorem xw511 : (Cond.instanceMethod ({ cls := "SecurePair", name := "endpointOrThrow", desc := "(I)LSecurePair$Endpoint;" } : MethodName)) ∈ xa := xa_t 511 (by decide +kernel) (by decide +kernel)
theorem xw512 : (Cond.code ({ cls := "SecurePair", name := "endpointOrThrow", desc := "(I)LSecurePair$Endpoint;" } : MethodName) prog_1_method_26_code (3 : Nat) (Option.some (ClassFile.FieldType.object "SecurePair$Endpoint"))) ∈ xa := xa_t 512 (by decide +kernel) (by decide +kernel)
theorem xw582 : (Cond.methodLink "SecurePair" (67 : Nat) ({ cls := "SecurePair$Endpoint", name := "mayStart", desc := "()Z" } : MethodName)) ∈ xa := xa_t 582 (by decide +kernel) (by decide +kernel)
theorem xw604 : (Cond.methodLink "SecurePair" (78 : Nat) ({ cls := "SecurePair$Endpoint", name := "start", desc := "()V" } : MethodName)) ∈ xa := xa_t 604 (by decide +kernel) (by decide +kernel)
theorem xs2 : (Cond.selects "SecurePair" ⟨"SecurePair", "endpointOrThrow", "(I)LSecurePair$Endpoint;"⟩ ⟨"SecurePair", "endpointOrThrow", "(I)LSecurePair$Endpoint;"⟩) ∈ xa := xa_s 2 (by decide +kernel) (by decide +kernel)
def th_P_begin (Z : Nat) (x1 : Int32) (σ : xb_St) : Nat := (if (th_P_endpointOrThrow Z x1 σ) = 0 then (xb_om (p_eot Z x1 σ) 0 (fun K1 => (if (p_mayStart K1 σ) = 0 then 2 else 0))) else (th_P_endpointOrThrow Z x1 σ))
def p_begin (Z : Nat) (x1 : Int32) (σ : xb_St) : Int32 × xb_St := (xb_om (p_eot Z x1 σ) (0, σ) (fun K1 => (if (p_mayStart K1 σ) = 0 then (0, σ) else (((p_start K1 σ).1 K1 14), (p_start K1 σ)))))
set_option maxHeartbeats 4000000 in
set_option maxRecDepth 100000 in
theorem c_P_begin (l : Launch) (D : va_G) (α : Nat → Nat) (κ : Nat → ClassId) (hα : xb_inj α 35) (σ : xb_St) (Z : Nat) (x1 : Int32) (iZ : sp_isP Z) (ok : sp_ok σ) (hnt : th_P_begin Z x1 σ = 0) : Met l y_P_begin w_P_begin ({ frames := 4, cells := 0, slots := 0, locals := 97 }) (va_Pc ([.ref (α Z), .int x1]) (sp_Pre D α κ σ)) (va_Qi (fun r (u : xb_St) => r = (p_begin Z x1 σ).1 ∧ u = (p_begin Z x1 σ).2) (sp_B D α κ) (xb_A α 35)) 0 0 (xb_A α 35) := by
  unfold th_P_begin at hnt
  refine Met.ofW (cc := b_P_begin) (maxL := 3) (ret := (some .int)) (by decide) rfl ?_
  intro p e s m args below meth c s₁ B_ hml hv
  obtain ⟨rfl, hP, hK, hN⟩ := hv
  have hx := B_.exec
  have hb := B_.bytes
  have hr := B_.returns
  have hts := atoms_spec (ws := w_P_begin) B_.pre
  have ht : ∀ w ∈ xa, w.before _ s = true := fun w h => hts w (List.mem_cons_of_mem _ h)
  have hown : s.vm.findClass "SecurePair" = some m.cls := findClass_of_methodNamed B_.named
  have hlocks := B_.notSynchronized
  have hD := sp_D hα κ
  have hS : va_S (xb_A α 35) s.heap s.heap [] := va_S.rf
  have hl := lv_entry ([.ref (α Z), .int x1]) (n := 3) (Nat.le_of_ble_eq_true rfl)
  rw [lg_entry_eq]
  generalize (lg_sl ([.ref (α Z), .int x1]) ++ List.replicate (3 - (lg_sl ([.ref (α Z), .int x1])).length) Slot.unset).toArray = ls at hl ⊢
  have hl : lv_has ls 3 [(0, .ref (α Z)), (1, .int x1)] := hl
  refine lv_aload_n hx hb d_P_begin_0 rfl (lv_at hl 0 rfl) ?_
  refine lv_iload_n hx hb d_P_begin_1 rfl (lv_at hl 1 rfl) ?_
  have hq1 := xb_th0 hnt
  rw [if_pos hq1] at hnt
  refine xn_cq (va_runV (As := [.int x1]) (rest := []) ⟨hx, hb, hml, hown, hts⟩ (n_P_endpointOrThrow l D α κ hα σ Z x1 iZ hq1) (cwV 1 hts (xa_V xw509 xw511 xs2 xw1 xw512) rfl rfl rfl (by decide +kernel) ⟨Nat.le_of_ble_eq_true rfl, Nat.le_of_ble_eq_true rfl⟩) ⟨sp_blind, va_recv hK hP rfl (sp_at_P iZ), sp_pre hP hK hN _⟩ rfl rfl hl.1 rfl (lv_room (Nat.le_of_ble_eq_true rfl)) d_P_begin_2 ⟨Nat.le_of_ble_eq_true rfl, Nat.le_of_ble_eq_true rfl⟩) hS (fun H locs hP hS => ?_)
  rcases c1 : (p_eot Z x1 σ) with _ | K1
  · exact absurd c1 (p_eot_nn hq1)
  · skip
    have iK1 := p_eot_is iZ c1; have hlAK1 := sp_lnA_is iK1; have hlDK1 := sp_lnD_is iK1; have hlnK1 := sp_ln_ne iK1
    rw [xb_om_some c1] at hnt
    refine lv_astore_n (lv' := [(2, .ref (α K1)), (0, .ref (α Z)), (1, .int x1)]) hx hb d_P_begin_5 rfl hl (by decide) rfl (fun ls hl => ?_)
    refine lv_aload_n hx hb d_P_begin_6 rfl (lv_at hl 0 rfl) ?_
    refine sp_ci (sp_runE (n := 0) (As := []) (rest := []) ⟨hx, hb, hml, hown, hts⟩ (c_Endpoint_mayStart l D α κ hα σ K1 iK1) iK1 xw582 xw584 xw585 xw586 xw583 xw3 xw587 rfl rfl rfl (by decide +kernel) ⟨Nat.le_of_ble_eq_true rfl, Nat.le_of_ble_eq_true rfl⟩ hP hK hN rfl rfl hl.1 rfl (lv_room (Nat.le_of_ble_eq_true rfl)) d_P_begin_7 ⟨Nat.le_of_ble_eq_true rfl, Nat.le_of_ble_eq_true rfl⟩) hS (fun _ h_ => h_) (fun H locs hP hS => ?_)
    refine lv_if_ne (tgt := 23) hx hb d_P_begin_10 (by decide) (fun c2 => ?_) (fun c2 => ?_)
    · skip
      rw [if_neg c2] at hnt
      refine lv_aload_n hx hb d_P_begin_23 rfl (lv_at hl 0 rfl) ?_
      refine sp_cv (sp_runE (n := 0) (As := []) (rest := []) ⟨hx, hb, hml, hown, hts⟩ (c_Endpoint_start l D α κ hα σ K1 iK1 ok) iK1 xw604 xw606 xw607 xw608 xw605 xw3 xw609 rfl rfl rfl (by decide +kernel) ⟨Nat.le_of_ble_eq_true rfl, Nat.le_of_ble_eq_true rfl⟩ hP hK hN rfl rfl hl.1 rfl (lv_room (Nat.le_of_ble_eq_true rfl)) d_P_begin_24 ⟨Nat.le_of_ble_eq_true rfl, Nat.le_of_ble_eq_true rfl⟩) hS (fun _ h_ => h_) (fun H locs hP hS => ?_)
      obtain ⟨τ1, hτ1⟩ : ∃ t_, t_ = (p_start K1 σ) := ⟨_, rfl⟩
      rw [← hτ1] at hP
      have okτ1 : sp_ok τ1 := by rw [hτ1]; exact (ok_p_start K1 iK1 ok)
      refine lv_aload_n hx hb d_P_begin_27 rfl (lv_at hl 0 rfl) ?_
      refine sp_g_Endpoint (v := .int (τ1.1 K1 14)) hx hb ht hown hK hP iK1 14 (by decide) (ht _ xw260) (fun _ h_ => h_) rfl d_P_begin_28 ?_
      exact W.iret (v := (τ1.1 K1 14)) hx hb hr (fun t ht_ hW => ⟨⟨(τ1.1 K1 14), τ1, rfl, ⟨congrArg Prod.fst (((by subst hτ1; exact (by unfold p_begin; rw [xb_om_some c1, if_neg c2]))) : ((τ1.1 K1 14), τ1) = p_begin Z x1 σ), congrArg Prod.snd (((by subst hτ1; exact (by unfold p_begin; rw [xb_om_some c1, if_neg c2]))) : ((τ1.1 K1 14), τ1) = p_begin Z x1 σ)⟩, by rw [sp_B, ht_]; exact hP⟩, hS.F ht_⟩) hS.2.2 d_P_begin_31
    · skip
      rw [if_pos c2] at hnt
      exact absurd hnt (by decide)
theorem ok_p_begin {σ : xb_St} (Z : Nat) (x1 : Int32) (iZ : sp_isP Z) (ok : sp_ok σ) (hnt : th_P_begin Z x1 σ = 0) : sp_ok (p_begin Z x1 σ).2 := by
  unfold th_P_begin at hnt
  unfold p_begin
  have hq1 := xb_th0 hnt
  rw [if_pos hq1] at hnt
  rcases c1 : (p_eot Z x1 σ) with _ | K1
  · exact absurd c1 (p_eot_nn hq1)
  · dsimp only [xb_om]
    have iK1 := p_eot_is iZ c1; have hlAK1 := sp_lnA_is iK1; have hlDK1 := sp_lnD_is iK1; have hlnK1 := sp_ln_ne iK1
    rw [xb_om_some c1] at hnt
    by_cases c2 : (p_mayStart K1 σ) = 0
    · rw [if_pos c2]
      rw [if_pos c2] at hnt
      exact absurd hnt (by decide)
    · rw [if_neg c2]
      rw [if_neg c2] at hnt
      exact (ok_p_start K1 iK1 ok)
set_option maxHeartbeats 4000000 in
set_option maxRecDepth 100000 in
theorem t_P_begin_1 (l : Launch) (D : va_G) (α : Nat → Nat) (κ : Nat → ClassId) (hα : xb_inj α 35) (htr : l.stackTraces = false) (σ : xb_St) (Z : Nat) (x1 : Int32) (iZ : sp_isP Z) (hnt : th_P_begin Z x1 σ = 1) : xt_Met l y_P_begin w_P_begin ({ frames := 7, cells := 1, slots := 6, locals := 112 }) (va_Pc ([.ref (α Z), .int x1]) (st_Pre D α κ σ)) "java/lang/IndexOutOfBoundsException" 1 6 := by
  unfold th_P_begin at hnt
  refine xt_ofW (cc := b_P_begin) (maxL := 3) (ret := (some .int)) (by decide) rfl ?_
  intro p e s m args below meth c s₁ B_ hml hte hv
  obtain ⟨rfl, ⟨hP, hK, hN⟩, hG⟩ := hv
  have hx := B_.exec
  have hb := B_.bytes
  have hr := B_.returns
  have hts := atoms_spec (ws := w_P_begin) B_.pre
  have ht : ∀ w ∈ xa, w.before _ s = true := fun w h => hts w (List.mem_cons_of_mem _ h)
  have hown : s.vm.findClass "SecurePair" = some m.cls := findClass_of_methodNamed B_.named
  have hlocks := B_.notSynchronized
  have hD := sp_D hα κ
  have hS : va_S (fun _ => False) s.heap s.heap [] := va_S.rf
  have hl := lv_entry ([.ref (α Z), .int x1]) (n := 3) (Nat.le_of_ble_eq_true rfl)
  rw [lg_entry_eq]
  generalize (lg_sl ([.ref (α Z), .int x1]) ++ List.replicate (3 - (lg_sl ([.ref (α Z), .int x1])).length) Slot.unset).toArray = ls at hl ⊢
  have hl : lv_has ls 3 [(0, .ref (α Z)), (1, .int x1)] := hl
  refine lv_aload_n hx hb d_P_begin_0 rfl (lv_at hl 0 rfl) ?_
  refine lv_iload_n hx hb d_P_begin_1 rfl (lv_at hl 1 rfl) ?_
  by_cases hq1 : (th_P_endpointOrThrow Z x1 σ) = 0
  · skip
    rw [if_pos hq1] at hnt
    refine xn_cq (va_runV (As := [.int x1]) (rest := []) ⟨hx, hb, hml, hown, hts⟩ (n_P_endpointOrThrow l D α κ hα σ Z x1 iZ hq1) (cwV 1 hts (xa_V xw509 xw511 xs2 xw1 xw512) rfl rfl rfl (by decide +kernel) ⟨Nat.le_of_ble_eq_true rfl, Nat.le_of_ble_eq_true rfl⟩) ⟨sp_blind, va_recv hK hP rfl (sp_at_P iZ), sp_pre hP hK hN _⟩ rfl rfl hl.1 rfl (lv_room (Nat.le_of_ble_eq_true rfl)) d_P_begin_2 ⟨Nat.le_of_ble_eq_true rfl, Nat.le_of_ble_eq_true rfl⟩) hS (fun H locs hP hS => ?_)
    obtain rfl := xn_nil hS
    rcases c1 : (p_eot Z x1 σ) with _ | K1
    · exact absurd c1 (p_eot_nn hq1)
    · skip
      have iK1 := p_eot_is iZ c1; have hlAK1 := sp_lnA_is iK1; have hlDK1 := sp_lnD_is iK1; have hlnK1 := sp_ln_ne iK1
      rw [xb_om_some c1] at hnt
      refine lv_astore_n (lv' := [(2, .ref (α K1)), (0, .ref (α Z)), (1, .int x1)]) hx hb d_P_begin_5 rfl hl (by decide) rfl (fun ls hl => ?_)
      refine lv_aload_n hx hb d_P_begin_6 rfl (lv_at hl 0 rfl) ?_
      refine xn_ci (sp_runE (n := 0) (As := []) (rest := []) ⟨hx, hb, hml, hown, hts⟩ (n_Endpoint_mayStart l D α κ hα σ K1 iK1) iK1 xw582 xw584 xw585 xw586 xw583 xw3 xw587 rfl rfl rfl (by decide +kernel) ⟨Nat.le_of_ble_eq_true rfl, Nat.le_of_ble_eq_true rfl⟩ hP hK hN rfl rfl hl.1 rfl (lv_room (Nat.le_of_ble_eq_true rfl)) d_P_begin_7 ⟨Nat.le_of_ble_eq_true rfl, Nat.le_of_ble_eq_true rfl⟩) hS (fun H locs hP hS => ?_)
      obtain rfl := xn_nil hS
      refine lv_if_ne (tgt := 23) hx hb d_P_begin_10 (by decide) (fun c2 => ?_) (fun c2 => ?_)
      · skip
        rw [if_neg c2] at hnt
        exact absurd hnt (by decide)
      · skip
        rw [if_pos c2] at hnt
        exact absurd hnt (by decide)
  · skip
    rw [if_neg hq1] at hnt
    exact xt_leave (xt_runV (As := [.int x1]) (rest := []) ⟨hx, hb, hml, hown, hts⟩ (t_P_endpointOrThrow_1 l D α κ hα htr σ Z x1 iZ hnt) (cwV 1 hts (xa_V xw509 xw511 xs2 xw1 xw512) rfl rfl rfl (by decide +kernel) ⟨Nat.le_of_ble_eq_true rfl, Nat.le_of_ble_eq_true rfl⟩) ⟨st_blind, va_recv hK hP rfl (sp_at_P iZ), st_pre hP hK hN hG hS _⟩ rfl rfl hl.1 rfl (lv_room (Nat.le_of_ble_eq_true rfl)) d_P_begin_2 ⟨by decide, by decide⟩) hte hlocks (by decide) (by decide)
set_option maxHeartbeats 4000000 in
set_option maxRecDepth 100000 in
theorem t_P_begin_2 (l : Launch) (D : va_G) (α : Nat → Nat) (κ : Nat → ClassId) (hα : xb_inj α 35) (htr : l.stackTraces = false) (σ : xb_St) (Z : Nat) (x1 : Int32) (iZ : sp_isP Z) (hnt : th_P_begin Z x1 σ = 2) : xt_Met l y_P_begin w_P_begin ({ frames := 7, cells := 1, slots := 6, locals := 112 }) (va_Pc ([.ref (α Z), .int x1]) (st_Pre D α κ σ)) "java/lang/IllegalStateException" 1 6 := by
  unfold th_P_begin at hnt
  refine xt_ofW (cc := b_P_begin) (maxL := 3) (ret := (some .int)) (by decide) rfl ?_
  intro p e s m args below meth c s₁ B_ hml hte hv
  obtain ⟨rfl, ⟨hP, hK, hN⟩, hG⟩ := hv
  have hx := B_.exec
  have hb := B_.bytes
  have hr := B_.returns
  have hts := atoms_spec (ws := w_P_begin) B_.pre
  have ht : ∀ w ∈ xa, w.before _ s = true := fun w h => hts w (List.mem_cons_of_mem _ h)
  have hown : s.vm.findClass "SecurePair" = some m.cls := findClass_of_methodNamed B_.named
  have hlocks := B_.notSynchronized
  have hD := sp_D hα κ
  have hS : va_S (fun _ => False) s.heap s.heap [] := va_S.rf
  have hl := lv_entry ([.ref (α Z), .int x1]) (n := 3) (Nat.le_of_ble_eq_true rfl)
  rw [lg_entry_eq]
  generalize (lg_sl ([.ref (α Z), .int x1]) ++ List.replicate (3 - (lg_sl ([.ref (α Z), .int x1])).length) Slot.unset).toArray = ls at hl ⊢
  have hl : lv_has ls 3 [(0, .ref (α Z)), (1, .int x1)] := hl
  refine lv_aload_n hx hb d_P_begin_0 rfl (lv_at hl 0 rfl) ?_
  refine lv_iload_n hx hb d_P_begin_1 rfl (lv_at hl 1 rfl) ?_
  by_cases hq1 : (th_P_endpointOrThrow Z x1 σ) = 0
  · skip
    rw [if_pos hq1] at hnt
    refine xn_cq (va_runV (As := [.int x1]) (rest := []) ⟨hx, hb, hml, hown, hts⟩ (n_P_endpointOrThrow l D α κ hα σ Z x1 iZ hq1) (cwV 1 hts (xa_V xw509 xw511 xs2 xw1 xw512) rfl rfl rfl (by decide +kernel) ⟨Nat.le_of_ble_eq_true rfl, Nat.le_of_ble_eq_true rfl⟩) ⟨sp_blind, va_recv hK hP rfl (sp_at_P iZ), sp_pre hP hK hN _⟩ rfl rfl hl.1 rfl (lv_room (Nat.le_of_ble_eq_true rfl)) d_P_begin_2 ⟨Nat.le_of_ble_eq_true rfl, Nat.le_of_ble_eq_true rfl⟩) hS (fun H locs hP hS => ?_)
    obtain rfl := xn_nil hS
    rcases c1 : (p_eot Z x1 σ) with _ | K1
    · exact absurd c1 (p_eot_nn hq1)
    · skip
      have iK1 := p_eot_is iZ c1; have hlAK1 := sp_lnA_is iK1; have hlDK1 := sp_lnD_is iK1; have hlnK1 := sp_ln_ne iK1
      rw [xb_om_some c1] at hnt
      refine lv_astore_n (lv' := [(2, .ref (α K1)), (0, .ref (α Z)), (1, .int x1)]) hx hb d_P_begin_5 rfl hl (by decide) rfl (fun ls hl => ?_)
      refine lv_aload_n hx hb d_P_begin_6 rfl (lv_at hl 0 rfl) ?_
      refine xn_ci (sp_runE (n := 0) (As := []) (rest := []) ⟨hx, hb, hml, hown, hts⟩ (n_Endpoint_mayStart l D α κ hα σ K1 iK1) iK1 xw582 xw584 xw585 xw586 xw583 xw3 xw587 rfl rfl rfl (by decide +kernel) ⟨Nat.le_of_ble_eq_true rfl, Nat.le_of_ble_eq_true rfl⟩ hP hK hN rfl rfl hl.1 rfl (lv_room (Nat.le_of_ble_eq_true rfl)) d_P_begin_7 ⟨Nat.le_of_ble_eq_true rfl, Nat.le_of_ble_eq_true rfl⟩) hS (fun H locs hP hS => ?_)
      obtain rfl := xn_nil hS
      refine lv_if_ne (tgt := 23) hx hb d_P_begin_10 (by decide) (fun c2 => ?_) (fun c2 => ?_)
      · skip
        rw [if_neg c2] at hnt
        exact absurd hnt (by decide)
      · skip
        rw [if_pos c2] at hnt
        obtain ⟨sa, hsa⟩ := hG.2.2.1 (73, "neither new nor ready") (by decide)
        exact xt_throw hx hb htr (own := "SecurePair") (text := "neither new nor ready") hown (by decide +kernel) (by decide +kernel) (ht _ xw588) (ht _ xw16) hsa.1 hsa.2 (xt_atoms [12, 535, 544, 549, 552, 554, 536, 537, 27, 28, 538, 543, 550, 570, 525, 571, 527, 572, 529, 539, 541, 531, 566, 567, 569, 531, 599, 600, 601, 560, 560, 561, 562, 563, 563, 564, 565, 566, 598, 589, 591, 547, 592, 593, 594, 595, 534, 533, 596] xt_g75 xt_b75 (by decide) ht hG) (hl.1.trans hml.symm) hte d_P_begin_13 d_P_begin_16 d_P_begin_17 d_P_begin_19 d_P_begin_22 (by decide) (by decide) (by decide) (by decide) hlocks (by decide) (by decide) hS.1
  · skip
    rw [if_neg hq1] at hnt
    exact absurd hnt (th_P_endpointOrThrow_v2 Z x1 σ iZ)
abbrev b_P_deliver : ByteArray := prog_1_method_7_code
def y_P_deliver : MethodName := ⟨"SecurePair", "deliver", "(I)I"⟩
abbrev w_P_deliver : List Cond := .code y_P_deliver b_P_deliver 3 (some .int) :: xa
theorem d_P_deliver_0 : decode b_P_deliver 0 = .ok (.aload_n 0, 1) := by decide +kernel
theorem d_P_deliver_1 : decode b_P_deliver 1 = .ok (.iload_n 1, 1) := by decide +kernel
theorem d_P_deliver_2 : decode b_P_deliver 2 = .ok (.invokevirtual 64, 3) := by decide +kernel
theorem d_P_deliver_5 : decode b_P_deliver 5 = .ok (.astore_n 2, 1) := by decide +kernel
theorem d_P_deliver_6 : decode b_P_deliver 6 = .ok (.aload_n 2, 1) := by decide +kernel
theorem d_P_deliver_7 : decode b_P_deliver 7 = .ok (.getfield 84, 3) := by decide +kernel
theorem d_P_deliver_10 : decode b_P_deliver 10 = .ok (.getfield 88, 3) := by decide +kernel
theorem d_P_deliver_13 : decode b_P_deliver 13 = .ok (.ifCond .ne 5, 3) := by decide +kernel
theorem d_P_deliver_16 : decode b_P_deliver 16 = .ok (.iconst 0, 1) := by decide +kernel
theorem d_P_deliver_17 : decode b_P_deliver 17 = .ok (.ireturn, 1) := by decide +kernel
theorem d_P_deliver_18 : decode b_P_deliver 18 = .ok (.aload_n 2, 1) := by decide +kernel
theorem d_P_deliver_19 : decode b_P_deliver 19 = .ok (.getfield 91, 3) := by decide +kernel
theorem d_P_deliver_22 : decode b_P_deliver 22 = .ok (.iconst 5, 1) := by decide +kernel
theorem d_P_deliver_23 : decode b_P_deliver 23 = .ok (.if_icmp .ne 12, 3) := by decide +kernel
theorem d_P_deliver_26 : decode b_P_deliver 26 = .ok (.aload_n 2, 1) := by decide +kernel
theorem d_P_deliver_27 : decode b_P_deliver 27 = .ok (.getfield 84, 3) := by decide +kernel
theorem d_P_deliver_30 : decode b_P_deliver 30 = .ok (.invokevirtual 94, 3) := by decide +kernel
theorem d_P_deliver_33 : decode b_P_deliver 33 = .ok (.iconst (-1), 1) := by decide +kernel
theorem d_P_deliver_34 : decode b_P_deliver 34 = .ok (.ireturn, 1) := by decide +kernel
theorem d_P_deliver_35 : decode b_P_deliver 35 = .ok (.aload_n 2, 1) := by decide +kernel
theorem d_P_deliver_36 : decode b_P_deliver 36 = .ok (.invokevirtual 97, 3) := by decide +kernel
theorem d_P_deliver_39 : decode b_P_deliver 39 = .ok (.ireturn, 1) := by decide +kernel
theorem xw627 : (Cond.methodLink "SecurePair" (97 : Nat) ({ cls := "SecurePair$Endpoint", name := "receive", desc := "()I" } : MethodName)) ∈ xa := xa_t 627 (by decide +kernel) (by decide +kernel)
theorem xw628 : (Cond.instanceMethod ({ cls := "SecurePair$Endpoint", name := "receive", desc := "()I" } : MethodName)) ∈ xa := xa_t 628 (by decide +kernel) (by decide +kernel)
theorem xw629 : (Cond.sameMethod "SecurePair$Endpoint" "SecurePair$Endpoint" "receive" "()I") ∈ xa := xa_t 629 (by decide +kernel) (by decide +kernel)
theorem xw630 : (Cond.selects "SecurePair$Client" ({ cls := "SecurePair$Endpoint", name := "receive", desc := "()I" } : MethodName) ({ cls := "SecurePair$Endpoint", name := "receive", desc := "()I" } : MethodName)) ∈ xa := xa_t 630 (by decide +kernel) (by decide +kernel)
theorem xw631 : (Cond.selects "SecurePair$Server" ({ cls := "SecurePair$Endpoint", name := "receive", desc := "()I" } : MethodName) ({ cls := "SecurePair$Endpoint", name := "receive", desc := "()I" } : MethodName)) ∈ xa := xa_t 631 (by decide +kernel) (by decide +kernel)
theorem xw632 : (Cond.code ({ cls := "SecurePair$Endpoint", name := "receive", desc := "()I" } : MethodName) prog_4_method_12_code (3 : Nat) (Option.some ClassFile.FieldType.int)) ∈ xa := xa_t 632 (by decide +kernel) (by decide +kernel)
def th_P_deliver (Z : Nat) (x1 : Int32) (σ : xb_St) : Nat := (if (th_P_endpointOrThrow Z x1 σ) = 0 then 0 else (th_P_endpointOrThrow Z x1 σ))
def p_deliver (Z : Nat) (x1 : Int32) (σ : xb_St) : Int32 × xb_St := (xb_om (p_eot Z x1 σ) (0, σ) (fun K1 => (if (σ.1 (sp_lnA K1) 1) = 0 then ((0 : Int32), σ) else (if (σ.1 K1 9) = (5 : Int32) then ((-1 : Int32), (p_Line_drop (sp_lnA K1) σ)) else ((p_receive K1 σ).1, (p_receive K1 σ).2)))))
set_option maxHeartbeats 4000000 in
set_option maxRecDepth 100000 in
theorem c_P_deliver (l : Launch) (D : va_G) (α : Nat → Nat) (κ : Nat → ClassId) (hα : xb_inj α 35) (σ : xb_St) (Z : Nat) (x1 : Int32) (iZ : sp_isP Z) (ok : sp_ok σ) (hnt : th_P_deliver Z x1 σ = 0) : Met l y_P_deliver w_P_deliver ({ frames := 7, cells := 0, slots := 0, locals := 169 }) (va_Pc ([.ref (α Z), .int x1]) (sp_Pre D α κ σ)) (va_Qi (fun r (u : xb_St) => r = (p_deliver Z x1 σ).1 ∧ u = (p_deliver Z x1 σ).2) (sp_B D α κ) (xb_A α 35)) 0 0 (xb_A α 35) := by
  unfold th_P_deliver at hnt
  refine Met.ofW (cc := b_P_deliver) (maxL := 3) (ret := (some .int)) (by decide) rfl ?_
  intro p e s m args below meth c s₁ B_ hml hv
  obtain ⟨rfl, hP, hK, hN⟩ := hv
  have hx := B_.exec
  have hb := B_.bytes
  have hr := B_.returns
  have hts := atoms_spec (ws := w_P_deliver) B_.pre
  have ht : ∀ w ∈ xa, w.before _ s = true := fun w h => hts w (List.mem_cons_of_mem _ h)
  have hown : s.vm.findClass "SecurePair" = some m.cls := findClass_of_methodNamed B_.named
  have hlocks := B_.notSynchronized
  have hD := sp_D hα κ
  have hS : va_S (xb_A α 35) s.heap s.heap [] := va_S.rf
  have hl := lv_entry ([.ref (α Z), .int x1]) (n := 3) (Nat.le_of_ble_eq_true rfl)
  rw [lg_entry_eq]
  generalize (lg_sl ([.ref (α Z), .int x1]) ++ List.replicate (3 - (lg_sl ([.ref (α Z), .int x1])).length) Slot.unset).toArray = ls at hl ⊢
  have hl : lv_has ls 3 [(0, .ref (α Z)), (1, .int x1)] := hl
  refine lv_aload_n hx hb d_P_deliver_0 rfl (lv_at hl 0 rfl) ?_
  refine lv_iload_n hx hb d_P_deliver_1 rfl (lv_at hl 1 rfl) ?_
  have hq1 := xb_th0 hnt
  rw [if_pos hq1] at hnt
  refine xn_cq (va_runV (As := [.int x1]) (rest := []) ⟨hx, hb, hml, hown, hts⟩ (n_P_endpointOrThrow l D α κ hα σ Z x1 iZ hq1) (cwV 1 hts (xa_V xw509 xw511 xs2 xw1 xw512) rfl rfl rfl (by decide +kernel) ⟨Nat.le_of_ble_eq_true rfl, Nat.le_of_ble_eq_true rfl⟩) ⟨sp_blind, va_recv hK hP rfl (sp_at_P iZ), sp_pre hP hK hN _⟩ rfl rfl hl.1 rfl (lv_room (Nat.le_of_ble_eq_true rfl)) d_P_deliver_2 ⟨Nat.le_of_ble_eq_true rfl, Nat.le_of_ble_eq_true rfl⟩) hS (fun H locs hP hS => ?_)
  rcases c1 : (p_eot Z x1 σ) with _ | K1
  · exact absurd c1 (p_eot_nn hq1)
  · skip
    have iK1 := p_eot_is iZ c1; have hlAK1 := sp_lnA_is iK1; have hlDK1 := sp_lnD_is iK1; have hlnK1 := sp_ln_ne iK1
    refine lv_astore_n (lv' := [(2, .ref (α K1)), (0, .ref (α Z)), (1, .int x1)]) hx hb d_P_deliver_5 rfl hl (by decide) rfl (fun ls hl => ?_)
    refine lv_aload_n hx hb d_P_deliver_6 rfl (lv_at hl 0 rfl) ?_
    refine sp_g_Endpoint (v := .ref (α (sp_lnA K1))) hx hb ht hown hK hP iK1 0 (by decide) (ht _ xw230) (fun _ h_ => h_) rfl d_P_deliver_7 ?_
    refine sp_g_Line (v := .int (σ.1 (sp_lnA K1) 1)) hx hb ht hown hK hP (sp_lnA_is iK1) 1 (by decide) (ht _ xw38) (fun _ h_ => h_) rfl d_P_deliver_10 ?_
    refine lv_if_ne (tgt := 18) hx hb d_P_deliver_13 (by decide) (fun c2 => ?_) (fun c2 => ?_)
    · skip
      refine lv_aload_n hx hb d_P_deliver_18 rfl (lv_at hl 0 rfl) ?_
      refine sp_g_Endpoint (v := .int (σ.1 K1 9)) hx hb ht hown hK hP iK1 9 (by decide) (ht _ xw250) (fun _ h_ => h_) rfl d_P_deliver_19 ?_
      refine lv_iconst (v := 5) hx hb d_P_deliver_22 (by decide) ?_
      refine lv_icmp_ne (tgt := 35) hx hb d_P_deliver_23 (by decide) (fun c3 => ?_) (fun c3 => ?_)
      · skip
        refine lv_aload_n hx hb d_P_deliver_35 rfl (lv_at hl 0 rfl) ?_
        refine sp_ci (sp_runE (n := 0) (As := []) (rest := []) ⟨hx, hb, hml, hown, hts⟩ (c_Endpoint_receive l D α κ hα σ K1 iK1 ok) iK1 xw627 xw629 xw630 xw631 xw628 xw3 xw632 rfl rfl rfl (by decide +kernel) ⟨Nat.le_of_ble_eq_true rfl, Nat.le_of_ble_eq_true rfl⟩ hP hK hN rfl rfl hl.1 rfl (lv_room (Nat.le_of_ble_eq_true rfl)) d_P_deliver_36 ⟨Nat.le_of_ble_eq_true rfl, Nat.le_of_ble_eq_true rfl⟩) hS (fun _ h_ => h_) (fun H locs hP hS => ?_)
        obtain ⟨τ1, hτ1⟩ : ∃ t_, t_ = (p_receive K1 σ).2 := ⟨_, rfl⟩
        rw [← hτ1] at hP
        have okτ1 : sp_ok τ1 := by rw [hτ1]; exact (ok_p_receive K1 iK1 ok)
        obtain ⟨ρ1, hρ1⟩ : ∃ r_, r_ = (p_receive K1 σ).1 := ⟨_, rfl⟩
        refine xb_ti (y := ρ1) hρ1.symm ?_
        exact W.iret (v := ρ1) hx hb hr (fun t ht_ hW => ⟨⟨ρ1, τ1, rfl, ⟨congrArg Prod.fst (((by subst hρ1; subst hτ1; exact (by unfold p_deliver; rw [xb_om_some c1, if_neg c2, if_neg c3]))) : (ρ1, τ1) = p_deliver Z x1 σ), congrArg Prod.snd (((by subst hρ1; subst hτ1; exact (by unfold p_deliver; rw [xb_om_some c1, if_neg c2, if_neg c3]))) : (ρ1, τ1) = p_deliver Z x1 σ)⟩, by rw [sp_B, ht_]; exact hP⟩, hS.F ht_⟩) hS.2.2 d_P_deliver_39
      · skip
        refine lv_aload_n hx hb d_P_deliver_26 rfl (lv_at hl 0 rfl) ?_
        refine sp_g_Endpoint (v := .ref (α (sp_lnA K1))) hx hb ht hown hK hP iK1 0 (by decide) (ht _ xw230) (fun _ h_ => h_) rfl d_P_deliver_27 ?_
        refine sp_cv (va_runV (As := []) (rest := []) ⟨hx, hb, hml, hown, hts⟩ (c_Line_dropFirst l D α κ hα σ (sp_lnA K1) (sp_lnA_is iK1) ok) (cwV 0 hts (xa_V xw420 xw421 xw422 xw2 xw423) rfl rfl rfl (by decide +kernel) ⟨Nat.le_of_ble_eq_true rfl, Nat.le_of_ble_eq_true rfl⟩) ⟨sp_blind, va_recv hK hP rfl (sp_at_Line (sp_lnA_is iK1)), sp_pre hP hK hN _⟩ rfl rfl hl.1 rfl (lv_room (Nat.le_of_ble_eq_true rfl)) d_P_deliver_30 ⟨Nat.le_of_ble_eq_true rfl, Nat.le_of_ble_eq_true rfl⟩) hS (fun _ h_ => h_) (fun H locs hP hS => ?_)
        obtain ⟨τ2, hτ2⟩ : ∃ t_, t_ = (p_Line_drop (sp_lnA K1) σ) := ⟨_, rfl⟩
        rw [← hτ2] at hP
        have okτ2 : sp_ok τ2 := by rw [hτ2]; exact (ok_p_Line_drop (sp_lnA K1) (sp_lnA_is iK1) ok)
        refine lv_iconst (v := -1) hx hb d_P_deliver_33 (by decide) ?_
        exact W.iret (v := (-1 : Int32)) hx hb hr (fun t ht_ hW => ⟨⟨(-1 : Int32), τ2, rfl, ⟨congrArg Prod.fst (((by subst hτ2; exact (by unfold p_deliver; rw [xb_om_some c1, if_neg c2, if_pos c3]))) : ((-1 : Int32), τ2) = p_deliver Z x1 σ), congrArg Prod.snd (((by subst hτ2; exact (by unfold p_deliver; rw [xb_om_some c1, if_neg c2, if_pos c3]))) : ((-1 : Int32), τ2) = p_deliver Z x1 σ)⟩, by rw [sp_B, ht_]; exact hP⟩, hS.F ht_⟩) hS.2.2 d_P_deliver_34
    · skip
      refine lv_iconst (v := 0) hx hb d_P_deliver_16 (by decide) ?_
      exact W.iret (v := (0 : Int32)) hx hb hr (fun t ht_ hW => ⟨⟨(0 : Int32), σ, rfl, ⟨congrArg Prod.fst (((by unfold p_deliver; rw [xb_om_some c1, if_pos c2])) : ((0 : Int32), σ) = p_deliver Z x1 σ), congrArg Prod.snd (((by unfold p_deliver; rw [xb_om_some c1, if_pos c2])) : ((0 : Int32), σ) = p_deliver Z x1 σ)⟩, by rw [sp_B, ht_]; exact hP⟩, hS.F ht_⟩) hS.2.2 d_P_deliver_17
theorem ok_p_deliver {σ : xb_St} (Z : Nat) (x1 : Int32) (iZ : sp_isP Z) (ok : sp_ok σ) (hnt : th_P_deliver Z x1 σ = 0) : sp_ok (p_deliver Z x1 σ).2 := by
  unfold th_P_deliver at hnt
  unfold p_deliver
  have hq1 := xb_th0 hnt
  rw [if_pos hq1] at hnt
  rcases c1 : (p_eot Z x1 σ) with _ | K1
  · exact absurd c1 (p_eot_nn hq1)
  · dsimp only [xb_om]
    have iK1 := p_eot_is iZ c1; have hlAK1 := sp_lnA_is iK1; have hlDK1 := sp_lnD_is iK1; have hlnK1 := sp_ln_ne iK1
    skip
    by_cases c2 : (σ.1 (sp_lnA K1) 1) = 0
    · rw [if_pos c2]
      exact ok
    · rw [if_neg c2]
      by_cases c3 : (σ.1 K1 9) = (5 : Int32)
      · rw [if_pos c3]
        exact (ok_p_Line_drop (sp_lnA K1) (sp_lnA_is iK1) ok)
      · rw [if_neg c3]
        exact (ok_p_receive K1 iK1 ok)
set_option maxHeartbeats 4000000 in
set_option maxRecDepth 100000 in
theorem t_P_deliver_1 (l : Launch) (D : va_G) (α : Nat → Nat) (κ : Nat → ClassId) (hα : xb_inj α 35) (htr : l.stackTraces = false) (σ : xb_St) (Z : Nat) (x1 : Int32) (iZ : sp_isP Z) (hnt : th_P_deliver Z x1 σ = 1) : xt_Met l y_P_deliver w_P_deliver ({ frames := 7, cells := 1, slots := 6, locals := 112 }) (va_Pc ([.ref (α Z), .int x1]) (st_Pre D α κ σ)) "java/lang/IndexOutOfBoundsException" 1 6 := by
  unfold th_P_deliver at hnt
  refine xt_ofW (cc := b_P_deliver) (maxL := 3) (ret := (some .int)) (by decide) rfl ?_
  intro p e s m args below meth c s₁ B_ hml hte hv
  obtain ⟨rfl, ⟨hP, hK, hN⟩, hG⟩ := hv
  have hx := B_.exec
  have hb := B_.bytes
  have hr := B_.returns
  have hts := atoms_spec (ws := w_P_deliver) B_.pre
  have ht : ∀ w ∈ xa, w.before _ s = true := fun w h => hts w (List.mem_cons_of_mem _ h)
  have hown : s.vm.findClass "SecurePair" = some m.cls := findClass_of_methodNamed B_.named
  have hlocks := B_.notSynchronized
  have hD := sp_D hα κ
  have hS : va_S (fun _ => False) s.heap s.heap [] := va_S.rf
  have hl := lv_entry ([.ref (α Z), .int x1]) (n := 3) (Nat.le_of_ble_eq_true rfl)
  rw [lg_entry_eq]
  generalize (lg_sl ([.ref (α Z), .int x1]) ++ List.replicate (3 - (lg_sl ([.ref (α Z), .int x1])).length) Slot.unset).toArray = ls at hl ⊢
  have hl : lv_has ls 3 [(0, .ref (α Z)), (1, .int x1)] := hl
  refine lv_aload_n hx hb d_P_deliver_0 rfl (lv_at hl 0 rfl) ?_
  refine lv_iload_n hx hb d_P_deliver_1 rfl (lv_at hl 1 rfl) ?_
  by_cases hq1 : (th_P_endpointOrThrow Z x1 σ) = 0
  · skip
    rw [if_pos hq1] at hnt
    exact absurd hnt (by decide)
  · skip
    rw [if_neg hq1] at hnt
    exact xt_leave (xt_runV (As := [.int x1]) (rest := []) ⟨hx, hb, hml, hown, hts⟩ (t_P_endpointOrThrow_1 l D α κ hα htr σ Z x1 iZ hnt) (cwV 1 hts (xa_V xw509 xw511 xs2 xw1 xw512) rfl rfl rfl (by decide +kernel) ⟨Nat.le_of_ble_eq_true rfl, Nat.le_of_ble_eq_true rfl⟩) ⟨st_blind, va_recv hK hP rfl (sp_at_P iZ), st_pre hP hK hN hG hS _⟩ rfl rfl hl.1 rfl (lv_room (Nat.le_of_ble_eq_true rfl)) d_P_deliver_2 ⟨by decide, by decide⟩) hte hlocks (by decide) (by decide)
