theorem sm_end {x : Int32} (h : ¬ g_isEnd x = 0) : x = nI x.toNatClampNeg ∧ x.toNatClampNeg < 2 := by
  have h2 : x = 0 ∨ x = 1 := by
    by_cases h0 : x = 0
    · exact Or.inl h0
    · by_cases h1 : x = 1
      · exact Or.inr h1
      · refine absurd ?_ h
        unfold g_isEnd
        simp [h0, h1]
  rcases h2 with rfl | rfl <;> decide
theorem sm_chan {x y : Int32} (h : ¬ g_isChannel x y = 0) : (x = nI x.toNatClampNeg ∧ x.toNatClampNeg < 2) ∧ (y = nI y.toNatClampNeg ∧ y.toNatClampNeg < 3) := by
  unfold g_isChannel at h
  split at h
  · exact absurd rfl h
  · rename_i h1
    split at h
    · exact absurd rfl h
    · rename_i h2
      split at h
      · exact absurd rfl h
      · rename_i h3
        have e := sp_nn h2
        refine ⟨sm_end h1, e.1, ?_⟩
        have := mt (xb_ltN (xb_lit (x := (2 : Int32)) 2 rfl) e.1 (by decide) e.2).mpr h3
        omega
abbrev b_M_phase : ByteArray := prog_12_method_49_code
def y_M_phase : MethodName := ⟨"SecurePairModel", "phase", "(I)J"⟩
abbrev w_M_phase : List Cond := .code y_M_phase b_M_phase 2 (some .long) :: xa
theorem d_M_phase_0 : decode b_M_phase 0 = .ok (.aload_n 0, 1) := by decide +kernel
theorem d_M_phase_1 : decode b_M_phase 1 = .ok (.iconst 0, 1) := by decide +kernel
theorem d_M_phase_2 : decode b_M_phase 2 = .ok (.putfield 120, 3) := by decide +kernel
theorem d_M_phase_5 : decode b_M_phase 5 = .ok (.iload_n 1, 1) := by decide +kernel
theorem d_M_phase_6 : decode b_M_phase 6 = .ok (.invokestatic 169, 3) := by decide +kernel
theorem d_M_phase_9 : decode b_M_phase 9 = .ok (.ifCond .eq 38, 3) := by decide +kernel
theorem d_M_phase_12 : decode b_M_phase 12 = .ok (.aload_n 0, 1) := by decide +kernel
theorem d_M_phase_13 : decode b_M_phase 13 = .ok (.getfield 25, 3) := by decide +kernel
theorem d_M_phase_16 : decode b_M_phase 16 = .ok (.iload_n 1, 1) := by decide +kernel
theorem d_M_phase_17 : decode b_M_phase 17 = .ok (.iaload, 1) := by decide +kernel
theorem d_M_phase_18 : decode b_M_phase 18 = .ok (.i2l, 1) := by decide +kernel
theorem d_M_phase_19 : decode b_M_phase 19 = .ok (.ldc2_w 256, 3) := by decide +kernel
theorem d_M_phase_22 : decode b_M_phase 22 = .ok (.aload_n 0, 1) := by decide +kernel
theorem d_M_phase_23 : decode b_M_phase 23 = .ok (.getfield 25, 3) := by decide +kernel
theorem d_M_phase_26 : decode b_M_phase 26 = .ok (.iload_n 1, 1) := by decide +kernel
theorem d_M_phase_27 : decode b_M_phase 27 = .ok (.iaload, 1) := by decide +kernel
theorem d_M_phase_28 : decode b_M_phase 28 = .ok (.iconst 5, 1) := by decide +kernel
theorem d_M_phase_29 : decode b_M_phase 29 = .ok (.if_icmp .ne 12, 3) := by decide +kernel
theorem d_M_phase_32 : decode b_M_phase 32 = .ok (.aload_n 0, 1) := by decide +kernel
theorem d_M_phase_33 : decode b_M_phase 33 = .ok (.getfield 28, 3) := by decide +kernel
theorem d_M_phase_36 : decode b_M_phase 36 = .ok (.iload_n 1, 1) := by decide +kernel
theorem d_M_phase_37 : decode b_M_phase 37 = .ok (.laload, 1) := by decide +kernel
theorem d_M_phase_38 : decode b_M_phase 38 = .ok (.goto 4, 3) := by decide +kernel
theorem d_M_phase_41 : decode b_M_phase 41 = .ok (.lconst 0, 1) := by decide +kernel
theorem d_M_phase_42 : decode b_M_phase 42 = .ok (.lmul, 1) := by decide +kernel
theorem d_M_phase_43 : decode b_M_phase 43 = .ok (.ladd, 1) := by decide +kernel
theorem d_M_phase_44 : decode b_M_phase 44 = .ok (.goto 6, 3) := by decide +kernel
theorem d_M_phase_47 : decode b_M_phase 47 = .ok (.ldc2_w 268, 3) := by decide +kernel
theorem d_M_phase_50 : decode b_M_phase 50 = .ok (.lreturn, 1) := by decide +kernel
theorem xw1193 : (Cond.constantLong "SecurePairModel" (256 : Nat) (8 : Int64)) ∈ xa := xa_t 1193 (by decide +kernel) (by decide +kernel)
theorem xw1263 : (Cond.constantLong "SecurePairModel" (268 : Nat) (-1 : Int64)) ∈ xa := xa_t 1263 (by decide +kernel) (by decide +kernel)
def q_phase (x1 : Int32) (σ : xb_St) : Int64 × xb_St := (if (g_isEnd x1) = 0 then ((-1 : Int64), (xb_si σ 0 0 (0 : Int32))) else (if (σ.1 4 x1.toNatClampNeg) = (5 : Int32) then (((σ.1 4 x1.toNatClampNeg).toInt64 + ((8 : Int64) * (σ.2 5 x1.toNatClampNeg))), (xb_si σ 0 0 (0 : Int32))) else (((σ.1 4 x1.toNatClampNeg).toInt64 + (0 : Int64)), (xb_si σ 0 0 (0 : Int32)))))
set_option maxHeartbeats 4000000 in
set_option maxRecDepth 100000 in
theorem c_M_phase (l : Launch) (D : va_G) (α : Nat → Nat) (κ : Nat → ClassId) (hα : xb_inj α 35) (σ : xb_St) (x1 : Int32) : Met l y_M_phase w_M_phase ({ frames := 1, cells := 0, slots := 0, locals := 20 }) (va_Pc ([.ref (α 0), .int x1]) (sm_Pre D α κ σ)) (va_Ql (fun r (u : xb_St) => r = (q_phase x1 σ).1 ∧ u = (q_phase x1 σ).2) (sm_B D α κ) (xb_A α 35)) 0 0 (xb_A α 35) := by
  refine Met.ofW (cc := b_M_phase) (maxL := 2) (ret := (some .long)) (by decide) rfl ?_
  intro p e s m args below meth c s₁ B_ hml hv
  obtain ⟨rfl, hP, hK, hN⟩ := hv
  have hx := B_.exec
  have hb := B_.bytes
  have hr := B_.returns
  have hts := atoms_spec (ws := w_M_phase) B_.pre
  have ht : ∀ w ∈ xa, w.before _ s = true := fun w h => hts w (List.mem_cons_of_mem _ h)
  have hown : s.vm.findClass "SecurePairModel" = some m.cls := findClass_of_methodNamed B_.named
  have hlocks := B_.notSynchronized
  have hD := sm_D hα κ
  have hS : va_S (xb_A α 35) s.heap s.heap [] := va_S.rf
  have hl := lv_entry ([.ref (α 0), .int x1]) (n := 2) (Nat.le_of_ble_eq_true rfl)
  rw [lg_entry_eq]
  generalize (lg_sl ([.ref (α 0), .int x1]) ++ List.replicate (2 - (lg_sl ([.ref (α 0), .int x1])).length) Slot.unset).toArray = ls at hl ⊢
  have hl : lv_has ls 2 [(0, .ref (α 0)), (1, .int x1)] := hl
  refine lv_aload_n hx hb d_M_phase_0 rfl (lv_at hl 0 rfl) ?_
  refine lv_iconst (v := 0) hx hb d_M_phase_1 (by decide) ?_
  refine sm_pi (x := (0 : Int32)) (ty := .int) hx hb ht hown hK hP 0 (by decide) (ht _ xw952) (fun _ h_ => h_) hD hS rfl (by decide +kernel) rfl rfl sm_f_0 d_M_phase_2 (fun H locs hP hS => ?_)
  refine lv_iload_n hx hb d_M_phase_5 rfl (lv_at hl 1 rfl) ?_
  refine vp_callSi (W.runS (As := [.int x1]) (rest := []) ⟨hx, hb, hml, hown, hts⟩ (c_M_isEnd l x1) (cwS 1 hts (xa_S xw1073 xw1074 xw11 xw1075) rfl rfl rfl (by decide +kernel) ⟨Nat.le_of_ble_eq_true rfl, Nat.le_of_ble_eq_true rfl⟩) preEq rfl rfl hl.1 rfl (lv_room (Nat.le_of_ble_eq_true rfl)) d_M_phase_6 ⟨Nat.le_of_ble_eq_true rfl, Nat.le_of_ble_eq_true rfl⟩) (fun r_ e_ => ?_)
  subst e_
  refine lv_if_eq (tgt := 47) hx hb d_M_phase_9 (by decide) (fun c1 => ?_) (fun c1 => ?_)
  · skip
    refine lv_ldc2 hx hb hown (ht _ xw1263) d_M_phase_47 ?_
    exact W.lret (v := (-1 : Int64)) hx hb hr (fun t ht_ hW => ⟨⟨(-1 : Int64), (xb_si σ 0 0 (0 : Int32)), rfl, ⟨congrArg Prod.fst ((((if_pos c1)).symm) : ((-1 : Int64), (xb_si σ 0 0 (0 : Int32))) = q_phase x1 σ), congrArg Prod.snd ((((if_pos c1)).symm) : ((-1 : Int64), (xb_si σ 0 0 (0 : Int32))) = q_phase x1 σ)⟩, by rw [sm_B, ht_]; exact hP⟩, hS.F ht_⟩) hS.2.2 d_M_phase_50
  · skip
    have zc1 := sm_end c1
    refine lv_aload_n hx hb d_M_phase_12 rfl (lv_at hl 0 rfl) ?_
    refine sm_g (v := .ref (α 4)) hx hb ht hown hK hP 6 (by decide) (ht _ xw958) (fun _ h_ => h_) rfl d_M_phase_13 ?_
    refine lv_iload_n hx hb d_M_phase_16 rfl (lv_at hl 1 rfl) ?_
    refine sm_gaI (L := 2) (n := x1.toNatClampNeg) (v := (σ.1 4 x1.toNatClampNeg)) hx hb hK hP 4 3 rfl rfl (xb_in zc1.1 (by omega) (by decide)) (xb_cl zc1.1 (by omega)) (xb_i_nk (by decide)) d_M_phase_17 ?_
    refine lv_i2l (v := (σ.1 4 x1.toNatClampNeg).toInt64) hx hb d_M_phase_18 (by rfl) ?_
    refine lv_ldc2 hx hb hown (ht _ xw1193) d_M_phase_19 ?_
    refine lv_aload_n hx hb d_M_phase_22 rfl (lv_at hl 0 rfl) ?_
    refine sm_g (v := .ref (α 4)) hx hb ht hown hK hP 6 (by decide) (ht _ xw958) (fun _ h_ => h_) rfl d_M_phase_23 ?_
    refine lv_iload_n hx hb d_M_phase_26 rfl (lv_at hl 1 rfl) ?_
    refine sm_gaI (L := 2) (n := x1.toNatClampNeg) (v := (σ.1 4 x1.toNatClampNeg)) hx hb hK hP 4 3 rfl rfl (xb_in zc1.1 (by omega) (by decide)) (xb_cl zc1.1 (by omega)) (xb_i_nk (by decide)) d_M_phase_27 ?_
    refine lv_iconst (v := 5) hx hb d_M_phase_28 (by decide) ?_
    refine lv_icmp_ne (tgt := 41) hx hb d_M_phase_29 (by decide) (fun c2 => ?_) (fun c2 => ?_)
    · skip
      refine lv_lconst (v := 0) hx hb d_M_phase_41 (by decide) ?_
      refine lv_lmul hx hb d_M_phase_42 ?_
      refine xb_tl (y := (0 : Int64)) (by decide) ?_
      refine lv_ladd hx hb d_M_phase_43 ?_
      refine lv_goto (tgt := 50) hx hb d_M_phase_44 (by decide) ?_
      exact W.lret (v := ((σ.1 4 x1.toNatClampNeg).toInt64 + (0 : Int64))) hx hb hr (fun t ht_ hW => ⟨⟨((σ.1 4 x1.toNatClampNeg).toInt64 + (0 : Int64)), (xb_si σ 0 0 (0 : Int32)), rfl, ⟨congrArg Prod.fst ((((if_neg c1).trans ((if_neg c2))).symm) : (((σ.1 4 x1.toNatClampNeg).toInt64 + (0 : Int64)), (xb_si σ 0 0 (0 : Int32))) = q_phase x1 σ), congrArg Prod.snd ((((if_neg c1).trans ((if_neg c2))).symm) : (((σ.1 4 x1.toNatClampNeg).toInt64 + (0 : Int64)), (xb_si σ 0 0 (0 : Int32))) = q_phase x1 σ)⟩, by rw [sm_B, ht_]; exact hP⟩, hS.F ht_⟩) hS.2.2 d_M_phase_50
    · skip
      refine lv_aload_n hx hb d_M_phase_32 rfl (lv_at hl 0 rfl) ?_
      refine sm_g (v := .ref (α 5)) hx hb ht hown hK hP 7 (by decide) (ht _ xw959) (fun _ h_ => h_) rfl d_M_phase_33 ?_
      refine lv_iload_n hx hb d_M_phase_36 rfl (lv_at hl 1 rfl) ?_
      refine sm_gaJ (L := 2) (n := x1.toNatClampNeg) (v := (σ.2 5 x1.toNatClampNeg)) hx hb hK hP 5 4 rfl rfl (xb_in zc1.1 (by omega) (by decide)) (xb_cl zc1.1 (by omega)) xb_l_i d_M_phase_37 ?_
      refine lv_goto (tgt := 42) hx hb d_M_phase_38 (by decide) ?_
      refine lv_lmul hx hb d_M_phase_42 ?_
      refine lv_ladd hx hb d_M_phase_43 ?_
      refine lv_goto (tgt := 50) hx hb d_M_phase_44 (by decide) ?_
      exact W.lret (v := ((σ.1 4 x1.toNatClampNeg).toInt64 + ((8 : Int64) * (σ.2 5 x1.toNatClampNeg)))) hx hb hr (fun t ht_ hW => ⟨⟨((σ.1 4 x1.toNatClampNeg).toInt64 + ((8 : Int64) * (σ.2 5 x1.toNatClampNeg))), (xb_si σ 0 0 (0 : Int32)), rfl, ⟨congrArg Prod.fst ((((if_neg c1).trans ((if_pos c2))).symm) : (((σ.1 4 x1.toNatClampNeg).toInt64 + ((8 : Int64) * (σ.2 5 x1.toNatClampNeg))), (xb_si σ 0 0 (0 : Int32))) = q_phase x1 σ), congrArg Prod.snd ((((if_neg c1).trans ((if_pos c2))).symm) : (((σ.1 4 x1.toNatClampNeg).toInt64 + ((8 : Int64) * (σ.2 5 x1.toNatClampNeg))), (xb_si σ 0 0 (0 : Int32))) = q_phase x1 σ)⟩, by rw [sm_B, ht_]; exact hP⟩, hS.F ht_⟩) hS.2.2 d_M_phase_50
theorem ok_q_phase {σ : xb_St} (x1 : Int32)  (ok : sm_ok σ) : sm_ok (q_phase x1 σ).2 := by
  unfold q_phase
  by_cases c1 : (g_isEnd x1) = 0
  · rw [if_pos c1]
    exact (mk_si ok (by decide))
  · rw [if_neg c1]
    have zc1 := sm_end c1
    by_cases c2 : (σ.1 4 x1.toNatClampNeg) = (5 : Int32)
    · rw [if_pos c2]
      exact (mk_si ok (by decide))
    · rw [if_neg c2]
      exact (mk_si ok (by decide))
abbrev b_M_session : ByteArray := prog_12_method_50_code
def y_M_session : MethodName := ⟨"SecurePairModel", "session", "(I)J"⟩
abbrev w_M_session : List Cond := .code y_M_session b_M_session 2 (some .long) :: xa
theorem d_M_session_0 : decode b_M_session 0 = .ok (.aload_n 0, 1) := by decide +kernel
theorem d_M_session_1 : decode b_M_session 1 = .ok (.iconst 0, 1) := by decide +kernel
theorem d_M_session_2 : decode b_M_session 2 = .ok (.putfield 120, 3) := by decide +kernel
theorem d_M_session_5 : decode b_M_session 5 = .ok (.iload_n 1, 1) := by decide +kernel
theorem d_M_session_6 : decode b_M_session 6 = .ok (.invokestatic 169, 3) := by decide +kernel
theorem d_M_session_9 : decode b_M_session 9 = .ok (.ifCond .eq 21, 3) := by decide +kernel
theorem d_M_session_12 : decode b_M_session 12 = .ok (.aload_n 0, 1) := by decide +kernel
theorem d_M_session_13 : decode b_M_session 13 = .ok (.getfield 44, 3) := by decide +kernel
theorem d_M_session_16 : decode b_M_session 16 = .ok (.iload_n 1, 1) := by decide +kernel
theorem d_M_session_17 : decode b_M_session 17 = .ok (.baload, 1) := by decide +kernel
theorem d_M_session_18 : decode b_M_session 18 = .ok (.ifCond .eq 12, 3) := by decide +kernel
theorem d_M_session_21 : decode b_M_session 21 = .ok (.aload_n 0, 1) := by decide +kernel
theorem d_M_session_22 : decode b_M_session 22 = .ok (.getfield 41, 3) := by decide +kernel
theorem d_M_session_25 : decode b_M_session 25 = .ok (.iload_n 1, 1) := by decide +kernel
theorem d_M_session_26 : decode b_M_session 26 = .ok (.laload, 1) := by decide +kernel
theorem d_M_session_27 : decode b_M_session 27 = .ok (.goto 4, 3) := by decide +kernel
theorem d_M_session_30 : decode b_M_session 30 = .ok (.lconst 0, 1) := by decide +kernel
theorem d_M_session_31 : decode b_M_session 31 = .ok (.lreturn, 1) := by decide +kernel
def q_session (x1 : Int32) (σ : xb_St) : Int64 × xb_St := (if (g_isEnd x1) = 0 then ((0 : Int64), (xb_si σ 0 0 (0 : Int32))) else (if (σ.1 10 x1.toNatClampNeg) = 0 then ((0 : Int64), (xb_si σ 0 0 (0 : Int32))) else ((σ.2 9 x1.toNatClampNeg), (xb_si σ 0 0 (0 : Int32)))))
set_option maxHeartbeats 4000000 in
set_option maxRecDepth 100000 in
theorem c_M_session (l : Launch) (D : va_G) (α : Nat → Nat) (κ : Nat → ClassId) (hα : xb_inj α 35) (σ : xb_St) (x1 : Int32) : Met l y_M_session w_M_session ({ frames := 1, cells := 0, slots := 0, locals := 20 }) (va_Pc ([.ref (α 0), .int x1]) (sm_Pre D α κ σ)) (va_Ql (fun r (u : xb_St) => r = (q_session x1 σ).1 ∧ u = (q_session x1 σ).2) (sm_B D α κ) (xb_A α 35)) 0 0 (xb_A α 35) := by
  refine Met.ofW (cc := b_M_session) (maxL := 2) (ret := (some .long)) (by decide) rfl ?_
  intro p e s m args below meth c s₁ B_ hml hv
  obtain ⟨rfl, hP, hK, hN⟩ := hv
  have hx := B_.exec
  have hb := B_.bytes
  have hr := B_.returns
  have hts := atoms_spec (ws := w_M_session) B_.pre
  have ht : ∀ w ∈ xa, w.before _ s = true := fun w h => hts w (List.mem_cons_of_mem _ h)
  have hown : s.vm.findClass "SecurePairModel" = some m.cls := findClass_of_methodNamed B_.named
  have hlocks := B_.notSynchronized
  have hD := sm_D hα κ
  have hS : va_S (xb_A α 35) s.heap s.heap [] := va_S.rf
  have hl := lv_entry ([.ref (α 0), .int x1]) (n := 2) (Nat.le_of_ble_eq_true rfl)
  rw [lg_entry_eq]
  generalize (lg_sl ([.ref (α 0), .int x1]) ++ List.replicate (2 - (lg_sl ([.ref (α 0), .int x1])).length) Slot.unset).toArray = ls at hl ⊢
  have hl : lv_has ls 2 [(0, .ref (α 0)), (1, .int x1)] := hl
  refine lv_aload_n hx hb d_M_session_0 rfl (lv_at hl 0 rfl) ?_
  refine lv_iconst (v := 0) hx hb d_M_session_1 (by decide) ?_
  refine sm_pi (x := (0 : Int32)) (ty := .int) hx hb ht hown hK hP 0 (by decide) (ht _ xw952) (fun _ h_ => h_) hD hS rfl (by decide +kernel) rfl rfl sm_f_0 d_M_session_2 (fun H locs hP hS => ?_)
  refine lv_iload_n hx hb d_M_session_5 rfl (lv_at hl 1 rfl) ?_
  refine vp_callSi (W.runS (As := [.int x1]) (rest := []) ⟨hx, hb, hml, hown, hts⟩ (c_M_isEnd l x1) (cwS 1 hts (xa_S xw1073 xw1074 xw11 xw1075) rfl rfl rfl (by decide +kernel) ⟨Nat.le_of_ble_eq_true rfl, Nat.le_of_ble_eq_true rfl⟩) preEq rfl rfl hl.1 rfl (lv_room (Nat.le_of_ble_eq_true rfl)) d_M_session_6 ⟨Nat.le_of_ble_eq_true rfl, Nat.le_of_ble_eq_true rfl⟩) (fun r_ e_ => ?_)
  subst e_
  refine lv_if_eq (tgt := 30) hx hb d_M_session_9 (by decide) (fun c1 => ?_) (fun c1 => ?_)
  · skip
    refine lv_lconst (v := 0) hx hb d_M_session_30 (by decide) ?_
    exact W.lret (v := (0 : Int64)) hx hb hr (fun t ht_ hW => ⟨⟨(0 : Int64), (xb_si σ 0 0 (0 : Int32)), rfl, ⟨congrArg Prod.fst ((((if_pos c1)).symm) : ((0 : Int64), (xb_si σ 0 0 (0 : Int32))) = q_session x1 σ), congrArg Prod.snd ((((if_pos c1)).symm) : ((0 : Int64), (xb_si σ 0 0 (0 : Int32))) = q_session x1 σ)⟩, by rw [sm_B, ht_]; exact hP⟩, hS.F ht_⟩) hS.2.2 d_M_session_31
  · skip
    have zc1 := sm_end c1
    refine lv_aload_n hx hb d_M_session_12 rfl (lv_at hl 0 rfl) ?_
    refine sm_g (v := .ref (α 10)) hx hb ht hown hK hP 12 (by decide) (ht _ xw964) (fun _ h_ => h_) rfl d_M_session_13 ?_
    refine lv_iload_n hx hb d_M_session_16 rfl (lv_at hl 1 rfl) ?_
    refine sm_gaZ (L := 2) (n := x1.toNatClampNeg) (v := (σ.1 10 x1.toNatClampNeg)) hx hb hK hP 10 9 rfl rfl (xb_in zc1.1 (by omega) (by decide)) (xb_cl zc1.1 (by omega)) (xb_i_nk (by decide)) d_M_session_17 ?_
    refine lv_if_eq (tgt := 30) hx hb d_M_session_18 (by decide) (fun c2 => ?_) (fun c2 => ?_)
    · skip
      refine lv_lconst (v := 0) hx hb d_M_session_30 (by decide) ?_
      exact W.lret (v := (0 : Int64)) hx hb hr (fun t ht_ hW => ⟨⟨(0 : Int64), (xb_si σ 0 0 (0 : Int32)), rfl, ⟨congrArg Prod.fst ((((if_neg c1).trans ((if_pos c2))).symm) : ((0 : Int64), (xb_si σ 0 0 (0 : Int32))) = q_session x1 σ), congrArg Prod.snd ((((if_neg c1).trans ((if_pos c2))).symm) : ((0 : Int64), (xb_si σ 0 0 (0 : Int32))) = q_session x1 σ)⟩, by rw [sm_B, ht_]; exact hP⟩, hS.F ht_⟩) hS.2.2 d_M_session_31
    · skip
      refine lv_aload_n hx hb d_M_session_21 rfl (lv_at hl 0 rfl) ?_
      refine sm_g (v := .ref (α 9)) hx hb ht hown hK hP 11 (by decide) (ht _ xw963) (fun _ h_ => h_) rfl d_M_session_22 ?_
      refine lv_iload_n hx hb d_M_session_25 rfl (lv_at hl 1 rfl) ?_
      refine sm_gaJ (L := 2) (n := x1.toNatClampNeg) (v := (σ.2 9 x1.toNatClampNeg)) hx hb hK hP 9 8 rfl rfl (xb_in zc1.1 (by omega) (by decide)) (xb_cl zc1.1 (by omega)) xb_l_i d_M_session_26 ?_
      refine lv_goto (tgt := 31) hx hb d_M_session_27 (by decide) ?_
      exact W.lret (v := (σ.2 9 x1.toNatClampNeg)) hx hb hr (fun t ht_ hW => ⟨⟨(σ.2 9 x1.toNatClampNeg), (xb_si σ 0 0 (0 : Int32)), rfl, ⟨congrArg Prod.fst ((((if_neg c1).trans ((if_neg c2))).symm) : ((σ.2 9 x1.toNatClampNeg), (xb_si σ 0 0 (0 : Int32))) = q_session x1 σ), congrArg Prod.snd ((((if_neg c1).trans ((if_neg c2))).symm) : ((σ.2 9 x1.toNatClampNeg), (xb_si σ 0 0 (0 : Int32))) = q_session x1 σ)⟩, by rw [sm_B, ht_]; exact hP⟩, hS.F ht_⟩) hS.2.2 d_M_session_31
theorem ok_q_session {σ : xb_St} (x1 : Int32)  (ok : sm_ok σ) : sm_ok (q_session x1 σ).2 := by
  unfold q_session
  by_cases c1 : (g_isEnd x1) = 0
  · rw [if_pos c1]
    exact (mk_si ok (by decide))
  · rw [if_neg c1]
    have zc1 := sm_end c1
    by_cases c2 : (σ.1 10 x1.toNatClampNeg) = 0
    · rw [if_pos c2]
      exact (mk_si ok (by decide))
    · rw [if_neg c2]
      exact (mk_si ok (by decide))
abbrev b_M_state : ByteArray := prog_12_method_51_code
def y_M_state : MethodName := ⟨"SecurePairModel", "state", "(II)I"⟩
abbrev w_M_state : List Cond := .code y_M_state b_M_state 3 (some .int) :: xa
theorem d_M_state_0 : decode b_M_state 0 = .ok (.aload_n 0, 1) := by decide +kernel
theorem d_M_state_1 : decode b_M_state 1 = .ok (.iconst 0, 1) := by decide +kernel
theorem d_M_state_2 : decode b_M_state 2 = .ok (.putfield 120, 3) := by decide +kernel
theorem d_M_state_5 : decode b_M_state 5 = .ok (.iload_n 1, 1) := by decide +kernel
theorem d_M_state_6 : decode b_M_state 6 = .ok (.invokestatic 169, 3) := by decide +kernel
theorem d_M_state_9 : decode b_M_state 9 = .ok (.ifCond .eq 12, 3) := by decide +kernel
theorem d_M_state_12 : decode b_M_state 12 = .ok (.iload_n 2, 1) := by decide +kernel
theorem d_M_state_13 : decode b_M_state 13 = .ok (.ifCond .lt 8, 3) := by decide +kernel
theorem d_M_state_16 : decode b_M_state 16 = .ok (.iload_n 2, 1) := by decide +kernel
theorem d_M_state_17 : decode b_M_state 17 = .ok (.iconst 3, 1) := by decide +kernel
theorem d_M_state_18 : decode b_M_state 18 = .ok (.if_icmp .le 5, 3) := by decide +kernel
theorem d_M_state_21 : decode b_M_state 21 = .ok (.iconst (-1), 1) := by decide +kernel
theorem d_M_state_22 : decode b_M_state 22 = .ok (.ireturn, 1) := by decide +kernel
theorem d_M_state_23 : decode b_M_state 23 = .ok (.iload_n 2, 1) := by decide +kernel
theorem d_M_state_24 : decode b_M_state 24 = .ok (.ifCond .ne 12, 3) := by decide +kernel
theorem d_M_state_27 : decode b_M_state 27 = .ok (.aload_n 0, 1) := by decide +kernel
theorem d_M_state_28 : decode b_M_state 28 = .ok (.getfield 35, 3) := by decide +kernel
theorem d_M_state_31 : decode b_M_state 31 = .ok (.iload_n 1, 1) := by decide +kernel
theorem d_M_state_32 : decode b_M_state 32 = .ok (.iaload, 1) := by decide +kernel
theorem d_M_state_33 : decode b_M_state 33 = .ok (.goto 56, 3) := by decide +kernel
theorem d_M_state_36 : decode b_M_state 36 = .ok (.iload_n 2, 1) := by decide +kernel
theorem d_M_state_37 : decode b_M_state 37 = .ok (.iconst 1, 1) := by decide +kernel
theorem d_M_state_38 : decode b_M_state 38 = .ok (.if_icmp .ne 12, 3) := by decide +kernel
theorem d_M_state_41 : decode b_M_state 41 = .ok (.aload_n 0, 1) := by decide +kernel
theorem d_M_state_42 : decode b_M_state 42 = .ok (.getfield 38, 3) := by decide +kernel
theorem d_M_state_45 : decode b_M_state 45 = .ok (.iload_n 1, 1) := by decide +kernel
theorem d_M_state_46 : decode b_M_state 46 = .ok (.iaload, 1) := by decide +kernel
theorem d_M_state_47 : decode b_M_state 47 = .ok (.goto 42, 3) := by decide +kernel
theorem d_M_state_50 : decode b_M_state 50 = .ok (.aload_n 0, 1) := by decide +kernel
theorem d_M_state_51 : decode b_M_state 51 = .ok (.getfield 66, 3) := by decide +kernel
theorem d_M_state_54 : decode b_M_state 54 = .ok (.iconst 2, 1) := by decide +kernel
theorem d_M_state_55 : decode b_M_state 55 = .ok (.iload_n 1, 1) := by decide +kernel
theorem d_M_state_56 : decode b_M_state 56 = .ok (.imul, 1) := by decide +kernel
theorem d_M_state_57 : decode b_M_state 57 = .ok (.baload, 1) := by decide +kernel
theorem d_M_state_58 : decode b_M_state 58 = .ok (.ifCond .ne 7, 3) := by decide +kernel
theorem d_M_state_61 : decode b_M_state 61 = .ok (.iconst 0, 1) := by decide +kernel
theorem d_M_state_62 : decode b_M_state 62 = .ok (.goto 27, 3) := by decide +kernel
theorem d_M_state_65 : decode b_M_state 65 = .ok (.iload_n 2, 1) := by decide +kernel
theorem d_M_state_66 : decode b_M_state 66 = .ok (.iconst 2, 1) := by decide +kernel
theorem d_M_state_67 : decode b_M_state 67 = .ok (.if_icmp .ne 14, 3) := by decide +kernel
theorem d_M_state_70 : decode b_M_state 70 = .ok (.aload_n 0, 1) := by decide +kernel
theorem d_M_state_71 : decode b_M_state 71 = .ok (.getfield 75, 3) := by decide +kernel
theorem d_M_state_74 : decode b_M_state 74 = .ok (.iconst 2, 1) := by decide +kernel
theorem d_M_state_75 : decode b_M_state 75 = .ok (.iload_n 1, 1) := by decide +kernel
theorem d_M_state_76 : decode b_M_state 76 = .ok (.imul, 1) := by decide +kernel
theorem d_M_state_77 : decode b_M_state 77 = .ok (.iaload, 1) := by decide +kernel
theorem d_M_state_78 : decode b_M_state 78 = .ok (.goto 11, 3) := by decide +kernel
theorem d_M_state_81 : decode b_M_state 81 = .ok (.aload_n 0, 1) := by decide +kernel
theorem d_M_state_82 : decode b_M_state 82 = .ok (.getfield 78, 3) := by decide +kernel
theorem d_M_state_85 : decode b_M_state 85 = .ok (.iconst 2, 1) := by decide +kernel
theorem d_M_state_86 : decode b_M_state 86 = .ok (.iload_n 1, 1) := by decide +kernel
theorem d_M_state_87 : decode b_M_state 87 = .ok (.imul, 1) := by decide +kernel
theorem d_M_state_88 : decode b_M_state 88 = .ok (.iaload, 1) := by decide +kernel
theorem d_M_state_89 : decode b_M_state 89 = .ok (.ireturn, 1) := by decide +kernel
theorem xw962 : (Cond.fieldLink "SecurePairModel" (38 : Nat) "SecurePairModel" "heard" "[I") ∈ xa := xa_t 962 (by decide +kernel) (by decide +kernel)
def q_state (x1 : Int32) (x2 : Int32) (σ : xb_St) : Int32 × xb_St := (if (g_isEnd x1) = 0 then ((-1 : Int32), (xb_si σ 0 0 (0 : Int32))) else (if x2 < 0 then ((-1 : Int32), (xb_si σ 0 0 (0 : Int32))) else (if x2 ≤ (3 : Int32) then (if x2 = 0 then ((σ.1 7 x1.toNatClampNeg), (xb_si σ 0 0 (0 : Int32))) else (if x2 = (1 : Int32) then ((σ.1 8 x1.toNatClampNeg), (xb_si σ 0 0 (0 : Int32))) else (if (σ.1 17 (2 * x1.toNatClampNeg)) = 0 then ((0 : Int32), (xb_si σ 0 0 (0 : Int32))) else (if x2 = (2 : Int32) then ((σ.1 20 (2 * x1.toNatClampNeg)), (xb_si σ 0 0 (0 : Int32))) else ((σ.1 21 (2 * x1.toNatClampNeg)), (xb_si σ 0 0 (0 : Int32))))))) else ((-1 : Int32), (xb_si σ 0 0 (0 : Int32))))))
set_option maxHeartbeats 4000000 in
set_option maxRecDepth 100000 in
theorem c_M_state (l : Launch) (D : va_G) (α : Nat → Nat) (κ : Nat → ClassId) (hα : xb_inj α 35) (σ : xb_St) (x1 : Int32) (x2 : Int32) : Met l y_M_state w_M_state ({ frames := 1, cells := 0, slots := 0, locals := 20 }) (va_Pc ([.ref (α 0), .int x1, .int x2]) (sm_Pre D α κ σ)) (va_Qi (fun r (u : xb_St) => r = (q_state x1 x2 σ).1 ∧ u = (q_state x1 x2 σ).2) (sm_B D α κ) (xb_A α 35)) 0 0 (xb_A α 35) := by
  refine Met.ofW (cc := b_M_state) (maxL := 3) (ret := (some .int)) (by decide) rfl ?_
  intro p e s m args below meth c s₁ B_ hml hv
  obtain ⟨rfl, hP, hK, hN⟩ := hv
  have hx := B_.exec
  have hb := B_.bytes
  have hr := B_.returns
  have hts := atoms_spec (ws := w_M_state) B_.pre
  have ht : ∀ w ∈ xa, w.before _ s = true := fun w h => hts w (List.mem_cons_of_mem _ h)
  have hown : s.vm.findClass "SecurePairModel" = some m.cls := findClass_of_methodNamed B_.named
  have hlocks := B_.notSynchronized
  have hD := sm_D hα κ
  have hS : va_S (xb_A α 35) s.heap s.heap [] := va_S.rf
  have hl := lv_entry ([.ref (α 0), .int x1, .int x2]) (n := 3) (Nat.le_of_ble_eq_true rfl)
  rw [lg_entry_eq]
  generalize (lg_sl ([.ref (α 0), .int x1, .int x2]) ++ List.replicate (3 - (lg_sl ([.ref (α 0), .int x1, .int x2])).length) Slot.unset).toArray = ls at hl ⊢
  have hl : lv_has ls 3 [(0, .ref (α 0)), (1, .int x1), (2, .int x2)] := hl
  refine lv_aload_n hx hb d_M_state_0 rfl (lv_at hl 0 rfl) ?_
  refine lv_iconst (v := 0) hx hb d_M_state_1 (by decide) ?_
  refine sm_pi (x := (0 : Int32)) (ty := .int) hx hb ht hown hK hP 0 (by decide) (ht _ xw952) (fun _ h_ => h_) hD hS rfl (by decide +kernel) rfl rfl sm_f_0 d_M_state_2 (fun H locs hP hS => ?_)
  refine lv_iload_n hx hb d_M_state_5 rfl (lv_at hl 1 rfl) ?_
  refine vp_callSi (W.runS (As := [.int x1]) (rest := []) ⟨hx, hb, hml, hown, hts⟩ (c_M_isEnd l x1) (cwS 1 hts (xa_S xw1073 xw1074 xw11 xw1075) rfl rfl rfl (by decide +kernel) ⟨Nat.le_of_ble_eq_true rfl, Nat.le_of_ble_eq_true rfl⟩) preEq rfl rfl hl.1 rfl (lv_room (Nat.le_of_ble_eq_true rfl)) d_M_state_6 ⟨Nat.le_of_ble_eq_true rfl, Nat.le_of_ble_eq_true rfl⟩) (fun r_ e_ => ?_)
  subst e_
  refine lv_if_eq (tgt := 21) hx hb d_M_state_9 (by decide) (fun c1 => ?_) (fun c1 => ?_)
  · skip
    refine lv_iconst (v := -1) hx hb d_M_state_21 (by decide) ?_
    exact W.iret (v := (-1 : Int32)) hx hb hr (fun t ht_ hW => ⟨⟨(-1 : Int32), (xb_si σ 0 0 (0 : Int32)), rfl, ⟨congrArg Prod.fst ((((if_pos c1)).symm) : ((-1 : Int32), (xb_si σ 0 0 (0 : Int32))) = q_state x1 x2 σ), congrArg Prod.snd ((((if_pos c1)).symm) : ((-1 : Int32), (xb_si σ 0 0 (0 : Int32))) = q_state x1 x2 σ)⟩, by rw [sm_B, ht_]; exact hP⟩, hS.F ht_⟩) hS.2.2 d_M_state_22
  · skip
    have zc1 := sm_end c1
    refine lv_iload_n hx hb d_M_state_12 rfl (lv_at hl 2 rfl) ?_
    refine lv_if_lt (tgt := 21) hx hb d_M_state_13 (by decide) (fun c2 => ?_) (fun c2 => ?_)
    · skip
      refine lv_iconst (v := -1) hx hb d_M_state_21 (by decide) ?_
      exact W.iret (v := (-1 : Int32)) hx hb hr (fun t ht_ hW => ⟨⟨(-1 : Int32), (xb_si σ 0 0 (0 : Int32)), rfl, ⟨congrArg Prod.fst ((((if_neg c1).trans ((if_pos c2))).symm) : ((-1 : Int32), (xb_si σ 0 0 (0 : Int32))) = q_state x1 x2 σ), congrArg Prod.snd ((((if_neg c1).trans ((if_pos c2))).symm) : ((-1 : Int32), (xb_si σ 0 0 (0 : Int32))) = q_state x1 x2 σ)⟩, by rw [sm_B, ht_]; exact hP⟩, hS.F ht_⟩) hS.2.2 d_M_state_22
    · skip
      refine lv_iload_n hx hb d_M_state_16 rfl (lv_at hl 2 rfl) ?_
      refine lv_iconst (v := 3) hx hb d_M_state_17 (by decide) ?_
      refine lv_icmp_le (tgt := 23) hx hb d_M_state_18 (by decide) (fun c3 => ?_) (fun c3 => ?_)
      · skip
        refine lv_iload_n hx hb d_M_state_23 rfl (lv_at hl 2 rfl) ?_
        refine lv_if_ne (tgt := 36) hx hb d_M_state_24 (by decide) (fun c4 => ?_) (fun c4 => ?_)
        · skip
          refine lv_iload_n hx hb d_M_state_36 rfl (lv_at hl 2 rfl) ?_
          refine lv_iconst (v := 1) hx hb d_M_state_37 (by decide) ?_
          refine lv_icmp_ne (tgt := 50) hx hb d_M_state_38 (by decide) (fun c5 => ?_) (fun c5 => ?_)
          · skip
            refine lv_aload_n hx hb d_M_state_50 rfl (lv_at hl 0 rfl) ?_
            refine sm_g (v := .ref (α 17)) hx hb ht hown hK hP 19 (by decide) (ht _ xw971) (fun _ h_ => h_) rfl d_M_state_51 ?_
            refine lv_iconst (v := 2) hx hb d_M_state_54 (by decide) ?_
            refine lv_iload_n hx hb d_M_state_55 rfl (lv_at hl 1 rfl) ?_
            refine lv_imul hx hb d_M_state_56 ?_
            refine sm_gaZ (L := 4) (n := (2 * x1.toNatClampNeg)) (v := (σ.1 17 (2 * x1.toNatClampNeg))) hx hb hK hP 17 16 rfl rfl (xb_in (xb_nm (xb_lit (x := (2 : Int32)) 2 rfl) zc1.1) (by omega) (by decide)) (xb_cl (xb_nm (xb_lit (x := (2 : Int32)) 2 rfl) zc1.1) (by omega)) (xb_i_nk (by decide)) d_M_state_57 ?_
            refine lv_if_ne (tgt := 65) hx hb d_M_state_58 (by decide) (fun c6 => ?_) (fun c6 => ?_)
            · skip
              refine lv_iload_n hx hb d_M_state_65 rfl (lv_at hl 2 rfl) ?_
              refine lv_iconst (v := 2) hx hb d_M_state_66 (by decide) ?_
              refine lv_icmp_ne (tgt := 81) hx hb d_M_state_67 (by decide) (fun c7 => ?_) (fun c7 => ?_)
              · skip
                refine lv_aload_n hx hb d_M_state_81 rfl (lv_at hl 0 rfl) ?_
                refine sm_g (v := .ref (α 21)) hx hb ht hown hK hP 23 (by decide) (ht _ xw975) (fun _ h_ => h_) rfl d_M_state_82 ?_
                refine lv_iconst (v := 2) hx hb d_M_state_85 (by decide) ?_
                refine lv_iload_n hx hb d_M_state_86 rfl (lv_at hl 1 rfl) ?_
                refine lv_imul hx hb d_M_state_87 ?_
                refine sm_gaI (L := 4) (n := (2 * x1.toNatClampNeg)) (v := (σ.1 21 (2 * x1.toNatClampNeg))) hx hb hK hP 21 20 rfl rfl (xb_in (xb_nm (xb_lit (x := (2 : Int32)) 2 rfl) zc1.1) (by omega) (by decide)) (xb_cl (xb_nm (xb_lit (x := (2 : Int32)) 2 rfl) zc1.1) (by omega)) (xb_i_nk (by decide)) d_M_state_88 ?_
                exact W.iret (v := (σ.1 21 (2 * x1.toNatClampNeg))) hx hb hr (fun t ht_ hW => ⟨⟨(σ.1 21 (2 * x1.toNatClampNeg)), (xb_si σ 0 0 (0 : Int32)), rfl, ⟨congrArg Prod.fst ((((if_neg c1).trans ((if_neg c2).trans ((if_pos c3).trans ((if_neg c4).trans ((if_neg c5).trans ((if_neg c6).trans ((if_neg c7)))))))).symm) : ((σ.1 21 (2 * x1.toNatClampNeg)), (xb_si σ 0 0 (0 : Int32))) = q_state x1 x2 σ), congrArg Prod.snd ((((if_neg c1).trans ((if_neg c2).trans ((if_pos c3).trans ((if_neg c4).trans ((if_neg c5).trans ((if_neg c6).trans ((if_neg c7)))))))).symm) : ((σ.1 21 (2 * x1.toNatClampNeg)), (xb_si σ 0 0 (0 : Int32))) = q_state x1 x2 σ)⟩, by rw [sm_B, ht_]; exact hP⟩, hS.F ht_⟩) hS.2.2 d_M_state_89
              · skip
                refine lv_aload_n hx hb d_M_state_70 rfl (lv_at hl 0 rfl) ?_
                refine sm_g (v := .ref (α 20)) hx hb ht hown hK hP 22 (by decide) (ht _ xw974) (fun _ h_ => h_) rfl d_M_state_71 ?_
                refine lv_iconst (v := 2) hx hb d_M_state_74 (by decide) ?_
                refine lv_iload_n hx hb d_M_state_75 rfl (lv_at hl 1 rfl) ?_
                refine lv_imul hx hb d_M_state_76 ?_
                refine sm_gaI (L := 4) (n := (2 * x1.toNatClampNeg)) (v := (σ.1 20 (2 * x1.toNatClampNeg))) hx hb hK hP 20 19 rfl rfl (xb_in (xb_nm (xb_lit (x := (2 : Int32)) 2 rfl) zc1.1) (by omega) (by decide)) (xb_cl (xb_nm (xb_lit (x := (2 : Int32)) 2 rfl) zc1.1) (by omega)) (xb_i_nk (by decide)) d_M_state_77 ?_
                refine lv_goto (tgt := 89) hx hb d_M_state_78 (by decide) ?_
                exact W.iret (v := (σ.1 20 (2 * x1.toNatClampNeg))) hx hb hr (fun t ht_ hW => ⟨⟨(σ.1 20 (2 * x1.toNatClampNeg)), (xb_si σ 0 0 (0 : Int32)), rfl, ⟨congrArg Prod.fst ((((if_neg c1).trans ((if_neg c2).trans ((if_pos c3).trans ((if_neg c4).trans ((if_neg c5).trans ((if_neg c6).trans ((if_pos c7)))))))).symm) : ((σ.1 20 (2 * x1.toNatClampNeg)), (xb_si σ 0 0 (0 : Int32))) = q_state x1 x2 σ), congrArg Prod.snd ((((if_neg c1).trans ((if_neg c2).trans ((if_pos c3).trans ((if_neg c4).trans ((if_neg c5).trans ((if_neg c6).trans ((if_pos c7)))))))).symm) : ((σ.1 20 (2 * x1.toNatClampNeg)), (xb_si σ 0 0 (0 : Int32))) = q_state x1 x2 σ)⟩, by rw [sm_B, ht_]; exact hP⟩, hS.F ht_⟩) hS.2.2 d_M_state_89
            · skip
              refine lv_iconst (v := 0) hx hb d_M_state_61 (by decide) ?_
              refine lv_goto (tgt := 89) hx hb d_M_state_62 (by decide) ?_
              exact W.iret (v := (0 : Int32)) hx hb hr (fun t ht_ hW => ⟨⟨(0 : Int32), (xb_si σ 0 0 (0 : Int32)), rfl, ⟨congrArg Prod.fst ((((if_neg c1).trans ((if_neg c2).trans ((if_pos c3).trans ((if_neg c4).trans ((if_neg c5).trans ((if_pos c6))))))).symm) : ((0 : Int32), (xb_si σ 0 0 (0 : Int32))) = q_state x1 x2 σ), congrArg Prod.snd ((((if_neg c1).trans ((if_neg c2).trans ((if_pos c3).trans ((if_neg c4).trans ((if_neg c5).trans ((if_pos c6))))))).symm) : ((0 : Int32), (xb_si σ 0 0 (0 : Int32))) = q_state x1 x2 σ)⟩, by rw [sm_B, ht_]; exact hP⟩, hS.F ht_⟩) hS.2.2 d_M_state_89
          · skip
            refine lv_aload_n hx hb d_M_state_41 rfl (lv_at hl 0 rfl) ?_
            refine sm_g (v := .ref (α 8)) hx hb ht hown hK hP 10 (by decide) (ht _ xw962) (fun _ h_ => h_) rfl d_M_state_42 ?_
            refine lv_iload_n hx hb d_M_state_45 rfl (lv_at hl 1 rfl) ?_
            refine sm_gaI (L := 2) (n := x1.toNatClampNeg) (v := (σ.1 8 x1.toNatClampNeg)) hx hb hK hP 8 7 rfl rfl (xb_in zc1.1 (by omega) (by decide)) (xb_cl zc1.1 (by omega)) (xb_i_nk (by decide)) d_M_state_46 ?_
            refine lv_goto (tgt := 89) hx hb d_M_state_47 (by decide) ?_
            exact W.iret (v := (σ.1 8 x1.toNatClampNeg)) hx hb hr (fun t ht_ hW => ⟨⟨(σ.1 8 x1.toNatClampNeg), (xb_si σ 0 0 (0 : Int32)), rfl, ⟨congrArg Prod.fst ((((if_neg c1).trans ((if_neg c2).trans ((if_pos c3).trans ((if_neg c4).trans ((if_pos c5)))))).symm) : ((σ.1 8 x1.toNatClampNeg), (xb_si σ 0 0 (0 : Int32))) = q_state x1 x2 σ), congrArg Prod.snd ((((if_neg c1).trans ((if_neg c2).trans ((if_pos c3).trans ((if_neg c4).trans ((if_pos c5)))))).symm) : ((σ.1 8 x1.toNatClampNeg), (xb_si σ 0 0 (0 : Int32))) = q_state x1 x2 σ)⟩, by rw [sm_B, ht_]; exact hP⟩, hS.F ht_⟩) hS.2.2 d_M_state_89
        · skip
          refine lv_aload_n hx hb d_M_state_27 rfl (lv_at hl 0 rfl) ?_
          refine sm_g (v := .ref (α 7)) hx hb ht hown hK hP 9 (by decide) (ht _ xw961) (fun _ h_ => h_) rfl d_M_state_28 ?_
          refine lv_iload_n hx hb d_M_state_31 rfl (lv_at hl 1 rfl) ?_
          refine sm_gaI (L := 2) (n := x1.toNatClampNeg) (v := (σ.1 7 x1.toNatClampNeg)) hx hb hK hP 7 6 rfl rfl (xb_in zc1.1 (by omega) (by decide)) (xb_cl zc1.1 (by omega)) (xb_i_nk (by decide)) d_M_state_32 ?_
          refine lv_goto (tgt := 89) hx hb d_M_state_33 (by decide) ?_
          exact W.iret (v := (σ.1 7 x1.toNatClampNeg)) hx hb hr (fun t ht_ hW => ⟨⟨(σ.1 7 x1.toNatClampNeg), (xb_si σ 0 0 (0 : Int32)), rfl, ⟨congrArg Prod.fst ((((if_neg c1).trans ((if_neg c2).trans ((if_pos c3).trans ((if_pos c4))))).symm) : ((σ.1 7 x1.toNatClampNeg), (xb_si σ 0 0 (0 : Int32))) = q_state x1 x2 σ), congrArg Prod.snd ((((if_neg c1).trans ((if_neg c2).trans ((if_pos c3).trans ((if_pos c4))))).symm) : ((σ.1 7 x1.toNatClampNeg), (xb_si σ 0 0 (0 : Int32))) = q_state x1 x2 σ)⟩, by rw [sm_B, ht_]; exact hP⟩, hS.F ht_⟩) hS.2.2 d_M_state_89
      · skip
        refine lv_iconst (v := -1) hx hb d_M_state_21 (by decide) ?_
        exact W.iret (v := (-1 : Int32)) hx hb hr (fun t ht_ hW => ⟨⟨(-1 : Int32), (xb_si σ 0 0 (0 : Int32)), rfl, ⟨congrArg Prod.fst ((((if_neg c1).trans ((if_neg c2).trans ((if_neg c3)))).symm) : ((-1 : Int32), (xb_si σ 0 0 (0 : Int32))) = q_state x1 x2 σ), congrArg Prod.snd ((((if_neg c1).trans ((if_neg c2).trans ((if_neg c3)))).symm) : ((-1 : Int32), (xb_si σ 0 0 (0 : Int32))) = q_state x1 x2 σ)⟩, by rw [sm_B, ht_]; exact hP⟩, hS.F ht_⟩) hS.2.2 d_M_state_22
theorem ok_q_state {σ : xb_St} (x1 : Int32) (x2 : Int32)  (ok : sm_ok σ) : sm_ok (q_state x1 x2 σ).2 := by
  unfold q_state
  by_cases c1 : (g_isEnd x1) = 0
  · rw [if_pos c1]
    exact (mk_si ok (by decide))
  · rw [if_neg c1]
    have zc1 := sm_end c1
    by_cases c2 : x2 < 0
    · rw [if_pos c2]
      exact (mk_si ok (by decide))
    · rw [if_neg c2]
      by_cases c3 : x2 ≤ (3 : Int32)
      · rw [if_pos c3]
        by_cases c4 : x2 = 0
        · rw [if_pos c4]
          exact (mk_si ok (by decide))
        · rw [if_neg c4]
          by_cases c5 : x2 = (1 : Int32)
          · rw [if_pos c5]
            exact (mk_si ok (by decide))
          · rw [if_neg c5]
            by_cases c6 : (σ.1 17 (2 * x1.toNatClampNeg)) = 0
            · rw [if_pos c6]
              exact (mk_si ok (by decide))
            · rw [if_neg c6]
              by_cases c7 : x2 = (2 : Int32)
              · rw [if_pos c7]
                exact (mk_si ok (by decide))
              · rw [if_neg c7]
                exact (mk_si ok (by decide))
      · rw [if_neg c3]
        exact (mk_si ok (by decide))
abbrev b_M_line : ByteArray := prog_12_method_54_code
def y_M_line : MethodName := ⟨"SecurePairModel", "line", "(I)I"⟩
abbrev w_M_line : List Cond := .code y_M_line b_M_line 2 (some .int) :: xa
theorem d_M_line_0 : decode b_M_line 0 = .ok (.aload_n 0, 1) := by decide +kernel
theorem d_M_line_1 : decode b_M_line 1 = .ok (.iconst 0, 1) := by decide +kernel
theorem d_M_line_2 : decode b_M_line 2 = .ok (.putfield 120, 3) := by decide +kernel
theorem d_M_line_5 : decode b_M_line 5 = .ok (.iload_n 1, 1) := by decide +kernel
theorem d_M_line_6 : decode b_M_line 6 = .ok (.invokestatic 169, 3) := by decide +kernel
theorem d_M_line_9 : decode b_M_line 9 = .ok (.ifCond .eq 12, 3) := by decide +kernel
theorem d_M_line_12 : decode b_M_line 12 = .ok (.aload_n 0, 1) := by decide +kernel
theorem d_M_line_13 : decode b_M_line 13 = .ok (.getfield 87, 3) := by decide +kernel
theorem d_M_line_16 : decode b_M_line 16 = .ok (.iload_n 1, 1) := by decide +kernel
theorem d_M_line_17 : decode b_M_line 17 = .ok (.iaload, 1) := by decide +kernel
theorem d_M_line_18 : decode b_M_line 18 = .ok (.goto 4, 3) := by decide +kernel
theorem d_M_line_21 : decode b_M_line 21 = .ok (.iconst (-1), 1) := by decide +kernel
theorem d_M_line_22 : decode b_M_line 22 = .ok (.ireturn, 1) := by decide +kernel
def q_line (x1 : Int32) (σ : xb_St) : Int32 × xb_St := (if (g_isEnd x1) = 0 then ((-1 : Int32), (xb_si σ 0 0 (0 : Int32))) else ((σ.1 24 x1.toNatClampNeg), (xb_si σ 0 0 (0 : Int32))))
set_option maxHeartbeats 4000000 in
set_option maxRecDepth 100000 in
theorem c_M_line (l : Launch) (D : va_G) (α : Nat → Nat) (κ : Nat → ClassId) (hα : xb_inj α 35) (σ : xb_St) (x1 : Int32) : Met l y_M_line w_M_line ({ frames := 1, cells := 0, slots := 0, locals := 20 }) (va_Pc ([.ref (α 0), .int x1]) (sm_Pre D α κ σ)) (va_Qi (fun r (u : xb_St) => r = (q_line x1 σ).1 ∧ u = (q_line x1 σ).2) (sm_B D α κ) (xb_A α 35)) 0 0 (xb_A α 35) := by
  refine Met.ofW (cc := b_M_line) (maxL := 2) (ret := (some .int)) (by decide) rfl ?_
  intro p e s m args below meth c s₁ B_ hml hv
  obtain ⟨rfl, hP, hK, hN⟩ := hv
  have hx := B_.exec
  have hb := B_.bytes
  have hr := B_.returns
  have hts := atoms_spec (ws := w_M_line) B_.pre
  have ht : ∀ w ∈ xa, w.before _ s = true := fun w h => hts w (List.mem_cons_of_mem _ h)
  have hown : s.vm.findClass "SecurePairModel" = some m.cls := findClass_of_methodNamed B_.named
  have hlocks := B_.notSynchronized
  have hD := sm_D hα κ
  have hS : va_S (xb_A α 35) s.heap s.heap [] := va_S.rf
  have hl := lv_entry ([.ref (α 0), .int x1]) (n := 2) (Nat.le_of_ble_eq_true rfl)
  rw [lg_entry_eq]
  generalize (lg_sl ([.ref (α 0), .int x1]) ++ List.replicate (2 - (lg_sl ([.ref (α 0), .int x1])).length) Slot.unset).toArray = ls at hl ⊢
  have hl : lv_has ls 2 [(0, .ref (α 0)), (1, .int x1)] := hl
  refine lv_aload_n hx hb d_M_line_0 rfl (lv_at hl 0 rfl) ?_
  refine lv_iconst (v := 0) hx hb d_M_line_1 (by decide) ?_
  refine sm_pi (x := (0 : Int32)) (ty := .int) hx hb ht hown hK hP 0 (by decide) (ht _ xw952) (fun _ h_ => h_) hD hS rfl (by decide +kernel) rfl rfl sm_f_0 d_M_line_2 (fun H locs hP hS => ?_)
  refine lv_iload_n hx hb d_M_line_5 rfl (lv_at hl 1 rfl) ?_
  refine vp_callSi (W.runS (As := [.int x1]) (rest := []) ⟨hx, hb, hml, hown, hts⟩ (c_M_isEnd l x1) (cwS 1 hts (xa_S xw1073 xw1074 xw11 xw1075) rfl rfl rfl (by decide +kernel) ⟨Nat.le_of_ble_eq_true rfl, Nat.le_of_ble_eq_true rfl⟩) preEq rfl rfl hl.1 rfl (lv_room (Nat.le_of_ble_eq_true rfl)) d_M_line_6 ⟨Nat.le_of_ble_eq_true rfl, Nat.le_of_ble_eq_true rfl⟩) (fun r_ e_ => ?_)
  subst e_
  refine lv_if_eq (tgt := 21) hx hb d_M_line_9 (by decide) (fun c1 => ?_) (fun c1 => ?_)
  · skip
    refine lv_iconst (v := -1) hx hb d_M_line_21 (by decide) ?_
    exact W.iret (v := (-1 : Int32)) hx hb hr (fun t ht_ hW => ⟨⟨(-1 : Int32), (xb_si σ 0 0 (0 : Int32)), rfl, ⟨congrArg Prod.fst ((((if_pos c1)).symm) : ((-1 : Int32), (xb_si σ 0 0 (0 : Int32))) = q_line x1 σ), congrArg Prod.snd ((((if_pos c1)).symm) : ((-1 : Int32), (xb_si σ 0 0 (0 : Int32))) = q_line x1 σ)⟩, by rw [sm_B, ht_]; exact hP⟩, hS.F ht_⟩) hS.2.2 d_M_line_22
  · skip
    have zc1 := sm_end c1
    refine lv_aload_n hx hb d_M_line_12 rfl (lv_at hl 0 rfl) ?_
    refine sm_g (v := .ref (α 24)) hx hb ht hown hK hP 26 (by decide) (ht _ xw978) (fun _ h_ => h_) rfl d_M_line_13 ?_
    refine lv_iload_n hx hb d_M_line_16 rfl (lv_at hl 1 rfl) ?_
    refine sm_gaI (L := 2) (n := x1.toNatClampNeg) (v := (σ.1 24 x1.toNatClampNeg)) hx hb hK hP 24 23 rfl rfl (xb_in zc1.1 (by omega) (by decide)) (xb_cl zc1.1 (by omega)) (xb_i_nk (by decide)) d_M_line_17 ?_
    refine lv_goto (tgt := 22) hx hb d_M_line_18 (by decide) ?_
    exact W.iret (v := (σ.1 24 x1.toNatClampNeg)) hx hb hr (fun t ht_ hW => ⟨⟨(σ.1 24 x1.toNatClampNeg), (xb_si σ 0 0 (0 : Int32)), rfl, ⟨congrArg Prod.fst ((((if_neg c1)).symm) : ((σ.1 24 x1.toNatClampNeg), (xb_si σ 0 0 (0 : Int32))) = q_line x1 σ), congrArg Prod.snd ((((if_neg c1)).symm) : ((σ.1 24 x1.toNatClampNeg), (xb_si σ 0 0 (0 : Int32))) = q_line x1 σ)⟩, by rw [sm_B, ht_]; exact hP⟩, hS.F ht_⟩) hS.2.2 d_M_line_22
theorem ok_q_line {σ : xb_St} (x1 : Int32)  (ok : sm_ok σ) : sm_ok (q_line x1 σ).2 := by
  unfold q_line
  by_cases c1 : (g_isEnd x1) = 0
  · rw [if_pos c1]
    exact (mk_si ok (by decide))
  · rw [if_neg c1]
    have zc1 := sm_end c1
    exact (mk_si ok (by decide))
abbrev b_M_channel : ByteArray := prog_12_method_52_code
def y_M_channel : MethodName := ⟨"SecurePairModel", "channel", "(II)J"⟩
abbrev w_M_channel : List Cond := .code y_M_channel b_M_channel 4 (some .long) :: xa
theorem d_M_channel_0 : decode b_M_channel 0 = .ok (.aload_n 0, 1) := by decide +kernel
theorem d_M_channel_1 : decode b_M_channel 1 = .ok (.iconst 0, 1) := by decide +kernel
theorem d_M_channel_2 : decode b_M_channel 2 = .ok (.putfield 120, 3) := by decide +kernel
theorem d_M_channel_5 : decode b_M_channel 5 = .ok (.iload_n 1, 1) := by decide +kernel
theorem d_M_channel_6 : decode b_M_channel 6 = .ok (.iload_n 2, 1) := by decide +kernel
theorem d_M_channel_7 : decode b_M_channel 7 = .ok (.invokestatic 260, 3) := by decide +kernel
theorem d_M_channel_10 : decode b_M_channel 10 = .ok (.ifCond .ne 7, 3) := by decide +kernel
theorem d_M_channel_13 : decode b_M_channel 13 = .ok (.ldc2_w 268, 3) := by decide +kernel
theorem d_M_channel_16 : decode b_M_channel 16 = .ok (.lreturn, 1) := by decide +kernel
theorem d_M_channel_17 : decode b_M_channel 17 = .ok (.iconst 3, 1) := by decide +kernel
theorem d_M_channel_18 : decode b_M_channel 18 = .ok (.iload_n 1, 1) := by decide +kernel
theorem d_M_channel_19 : decode b_M_channel 19 = .ok (.imul, 1) := by decide +kernel
theorem d_M_channel_20 : decode b_M_channel 20 = .ok (.iload_n 2, 1) := by decide +kernel
theorem d_M_channel_21 : decode b_M_channel 21 = .ok (.iadd, 1) := by decide +kernel
theorem d_M_channel_22 : decode b_M_channel 22 = .ok (.istore_n 3, 1) := by decide +kernel
theorem d_M_channel_23 : decode b_M_channel 23 = .ok (.aload_n 0, 1) := by decide +kernel
theorem d_M_channel_24 : decode b_M_channel 24 = .ok (.getfield 99, 3) := by decide +kernel
theorem d_M_channel_27 : decode b_M_channel 27 = .ok (.iload_n 3, 1) := by decide +kernel
theorem d_M_channel_28 : decode b_M_channel 28 = .ok (.iaload, 1) := by decide +kernel
theorem d_M_channel_29 : decode b_M_channel 29 = .ok (.i2l, 1) := by decide +kernel
theorem d_M_channel_30 : decode b_M_channel 30 = .ok (.ldc2_w 222, 3) := by decide +kernel
theorem d_M_channel_33 : decode b_M_channel 33 = .ok (.aload_n 0, 1) := by decide +kernel
theorem d_M_channel_34 : decode b_M_channel 34 = .ok (.getfield 102, 3) := by decide +kernel
theorem d_M_channel_37 : decode b_M_channel 37 = .ok (.iload_n 3, 1) := by decide +kernel
theorem d_M_channel_38 : decode b_M_channel 38 = .ok (.laload, 1) := by decide +kernel
theorem d_M_channel_39 : decode b_M_channel 39 = .ok (.lmul, 1) := by decide +kernel
theorem d_M_channel_40 : decode b_M_channel 40 = .ok (.ladd, 1) := by decide +kernel
theorem d_M_channel_41 : decode b_M_channel 41 = .ok (.ldc2_w 270, 3) := by decide +kernel
theorem d_M_channel_44 : decode b_M_channel 44 = .ok (.aload_n 0, 1) := by decide +kernel
theorem d_M_channel_45 : decode b_M_channel 45 = .ok (.getfield 111, 3) := by decide +kernel
theorem d_M_channel_48 : decode b_M_channel 48 = .ok (.iload_n 3, 1) := by decide +kernel
theorem d_M_channel_49 : decode b_M_channel 49 = .ok (.iaload, 1) := by decide +kernel
theorem d_M_channel_50 : decode b_M_channel 50 = .ok (.i2l, 1) := by decide +kernel
theorem d_M_channel_51 : decode b_M_channel 51 = .ok (.lmul, 1) := by decide +kernel
theorem d_M_channel_52 : decode b_M_channel 52 = .ok (.ladd, 1) := by decide +kernel
theorem d_M_channel_53 : decode b_M_channel 53 = .ok (.ldc2_w 272, 3) := by decide +kernel
theorem d_M_channel_56 : decode b_M_channel 56 = .ok (.aload_n 0, 1) := by decide +kernel
theorem d_M_channel_57 : decode b_M_channel 57 = .ok (.getfield 108, 3) := by decide +kernel
theorem d_M_channel_60 : decode b_M_channel 60 = .ok (.iload_n 3, 1) := by decide +kernel
theorem d_M_channel_61 : decode b_M_channel 61 = .ok (.iaload, 1) := by decide +kernel
theorem d_M_channel_62 : decode b_M_channel 62 = .ok (.i2l, 1) := by decide +kernel
theorem d_M_channel_63 : decode b_M_channel 63 = .ok (.lmul, 1) := by decide +kernel
theorem d_M_channel_64 : decode b_M_channel 64 = .ok (.ladd, 1) := by decide +kernel
theorem d_M_channel_65 : decode b_M_channel 65 = .ok (.ldc2_w 274, 3) := by decide +kernel
theorem d_M_channel_68 : decode b_M_channel 68 = .ok (.aload_n 0, 1) := by decide +kernel
theorem d_M_channel_69 : decode b_M_channel 69 = .ok (.getfield 105, 3) := by decide +kernel
theorem d_M_channel_72 : decode b_M_channel 72 = .ok (.iload_n 3, 1) := by decide +kernel
theorem d_M_channel_73 : decode b_M_channel 73 = .ok (.laload, 1) := by decide +kernel
theorem d_M_channel_74 : decode b_M_channel 74 = .ok (.lmul, 1) := by decide +kernel
theorem d_M_channel_75 : decode b_M_channel 75 = .ok (.ladd, 1) := by decide +kernel
theorem d_M_channel_76 : decode b_M_channel 76 = .ok (.lreturn, 1) := by decide +kernel
theorem xw983 : (Cond.fieldLink "SecurePairModel" (102 : Nat) "SecurePairModel" "peer" "[J") ∈ xa := xa_t 983 (by decide +kernel) (by decide +kernel)
theorem xw984 : (Cond.fieldLink "SecurePairModel" (105 : Nat) "SecurePairModel" "window" "[J") ∈ xa := xa_t 984 (by decide +kernel) (by decide +kernel)
theorem xw985 : (Cond.fieldLink "SecurePairModel" (108 : Nat) "SecurePairModel" "room" "[I") ∈ xa := xa_t 985 (by decide +kernel) (by decide +kernel)
theorem xw986 : (Cond.fieldLink "SecurePairModel" (111 : Nat) "SecurePairModel" "many" "[I") ∈ xa := xa_t 986 (by decide +kernel) (by decide +kernel)
theorem xw1175 : (Cond.constantLong "SecurePairModel" (222 : Nat) (4 : Int64)) ∈ xa := xa_t 1175 (by decide +kernel) (by decide +kernel)
theorem xw1203 : (Cond.methodLink "SecurePairModel" (260 : Nat) ({ cls := "SecurePairModel", name := "isChannel", desc := "(II)Z" } : MethodName)) ∈ xa := xa_t 1203 (by decide +kernel) (by decide +kernel)
theorem xw1204 : (Cond.static ({ cls := "SecurePairModel", name := "isChannel", desc := "(II)Z" } : MethodName)) ∈ xa := xa_t 1204 (by decide +kernel) (by decide +kernel)
theorem xw1205 : (Cond.code ({ cls := "SecurePairModel", name := "isChannel", desc := "(II)Z" } : MethodName) prog_12_method_33_code (2 : Nat) (Option.some ClassFile.FieldType.boolean)) ∈ xa := xa_t 1205 (by decide +kernel) (by decide +kernel)
theorem xw1276 : (Cond.constantLong "SecurePairModel" (270 : Nat) (16 : Int64)) ∈ xa := xa_t 1276 (by decide +kernel) (by decide +kernel)
theorem xw1277 : (Cond.constantLong "SecurePairModel" (272 : Nat) (1024 : Int64)) ∈ xa := xa_t 1277 (by decide +kernel) (by decide +kernel)
theorem xw1278 : (Cond.constantLong "SecurePairModel" (274 : Nat) (65536 : Int64)) ∈ xa := xa_t 1278 (by decide +kernel) (by decide +kernel)
def q_channel (x1 : Int32) (x2 : Int32) (σ : xb_St) : Int64 × xb_St := (if (g_isChannel x1 x2) = 0 then ((-1 : Int64), (xb_si σ 0 0 (0 : Int32))) else ((((((σ.1 28 ((3 * x1.toNatClampNeg) + x2.toNatClampNeg)).toInt64 + ((4 : Int64) * (σ.2 29 ((3 * x1.toNatClampNeg) + x2.toNatClampNeg)))) + ((16 : Int64) * (σ.1 32 ((3 * x1.toNatClampNeg) + x2.toNatClampNeg)).toInt64)) + ((1024 : Int64) * (σ.1 31 ((3 * x1.toNatClampNeg) + x2.toNatClampNeg)).toInt64)) + ((65536 : Int64) * (σ.2 30 ((3 * x1.toNatClampNeg) + x2.toNatClampNeg)))), (xb_si σ 0 0 (0 : Int32))))
set_option maxHeartbeats 4000000 in
set_option maxRecDepth 100000 in
theorem c_M_channel (l : Launch) (D : va_G) (α : Nat → Nat) (κ : Nat → ClassId) (hα : xb_inj α 35) (σ : xb_St) (x1 : Int32) (x2 : Int32) : Met l y_M_channel w_M_channel ({ frames := 2, cells := 0, slots := 0, locals := 41 }) (va_Pc ([.ref (α 0), .int x1, .int x2]) (sm_Pre D α κ σ)) (va_Ql (fun r (u : xb_St) => r = (q_channel x1 x2 σ).1 ∧ u = (q_channel x1 x2 σ).2) (sm_B D α κ) (xb_A α 35)) 0 0 (xb_A α 35) := by
  refine Met.ofW (cc := b_M_channel) (maxL := 4) (ret := (some .long)) (by decide) rfl ?_
  intro p e s m args below meth c s₁ B_ hml hv
  obtain ⟨rfl, hP, hK, hN⟩ := hv
  have hx := B_.exec
  have hb := B_.bytes
  have hr := B_.returns
  have hts := atoms_spec (ws := w_M_channel) B_.pre
  have ht : ∀ w ∈ xa, w.before _ s = true := fun w h => hts w (List.mem_cons_of_mem _ h)
  have hown : s.vm.findClass "SecurePairModel" = some m.cls := findClass_of_methodNamed B_.named
  have hlocks := B_.notSynchronized
  have hD := sm_D hα κ
  have hS : va_S (xb_A α 35) s.heap s.heap [] := va_S.rf
  have hl := lv_entry ([.ref (α 0), .int x1, .int x2]) (n := 4) (Nat.le_of_ble_eq_true rfl)
  rw [lg_entry_eq]
  generalize (lg_sl ([.ref (α 0), .int x1, .int x2]) ++ List.replicate (4 - (lg_sl ([.ref (α 0), .int x1, .int x2])).length) Slot.unset).toArray = ls at hl ⊢
  have hl : lv_has ls 4 [(0, .ref (α 0)), (1, .int x1), (2, .int x2)] := hl
  refine lv_aload_n hx hb d_M_channel_0 rfl (lv_at hl 0 rfl) ?_
  refine lv_iconst (v := 0) hx hb d_M_channel_1 (by decide) ?_
  refine sm_pi (x := (0 : Int32)) (ty := .int) hx hb ht hown hK hP 0 (by decide) (ht _ xw952) (fun _ h_ => h_) hD hS rfl (by decide +kernel) rfl rfl sm_f_0 d_M_channel_2 (fun H locs hP hS => ?_)
  refine lv_iload_n hx hb d_M_channel_5 rfl (lv_at hl 1 rfl) ?_
  refine lv_iload_n hx hb d_M_channel_6 rfl (lv_at hl 2 rfl) ?_
  refine vp_callSi (W.runS (As := [.int x1, .int x2]) (rest := []) ⟨hx, hb, hml, hown, hts⟩ (c_M_isChannel l x1 x2) (cwS 2 hts (xa_S xw1203 xw1204 xw11 xw1205) rfl rfl rfl (by decide +kernel) ⟨Nat.le_of_ble_eq_true rfl, Nat.le_of_ble_eq_true rfl⟩) preEq rfl rfl hl.1 rfl (lv_room (Nat.le_of_ble_eq_true rfl)) d_M_channel_7 ⟨Nat.le_of_ble_eq_true rfl, Nat.le_of_ble_eq_true rfl⟩) (fun r_ e_ => ?_)
  subst e_
  refine lv_if_ne (tgt := 17) hx hb d_M_channel_10 (by decide) (fun c1 => ?_) (fun c1 => ?_)
  · skip
    have zc1 := sm_chan c1
    refine lv_iconst (v := 3) hx hb d_M_channel_17 (by decide) ?_
    refine lv_iload_n hx hb d_M_channel_18 rfl (lv_at hl 1 rfl) ?_
    refine lv_imul hx hb d_M_channel_19 ?_
    refine lv_iload_n hx hb d_M_channel_20 rfl (lv_at hl 2 rfl) ?_
    refine lv_iadd hx hb d_M_channel_21 ?_
    refine lv_istore_n (lv' := [(3, .int (((3 : Int32) * x1) + x2)), (0, .ref (α 0)), (1, .int x1), (2, .int x2)]) hx hb d_M_channel_22 rfl hl (by decide) rfl (fun ls hl => ?_)
    refine lv_aload_n hx hb d_M_channel_23 rfl (lv_at hl 1 rfl) ?_
    refine sm_g (v := .ref (α 28)) hx hb ht hown hK hP 30 (by decide) (ht _ xw982) (fun _ h_ => h_) rfl d_M_channel_24 ?_
    refine lv_iload_n hx hb d_M_channel_27 rfl (lv_at hl 0 rfl) ?_
    refine sm_gaI (L := 6) (n := ((3 * x1.toNatClampNeg) + x2.toNatClampNeg)) (v := (σ.1 28 ((3 * x1.toNatClampNeg) + x2.toNatClampNeg))) hx hb hK hP 28 27 rfl rfl (xb_in (xb_na (xb_nm (xb_lit (x := (3 : Int32)) 3 rfl) zc1.1.1) zc1.2.1) (by omega) (by decide)) (xb_cl (xb_na (xb_nm (xb_lit (x := (3 : Int32)) 3 rfl) zc1.1.1) zc1.2.1) (by omega)) (xb_i_nk (by decide)) d_M_channel_28 ?_
    refine lv_i2l (v := (σ.1 28 ((3 * x1.toNatClampNeg) + x2.toNatClampNeg)).toInt64) hx hb d_M_channel_29 (by rfl) ?_
    refine lv_ldc2 hx hb hown (ht _ xw1175) d_M_channel_30 ?_
    refine lv_aload_n hx hb d_M_channel_33 rfl (lv_at hl 1 rfl) ?_
    refine sm_g (v := .ref (α 29)) hx hb ht hown hK hP 31 (by decide) (ht _ xw983) (fun _ h_ => h_) rfl d_M_channel_34 ?_
    refine lv_iload_n hx hb d_M_channel_37 rfl (lv_at hl 0 rfl) ?_
    refine sm_gaJ (L := 6) (n := ((3 * x1.toNatClampNeg) + x2.toNatClampNeg)) (v := (σ.2 29 ((3 * x1.toNatClampNeg) + x2.toNatClampNeg))) hx hb hK hP 29 28 rfl rfl (xb_in (xb_na (xb_nm (xb_lit (x := (3 : Int32)) 3 rfl) zc1.1.1) zc1.2.1) (by omega) (by decide)) (xb_cl (xb_na (xb_nm (xb_lit (x := (3 : Int32)) 3 rfl) zc1.1.1) zc1.2.1) (by omega)) xb_l_i d_M_channel_38 ?_
    refine lv_lmul hx hb d_M_channel_39 ?_
    refine lv_ladd hx hb d_M_channel_40 ?_
    refine lv_ldc2 hx hb hown (ht _ xw1276) d_M_channel_41 ?_
    refine lv_aload_n hx hb d_M_channel_44 rfl (lv_at hl 1 rfl) ?_
    refine sm_g (v := .ref (α 32)) hx hb ht hown hK hP 34 (by decide) (ht _ xw986) (fun _ h_ => h_) rfl d_M_channel_45 ?_
    refine lv_iload_n hx hb d_M_channel_48 rfl (lv_at hl 0 rfl) ?_
    refine sm_gaI (L := 6) (n := ((3 * x1.toNatClampNeg) + x2.toNatClampNeg)) (v := (σ.1 32 ((3 * x1.toNatClampNeg) + x2.toNatClampNeg))) hx hb hK hP 32 31 rfl rfl (xb_in (xb_na (xb_nm (xb_lit (x := (3 : Int32)) 3 rfl) zc1.1.1) zc1.2.1) (by omega) (by decide)) (xb_cl (xb_na (xb_nm (xb_lit (x := (3 : Int32)) 3 rfl) zc1.1.1) zc1.2.1) (by omega)) (xb_i_nk (by decide)) d_M_channel_49 ?_
    refine lv_i2l (v := (σ.1 32 ((3 * x1.toNatClampNeg) + x2.toNatClampNeg)).toInt64) hx hb d_M_channel_50 (by rfl) ?_
    refine lv_lmul hx hb d_M_channel_51 ?_
    refine lv_ladd hx hb d_M_channel_52 ?_
    refine lv_ldc2 hx hb hown (ht _ xw1277) d_M_channel_53 ?_
    refine lv_aload_n hx hb d_M_channel_56 rfl (lv_at hl 1 rfl) ?_
    refine sm_g (v := .ref (α 31)) hx hb ht hown hK hP 33 (by decide) (ht _ xw985) (fun _ h_ => h_) rfl d_M_channel_57 ?_
    refine lv_iload_n hx hb d_M_channel_60 rfl (lv_at hl 0 rfl) ?_
    refine sm_gaI (L := 6) (n := ((3 * x1.toNatClampNeg) + x2.toNatClampNeg)) (v := (σ.1 31 ((3 * x1.toNatClampNeg) + x2.toNatClampNeg))) hx hb hK hP 31 30 rfl rfl (xb_in (xb_na (xb_nm (xb_lit (x := (3 : Int32)) 3 rfl) zc1.1.1) zc1.2.1) (by omega) (by decide)) (xb_cl (xb_na (xb_nm (xb_lit (x := (3 : Int32)) 3 rfl) zc1.1.1) zc1.2.1) (by omega)) (xb_i_nk (by decide)) d_M_channel_61 ?_
    refine lv_i2l (v := (σ.1 31 ((3 * x1.toNatClampNeg) + x2.toNatClampNeg)).toInt64) hx hb d_M_channel_62 (by rfl) ?_
    refine lv_lmul hx hb d_M_channel_63 ?_
    refine lv_ladd hx hb d_M_channel_64 ?_
    refine lv_ldc2 hx hb hown (ht _ xw1278) d_M_channel_65 ?_
    refine lv_aload_n hx hb d_M_channel_68 rfl (lv_at hl 1 rfl) ?_
    refine sm_g (v := .ref (α 30)) hx hb ht hown hK hP 32 (by decide) (ht _ xw984) (fun _ h_ => h_) rfl d_M_channel_69 ?_
    refine lv_iload_n hx hb d_M_channel_72 rfl (lv_at hl 0 rfl) ?_
    refine sm_gaJ (L := 6) (n := ((3 * x1.toNatClampNeg) + x2.toNatClampNeg)) (v := (σ.2 30 ((3 * x1.toNatClampNeg) + x2.toNatClampNeg))) hx hb hK hP 30 29 rfl rfl (xb_in (xb_na (xb_nm (xb_lit (x := (3 : Int32)) 3 rfl) zc1.1.1) zc1.2.1) (by omega) (by decide)) (xb_cl (xb_na (xb_nm (xb_lit (x := (3 : Int32)) 3 rfl) zc1.1.1) zc1.2.1) (by omega)) xb_l_i d_M_channel_73 ?_
    refine lv_lmul hx hb d_M_channel_74 ?_
    refine lv_ladd hx hb d_M_channel_75 ?_
    exact W.lret (v := (((((σ.1 28 ((3 * x1.toNatClampNeg) + x2.toNatClampNeg)).toInt64 + ((4 : Int64) * (σ.2 29 ((3 * x1.toNatClampNeg) + x2.toNatClampNeg)))) + ((16 : Int64) * (σ.1 32 ((3 * x1.toNatClampNeg) + x2.toNatClampNeg)).toInt64)) + ((1024 : Int64) * (σ.1 31 ((3 * x1.toNatClampNeg) + x2.toNatClampNeg)).toInt64)) + ((65536 : Int64) * (σ.2 30 ((3 * x1.toNatClampNeg) + x2.toNatClampNeg))))) hx hb hr (fun t ht_ hW => ⟨⟨(((((σ.1 28 ((3 * x1.toNatClampNeg) + x2.toNatClampNeg)).toInt64 + ((4 : Int64) * (σ.2 29 ((3 * x1.toNatClampNeg) + x2.toNatClampNeg)))) + ((16 : Int64) * (σ.1 32 ((3 * x1.toNatClampNeg) + x2.toNatClampNeg)).toInt64)) + ((1024 : Int64) * (σ.1 31 ((3 * x1.toNatClampNeg) + x2.toNatClampNeg)).toInt64)) + ((65536 : Int64) * (σ.2 30 ((3 * x1.toNatClampNeg) + x2.toNatClampNeg)))), (xb_si σ 0 0 (0 : Int32)), rfl, ⟨congrArg Prod.fst ((((if_neg c1)).symm) : ((((((σ.1 28 ((3 * x1.toNatClampNeg) + x2.toNatClampNeg)).toInt64 + ((4 : Int64) * (σ.2 29 ((3 * x1.toNatClampNeg) + x2.toNatClampNeg)))) + ((16 : Int64) * (σ.1 32 ((3 * x1.toNatClampNeg) + x2.toNatClampNeg)).toInt64)) + ((1024 : Int64) * (σ.1 31 ((3 * x1.toNatClampNeg) + x2.toNatClampNeg)).toInt64)) + ((65536 : Int64) * (σ.2 30 ((3 * x1.toNatClampNeg) + x2.toNatClampNeg)))), (xb_si σ 0 0 (0 : Int32))) = q_channel x1 x2 σ), congrArg Prod.snd ((((if_neg c1)).symm) : ((((((σ.1 28 ((3 * x1.toNatClampNeg) + x2.toNatClampNeg)).toInt64 + ((4 : Int64) * (σ.2 29 ((3 * x1.toNatClampNeg) + x2.toNatClampNeg)))) + ((16 : Int64) * (σ.1 32 ((3 * x1.toNatClampNeg) + x2.toNatClampNeg)).toInt64)) + ((1024 : Int64) * (σ.1 31 ((3 * x1.toNatClampNeg) + x2.toNatClampNeg)).toInt64)) + ((65536 : Int64) * (σ.2 30 ((3 * x1.toNatClampNeg) + x2.toNatClampNeg)))), (xb_si σ 0 0 (0 : Int32))) = q_channel x1 x2 σ)⟩, by rw [sm_B, ht_]; exact hP⟩, hS.F ht_⟩) hS.2.2 d_M_channel_76
  · skip
    refine lv_ldc2 hx hb hown (ht _ xw1263) d_M_channel_13 ?_
    exact W.lret (v := (-1 : Int64)) hx hb hr (fun t ht_ hW => ⟨⟨(-1 : Int64), (xb_si σ 0 0 (0 : Int32)), rfl, ⟨congrArg Prod.fst ((((if_pos c1)).symm) : ((-1 : Int64), (xb_si σ 0 0 (0 : Int32))) = q_channel x1 x2 σ), congrArg Prod.snd ((((if_pos c1)).symm) : ((-1 : Int64), (xb_si σ 0 0 (0 : Int32))) = q_channel x1 x2 σ)⟩, by rw [sm_B, ht_]; exact hP⟩, hS.F ht_⟩) hS.2.2 d_M_channel_16
theorem ok_q_channel {σ : xb_St} (x1 : Int32) (x2 : Int32)  (ok : sm_ok σ) : sm_ok (q_channel x1 x2 σ).2 := by
  unfold q_channel
  by_cases c1 : (g_isChannel x1 x2) = 0
  · rw [if_pos c1]
    exact (mk_si ok (by decide))
  · rw [if_neg c1]
    have zc1 := sm_chan c1
    exact (mk_si ok (by decide))
abbrev b_M_offer : ByteArray := prog_12_method_38_code
def y_M_offer : MethodName := ⟨"SecurePairModel", "offer", "(III)Z"⟩
abbrev w_M_offer : List Cond := .code y_M_offer b_M_offer 4 (some .boolean) :: xa
theorem d_M_offer_0 : decode b_M_offer 0 = .ok (.aload_n 0, 1) := by decide +kernel
theorem d_M_offer_1 : decode b_M_offer 1 = .ok (.iconst 0, 1) := by decide +kernel
theorem d_M_offer_2 : decode b_M_offer 2 = .ok (.putfield 120, 3) := by decide +kernel
theorem d_M_offer_5 : decode b_M_offer 5 = .ok (.iload_n 1, 1) := by decide +kernel
theorem d_M_offer_6 : decode b_M_offer 6 = .ok (.invokestatic 169, 3) := by decide +kernel
theorem d_M_offer_9 : decode b_M_offer 9 = .ok (.ifCond .eq 19, 3) := by decide +kernel
theorem d_M_offer_12 : decode b_M_offer 12 = .ok (.iload_n 2, 1) := by decide +kernel
theorem d_M_offer_13 : decode b_M_offer 13 = .ok (.i2l, 1) := by decide +kernel
theorem d_M_offer_14 : decode b_M_offer 14 = .ok (.invokestatic 185, 3) := by decide +kernel
theorem d_M_offer_17 : decode b_M_offer 17 = .ok (.ifCond .eq 11, 3) := by decide +kernel
theorem d_M_offer_20 : decode b_M_offer 20 = .ok (.iload_n 3, 1) := by decide +kernel
theorem d_M_offer_21 : decode b_M_offer 21 = .ok (.i2l, 1) := by decide +kernel
theorem d_M_offer_22 : decode b_M_offer 22 = .ok (.invokestatic 185, 3) := by decide +kernel
theorem d_M_offer_25 : decode b_M_offer 25 = .ok (.ifCond .ne 5, 3) := by decide +kernel
theorem d_M_offer_28 : decode b_M_offer 28 = .ok (.iconst 0, 1) := by decide +kernel
theorem d_M_offer_29 : decode b_M_offer 29 = .ok (.ireturn, 1) := by decide +kernel
theorem d_M_offer_30 : decode b_M_offer 30 = .ok (.aload_n 0, 1) := by decide +kernel
theorem d_M_offer_31 : decode b_M_offer 31 = .ok (.getfield 7, 3) := by decide +kernel
theorem d_M_offer_34 : decode b_M_offer 34 = .ok (.iload_n 1, 1) := by decide +kernel
theorem d_M_offer_35 : decode b_M_offer 35 = .ok (.iload_n 2, 1) := by decide +kernel
theorem d_M_offer_36 : decode b_M_offer 36 = .ok (.iastore, 1) := by decide +kernel
theorem d_M_offer_37 : decode b_M_offer 37 = .ok (.aload_n 0, 1) := by decide +kernel
theorem d_M_offer_38 : decode b_M_offer 38 = .ok (.getfield 13, 3) := by decide +kernel
theorem d_M_offer_41 : decode b_M_offer 41 = .ok (.iload_n 1, 1) := by decide +kernel
theorem d_M_offer_42 : decode b_M_offer 42 = .ok (.iload_n 3, 1) := by decide +kernel
theorem d_M_offer_43 : decode b_M_offer 43 = .ok (.iastore, 1) := by decide +kernel
theorem d_M_offer_44 : decode b_M_offer 44 = .ok (.iconst 1, 1) := by decide +kernel
theorem d_M_offer_45 : decode b_M_offer 45 = .ok (.ireturn, 1) := by decide +kernel
theorem xw1125 : (Cond.methodLink "SecurePairModel" (185 : Nat) ({ cls := "SecurePairModel", name := "isList", desc := "(J)Z" } : MethodName)) ∈ xa := xa_t 1125 (by decide +kernel) (by decide +kernel)
theorem xw1126 : (Cond.static ({ cls := "SecurePairModel", name := "isList", desc := "(J)Z" } : MethodName)) ∈ xa := xa_t 1126 (by decide +kernel) (by decide +kernel)
theorem xw1127 : (Cond.code ({ cls := "SecurePairModel", name := "isList", desc := "(J)Z" } : MethodName) prog_12_method_10_code (6 : Nat) (Option.some ClassFile.FieldType.boolean)) ∈ xa := xa_t 1127 (by decide +kernel) (by decide +kernel)
def q_offer (x1 : Int32) (x2 : Int32) (x3 : Int32) (σ : xb_St) : Int32 × xb_St := (if (g_isEnd x1) = 0 then ((0 : Int32), (xb_si σ 0 0 (0 : Int32))) else (if (g_isList x2.toInt64) = 0 then ((0 : Int32), (xb_si σ 0 0 (0 : Int32))) else (if (g_isList x3.toInt64) = 0 then ((0 : Int32), (xb_si σ 0 0 (0 : Int32))) else ((1 : Int32), (xb_si (xb_si (xb_si σ 0 0 (0 : Int32)) 1 x1.toNatClampNeg x2) 2 x1.toNatClampNeg x3)))))
set_option maxHeartbeats 4000000 in
set_option maxRecDepth 100000 in
theorem c_M_offer (l : Launch) (D : va_G) (α : Nat → Nat) (κ : Nat → ClassId) (hα : xb_inj α 35) (σ : xb_St) (x1 : Int32) (x2 : Int32) (x3 : Int32) : Met l y_M_offer w_M_offer ({ frames := 1, cells := 0, slots := 0, locals := 25 }) (va_Pc ([.ref (α 0), .int x1, .int x2, .int x3]) (sm_Pre D α κ σ)) (va_Qi (fun r (u : xb_St) => r = (q_offer x1 x2 x3 σ).1 ∧ u = (q_offer x1 x2 x3 σ).2) (sm_B D α κ) (xb_A α 35)) 0 0 (xb_A α 35) := by
  refine Met.ofW (cc := b_M_offer) (maxL := 4) (ret := (some .boolean)) (by decide) rfl ?_
  intro p e s m args below meth c s₁ B_ hml hv
  obtain ⟨rfl, hP, hK, hN⟩ := hv
  have hx := B_.exec
  have hb := B_.bytes
  have hr := B_.returns
  have hts := atoms_spec (ws := w_M_offer) B_.pre
  have ht : ∀ w ∈ xa, w.before _ s = true := fun w h => hts w (List.mem_cons_of_mem _ h)
  have hown : s.vm.findClass "SecurePairModel" = some m.cls := findClass_of_methodNamed B_.named
  have hlocks := B_.notSynchronized
  have hD := sm_D hα κ
  have hS : va_S (xb_A α 35) s.heap s.heap [] := va_S.rf
  have hl := lv_entry ([.ref (α 0), .int x1, .int x2, .int x3]) (n := 4) (Nat.le_of_ble_eq_true rfl)
  rw [lg_entry_eq]
  generalize (lg_sl ([.ref (α 0), .int x1, .int x2, .int x3]) ++ List.replicate (4 - (lg_sl ([.ref (α 0), .int x1, .int x2, .int x3])).length) Slot.unset).toArray = ls at hl ⊢
  have hl : lv_has ls 4 [(0, .ref (α 0)), (1, .int x1), (2, .int x2), (3, .int x3)] := hl
  refine lv_aload_n hx hb d_M_offer_0 rfl (lv_at hl 0 rfl) ?_
  refine lv_iconst (v := 0) hx hb d_M_offer_1 (by decide) ?_
  refine sm_pi (x := (0 : Int32)) (ty := .int) hx hb ht hown hK hP 0 (by decide) (ht _ xw952) (fun _ h_ => h_) hD hS rfl (by decide +kernel) rfl rfl sm_f_0 d_M_offer_2 (fun H locs hP hS => ?_)
  refine lv_iload_n hx hb d_M_offer_5 rfl (lv_at hl 1 rfl) ?_
  refine vp_callSi (W.runS (As := [.int x1]) (rest := []) ⟨hx, hb, hml, hown, hts⟩ (c_M_isEnd l x1) (cwS 1 hts (xa_S xw1073 xw1074 xw11 xw1075) rfl rfl rfl (by decide +kernel) ⟨Nat.le_of_ble_eq_true rfl, Nat.le_of_ble_eq_true rfl⟩) preEq rfl rfl hl.1 rfl (lv_room (Nat.le_of_ble_eq_true rfl)) d_M_offer_6 ⟨Nat.le_of_ble_eq_true rfl, Nat.le_of_ble_eq_true rfl⟩) (fun r_ e_ => ?_)
  subst e_
  refine lv_if_eq (tgt := 28) hx hb d_M_offer_9 (by decide) (fun c1 => ?_) (fun c1 => ?_)
  · skip
    refine lv_iconst (v := 0) hx hb d_M_offer_28 (by decide) ?_
    exact W.zret (v := (0 : Int32)) hx hb hr rfl (fun t ht_ hW => ⟨⟨(0 : Int32), (xb_si σ 0 0 (0 : Int32)), rfl, ⟨congrArg Prod.fst ((((if_pos c1)).symm) : ((0 : Int32), (xb_si σ 0 0 (0 : Int32))) = q_offer x1 x2 x3 σ), congrArg Prod.snd ((((if_pos c1)).symm) : ((0 : Int32), (xb_si σ 0 0 (0 : Int32))) = q_offer x1 x2 x3 σ)⟩, by rw [sm_B, ht_]; exact hP⟩, hS.F ht_⟩) hS.2.2 d_M_offer_29
  · skip
    have zc1 := sm_end c1
    refine lv_iload_n hx hb d_M_offer_12 rfl (lv_at hl 2 rfl) ?_
    refine lv_i2l (v := x2.toInt64) hx hb d_M_offer_13 (by rfl) ?_
    refine vp_callSi (W.runS (As := [.long x2.toInt64]) (rest := []) ⟨hx, hb, hml, hown, hts⟩ (c_M_isList l x2.toInt64) (cwS 1 hts (xa_S xw1125 xw1126 xw11 xw1127) rfl rfl rfl (by decide +kernel) ⟨Nat.le_of_ble_eq_true rfl, Nat.le_of_ble_eq_true rfl⟩) preEq rfl rfl hl.1 rfl (lv_room (Nat.le_of_ble_eq_true rfl)) d_M_offer_14 ⟨Nat.le_of_ble_eq_true rfl, Nat.le_of_ble_eq_true rfl⟩) (fun r_ e_ => ?_)
    subst e_
    refine lv_if_eq (tgt := 28) hx hb d_M_offer_17 (by decide) (fun c2 => ?_) (fun c2 => ?_)
    · skip
      refine lv_iconst (v := 0) hx hb d_M_offer_28 (by decide) ?_
      exact W.zret (v := (0 : Int32)) hx hb hr rfl (fun t ht_ hW => ⟨⟨(0 : Int32), (xb_si σ 0 0 (0 : Int32)), rfl, ⟨congrArg Prod.fst ((((if_neg c1).trans ((if_pos c2))).symm) : ((0 : Int32), (xb_si σ 0 0 (0 : Int32))) = q_offer x1 x2 x3 σ), congrArg Prod.snd ((((if_neg c1).trans ((if_pos c2))).symm) : ((0 : Int32), (xb_si σ 0 0 (0 : Int32))) = q_offer x1 x2 x3 σ)⟩, by rw [sm_B, ht_]; exact hP⟩, hS.F ht_⟩) hS.2.2 d_M_offer_29
    · skip
      refine lv_iload_n hx hb d_M_offer_20 rfl (lv_at hl 3 rfl) ?_
      refine lv_i2l (v := x3.toInt64) hx hb d_M_offer_21 (by rfl) ?_
      refine vp_callSi (W.runS (As := [.long x3.toInt64]) (rest := []) ⟨hx, hb, hml, hown, hts⟩ (c_M_isList l x3.toInt64) (cwS 1 hts (xa_S xw1125 xw1126 xw11 xw1127) rfl rfl rfl (by decide +kernel) ⟨Nat.le_of_ble_eq_true rfl, Nat.le_of_ble_eq_true rfl⟩) preEq rfl rfl hl.1 rfl (lv_room (Nat.le_of_ble_eq_true rfl)) d_M_offer_22 ⟨Nat.le_of_ble_eq_true rfl, Nat.le_of_ble_eq_true rfl⟩) (fun r_ e_ => ?_)
      subst e_
      refine lv_if_ne (tgt := 30) hx hb d_M_offer_25 (by decide) (fun c3 => ?_) (fun c3 => ?_)
      · skip
        refine lv_aload_n hx hb d_M_offer_30 rfl (lv_at hl 0 rfl) ?_
        refine sm_g (v := .ref (α 1)) hx hb ht hown hK hP 1 (by decide) (ht _ xw953) (fun _ h_ => h_) rfl d_M_offer_31 ?_
        refine lv_iload_n hx hb d_M_offer_34 rfl (lv_at hl 1 rfl) ?_
        refine lv_iload_n hx hb d_M_offer_35 rfl (lv_at hl 2 rfl) ?_
        refine sm_paI (L := 2) (n := x1.toNatClampNeg) (x := x2) hx hb hK hP 1 0 rfl rfl hD hS (xb_in zc1.1 (by omega) (by decide)) (xb_cl zc1.1 (by omega)) sm_s_1 d_M_offer_36 (fun H locs hP hS => ?_)
        refine lv_aload_n hx hb d_M_offer_37 rfl (lv_at hl 0 rfl) ?_
        refine sm_g (v := .ref (α 2)) hx hb ht hown hK hP 2 (by decide) (ht _ xw954) (fun _ h_ => h_) rfl d_M_offer_38 ?_
        refine lv_iload_n hx hb d_M_offer_41 rfl (lv_at hl 1 rfl) ?_
        refine lv_iload_n hx hb d_M_offer_42 rfl (lv_at hl 3 rfl) ?_
        refine sm_paI (L := 2) (n := x1.toNatClampNeg) (x := x3) hx hb hK hP 2 1 rfl rfl hD hS (xb_in zc1.1 (by omega) (by decide)) (xb_cl zc1.1 (by omega)) sm_s_2 d_M_offer_43 (fun H locs hP hS => ?_)
        refine lv_iconst (v := 1) hx hb d_M_offer_44 (by decide) ?_
        exact W.zret (v := (1 : Int32)) hx hb hr rfl (fun t ht_ hW => ⟨⟨(1 : Int32), (xb_si (xb_si (xb_si σ 0 0 (0 : Int32)) 1 x1.toNatClampNeg x2) 2 x1.toNatClampNeg x3), rfl, ⟨congrArg Prod.fst ((((if_neg c1).trans ((if_neg c2).trans ((if_neg c3)))).symm) : ((1 : Int32), (xb_si (xb_si (xb_si σ 0 0 (0 : Int32)) 1 x1.toNatClampNeg x2) 2 x1.toNatClampNeg x3)) = q_offer x1 x2 x3 σ), congrArg Prod.snd ((((if_neg c1).trans ((if_neg c2).trans ((if_neg c3)))).symm) : ((1 : Int32), (xb_si (xb_si (xb_si σ 0 0 (0 : Int32)) 1 x1.toNatClampNeg x2) 2 x1.toNatClampNeg x3)) = q_offer x1 x2 x3 σ)⟩, by rw [sm_B, ht_]; exact hP⟩, hS.F ht_⟩) hS.2.2 d_M_offer_45
      · skip
        refine lv_iconst (v := 0) hx hb d_M_offer_28 (by decide) ?_
        exact W.zret (v := (0 : Int32)) hx hb hr rfl (fun t ht_ hW => ⟨⟨(0 : Int32), (xb_si σ 0 0 (0 : Int32)), rfl, ⟨congrArg Prod.fst ((((if_neg c1).trans ((if_neg c2).trans ((if_pos c3)))).symm) : ((0 : Int32), (xb_si σ 0 0 (0 : Int32))) = q_offer x1 x2 x3 σ), congrArg Prod.snd ((((if_neg c1).trans ((if_neg c2).trans ((if_pos c3)))).symm) : ((0 : Int32), (xb_si σ 0 0 (0 : Int32))) = q_offer x1 x2 x3 σ)⟩, by rw [sm_B, ht_]; exact hP⟩, hS.F ht_⟩) hS.2.2 d_M_offer_29
theorem ok_q_offer {σ : xb_St} (x1 : Int32) (x2 : Int32) (x3 : Int32)  (ok : sm_ok σ) : sm_ok (q_offer x1 x2 x3 σ).2 := by
  unfold q_offer
  by_cases c1 : (g_isEnd x1) = 0
  · rw [if_pos c1]
    exact (mk_si ok (by decide))
  · rw [if_neg c1]
    have zc1 := sm_end c1
    by_cases c2 : (g_isList x2.toInt64) = 0
    · rw [if_pos c2]
      exact (mk_si ok (by decide))
    · rw [if_neg c2]
      by_cases c3 : (g_isList x3.toInt64) = 0
      · rw [if_pos c3]
        exact (mk_si ok (by decide))
      · rw [if_neg c3]
        exact (mk_si (mk_si (mk_si ok (by decide)) (by decide)) (by decide))
abbrev b_M_secret : ByteArray := prog_12_method_39_code
def y_M_secret : MethodName := ⟨"SecurePairModel", "secret", "(II)Z"⟩
abbrev w_M_secret : List Cond := .code y_M_secret b_M_secret 3 (some .boolean) :: xa
theorem d_M_secret_0 : decode b_M_secret 0 = .ok (.aload_n 0, 1) := by decide +kernel
theorem d_M_secret_1 : decode b_M_secret 1 = .ok (.iconst 0, 1) := by decide +kernel
theorem d_M_secret_2 : decode b_M_secret 2 = .ok (.putfield 120, 3) := by decide +kernel
theorem d_M_secret_5 : decode b_M_secret 5 = .ok (.iload_n 1, 1) := by decide +kernel
theorem d_M_secret_6 : decode b_M_secret 6 = .ok (.invokestatic 169, 3) := by decide +kernel
theorem d_M_secret_9 : decode b_M_secret 9 = .ok (.ifCond .eq 15, 3) := by decide +kernel
theorem d_M_secret_12 : decode b_M_secret 12 = .ok (.iload_n 2, 1) := by decide +kernel
theorem d_M_secret_13 : decode b_M_secret 13 = .ok (.iconst 1, 1) := by decide +kernel
theorem d_M_secret_14 : decode b_M_secret 14 = .ok (.if_icmp .lt 10, 3) := by decide +kernel
theorem d_M_secret_17 : decode b_M_secret 17 = .ok (.iload_n 2, 1) := by decide +kernel
theorem d_M_secret_18 : decode b_M_secret 18 = .ok (.ldc_w 264, 3) := by decide +kernel
theorem d_M_secret_21 : decode b_M_secret 21 = .ok (.if_icmp .le 5, 3) := by decide +kernel
theorem d_M_secret_24 : decode b_M_secret 24 = .ok (.iconst 0, 1) := by decide +kernel
theorem d_M_secret_25 : decode b_M_secret 25 = .ok (.ireturn, 1) := by decide +kernel
theorem d_M_secret_26 : decode b_M_secret 26 = .ok (.aload_n 0, 1) := by decide +kernel
theorem d_M_secret_27 : decode b_M_secret 27 = .ok (.getfield 16, 3) := by decide +kernel
theorem d_M_secret_30 : decode b_M_secret 30 = .ok (.iload_n 1, 1) := by decide +kernel
theorem d_M_secret_31 : decode b_M_secret 31 = .ok (.iload_n 2, 1) := by decide +kernel
theorem d_M_secret_32 : decode b_M_secret 32 = .ok (.iastore, 1) := by decide +kernel
theorem d_M_secret_33 : decode b_M_secret 33 = .ok (.iconst 1, 1) := by decide +kernel
theorem d_M_secret_34 : decode b_M_secret 34 = .ok (.ireturn, 1) := by decide +kernel
def q_secret (x1 : Int32) (x2 : Int32) (σ : xb_St) : Int32 × xb_St := (if (g_isEnd x1) = 0 then ((0 : Int32), (xb_si σ 0 0 (0 : Int32))) else (if x2 < (1 : Int32) then ((0 : Int32), (xb_si σ 0 0 (0 : Int32))) else (if x2 ≤ (2147483645 : Int32) then ((1 : Int32), (xb_si (xb_si σ 0 0 (0 : Int32)) 3 x1.toNatClampNeg x2)) else ((0 : Int32), (xb_si σ 0 0 (0 : Int32))))))
set_option maxHeartbeats 4000000 in
set_option maxRecDepth 100000 in
theorem c_M_secret (l : Launch) (D : va_G) (α : Nat → Nat) (κ : Nat → ClassId) (hα : xb_inj α 35) (σ : xb_St) (x1 : Int32) (x2 : Int32) : Met l y_M_secret w_M_secret ({ frames := 1, cells := 0, slots := 0, locals := 20 }) (va_Pc ([.ref (α 0), .int x1, .int x2]) (sm_Pre D α κ σ)) (va_Qi (fun r (u : xb_St) => r = (q_secret x1 x2 σ).1 ∧ u = (q_secret x1 x2 σ).2) (sm_B D α κ) (xb_A α 35)) 0 0 (xb_A α 35) := by
  refine Met.ofW (cc := b_M_secret) (maxL := 3) (ret := (some .boolean)) (by decide) rfl ?_
  intro p e s m args below meth c s₁ B_ hml hv
  obtain ⟨rfl, hP, hK, hN⟩ := hv
  have hx := B_.exec
  have hb := B_.bytes
  have hr := B_.returns
  have hts := atoms_spec (ws := w_M_secret) B_.pre
  have ht : ∀ w ∈ xa, w.before _ s = true := fun w h => hts w (List.mem_cons_of_mem _ h)
  have hown : s.vm.findClass "SecurePairModel" = some m.cls := findClass_of_methodNamed B_.named
  have hlocks := B_.notSynchronized
  have hD := sm_D hα κ
  have hS : va_S (xb_A α 35) s.heap s.heap [] := va_S.rf
  have hl := lv_entry ([.ref (α 0), .int x1, .int x2]) (n := 3) (Nat.le_of_ble_eq_true rfl)
  rw [lg_entry_eq]
  generalize (lg_sl ([.ref (α 0), .int x1, .int x2]) ++ List.replicate (3 - (lg_sl ([.ref (α 0), .int x1, .int x2])).length) Slot.unset).toArray = ls at hl ⊢
  have hl : lv_has ls 3 [(0, .ref (α 0)), (1, .int x1), (2, .int x2)] := hl
  refine lv_aload_n hx hb d_M_secret_0 rfl (lv_at hl 0 rfl) ?_
  refine lv_iconst (v := 0) hx hb d_M_secret_1 (by decide) ?_
  refine sm_pi (x := (0 : Int32)) (ty := .int) hx hb ht hown hK hP 0 (by decide) (ht _ xw952) (fun _ h_ => h_) hD hS rfl (by decide +kernel) rfl rfl sm_f_0 d_M_secret_2 (fun H locs hP hS => ?_)
  refine lv_iload_n hx hb d_M_secret_5 rfl (lv_at hl 1 rfl) ?_
  refine vp_callSi (W.runS (As := [.int x1]) (rest := []) ⟨hx, hb, hml, hown, hts⟩ (c_M_isEnd l x1) (cwS 1 hts (xa_S xw1073 xw1074 xw11 xw1075) rfl rfl rfl (by decide +kernel) ⟨Nat.le_of_ble_eq_true rfl, Nat.le_of_ble_eq_true rfl⟩) preEq rfl rfl hl.1 rfl (lv_room (Nat.le_of_ble_eq_true rfl)) d_M_secret_6 ⟨Nat.le_of_ble_eq_true rfl, Nat.le_of_ble_eq_true rfl⟩) (fun r_ e_ => ?_)
  subst e_
  refine lv_if_eq (tgt := 24) hx hb d_M_secret_9 (by decide) (fun c1 => ?_) (fun c1 => ?_)
  · skip
    refine lv_iconst (v := 0) hx hb d_M_secret_24 (by decide) ?_
    exact W.zret (v := (0 : Int32)) hx hb hr rfl (fun t ht_ hW => ⟨⟨(0 : Int32), (xb_si σ 0 0 (0 : Int32)), rfl, ⟨congrArg Prod.fst ((((if_pos c1)).symm) : ((0 : Int32), (xb_si σ 0 0 (0 : Int32))) = q_secret x1 x2 σ), congrArg Prod.snd ((((if_pos c1)).symm) : ((0 : Int32), (xb_si σ 0 0 (0 : Int32))) = q_secret x1 x2 σ)⟩, by rw [sm_B, ht_]; exact hP⟩, hS.F ht_⟩) hS.2.2 d_M_secret_25
  · skip
    have zc1 := sm_end c1
    refine lv_iload_n hx hb d_M_secret_12 rfl (lv_at hl 2 rfl) ?_
    refine lv_iconst (v := 1) hx hb d_M_secret_13 (by decide) ?_
    refine lv_icmp_lt (tgt := 24) hx hb d_M_secret_14 (by decide) (fun c2 => ?_) (fun c2 => ?_)
    · skip
      refine lv_iconst (v := 0) hx hb d_M_secret_24 (by decide) ?_
      exact W.zret (v := (0 : Int32)) hx hb hr rfl (fun t ht_ hW => ⟨⟨(0 : Int32), (xb_si σ 0 0 (0 : Int32)), rfl, ⟨congrArg Prod.fst ((((if_neg c1).trans ((if_pos c2))).symm) : ((0 : Int32), (xb_si σ 0 0 (0 : Int32))) = q_secret x1 x2 σ), congrArg Prod.snd ((((if_neg c1).trans ((if_pos c2))).symm) : ((0 : Int32), (xb_si σ 0 0 (0 : Int32))) = q_secret x1 x2 σ)⟩, by rw [sm_B, ht_]; exact hP⟩, hS.F ht_⟩) hS.2.2 d_M_secret_25
    · skip
      refine lv_iload_n hx hb d_M_secret_17 rfl (lv_at hl 2 rfl) ?_
      refine lv_ldcw hx hb hown (ht _ xw1222) d_M_secret_18 ?_
      refine lv_icmp_le (tgt := 26) hx hb d_M_secret_21 (by decide) (fun c3 => ?_) (fun c3 => ?_)
      · skip
        refine lv_aload_n hx hb d_M_secret_26 rfl (lv_at hl 0 rfl) ?_
        refine sm_g (v := .ref (α 3)) hx hb ht hown hK hP 3 (by decide) (ht _ xw955) (fun _ h_ => h_) rfl d_M_secret_27 ?_
        refine lv_iload_n hx hb d_M_secret_30 rfl (lv_at hl 1 rfl) ?_
        refine lv_iload_n hx hb d_M_secret_31 rfl (lv_at hl 2 rfl) ?_
        refine sm_paI (L := 2) (n := x1.toNatClampNeg) (x := x2) hx hb hK hP 3 2 rfl rfl hD hS (xb_in zc1.1 (by omega) (by decide)) (xb_cl zc1.1 (by omega)) sm_s_3 d_M_secret_32 (fun H locs hP hS => ?_)
        refine lv_iconst (v := 1) hx hb d_M_secret_33 (by decide) ?_
        exact W.zret (v := (1 : Int32)) hx hb hr rfl (fun t ht_ hW => ⟨⟨(1 : Int32), (xb_si (xb_si σ 0 0 (0 : Int32)) 3 x1.toNatClampNeg x2), rfl, ⟨congrArg Prod.fst ((((if_neg c1).trans ((if_neg c2).trans ((if_pos c3)))).symm) : ((1 : Int32), (xb_si (xb_si σ 0 0 (0 : Int32)) 3 x1.toNatClampNeg x2)) = q_secret x1 x2 σ), congrArg Prod.snd ((((if_neg c1).trans ((if_neg c2).trans ((if_pos c3)))).symm) : ((1 : Int32), (xb_si (xb_si σ 0 0 (0 : Int32)) 3 x1.toNatClampNeg x2)) = q_secret x1 x2 σ)⟩, by rw [sm_B, ht_]; exact hP⟩, hS.F ht_⟩) hS.2.2 d_M_secret_34
      · skip
        refine lv_iconst (v := 0) hx hb d_M_secret_24 (by decide) ?_
        exact W.zret (v := (0 : Int32)) hx hb hr rfl (fun t ht_ hW => ⟨⟨(0 : Int32), (xb_si σ 0 0 (0 : Int32)), rfl, ⟨congrArg Prod.fst ((((if_neg c1).trans ((if_neg c2).trans ((if_neg c3)))).symm) : ((0 : Int32), (xb_si σ 0 0 (0 : Int32))) = q_secret x1 x2 σ), congrArg Prod.snd ((((if_neg c1).trans ((if_neg c2).trans ((if_neg c3)))).symm) : ((0 : Int32), (xb_si σ 0 0 (0 : Int32))) = q_secret x1 x2 σ)⟩, by rw [sm_B, ht_]; exact hP⟩, hS.F ht_⟩) hS.2.2 d_M_secret_25
theorem ok_q_secret {σ : xb_St} (x1 : Int32) (x2 : Int32)  (ok : sm_ok σ) : sm_ok (q_secret x1 x2 σ).2 := by
  unfold q_secret
  by_cases c1 : (g_isEnd x1) = 0
  · rw [if_pos c1]
    exact (mk_si ok (by decide))
  · rw [if_neg c1]
    have zc1 := sm_end c1
    by_cases c2 : x2 < (1 : Int32)
    · rw [if_pos c2]
      exact (mk_si ok (by decide))
    · rw [if_neg c2]
      by_cases c3 : x2 ≤ (2147483645 : Int32)
      · rw [if_pos c3]
        exact (mk_si (mk_si ok (by decide)) (by decide))
      · rw [if_neg c3]
        exact (mk_si ok (by decide))
abbrev b_M_leave : ByteArray := prog_12_method_42_code
def y_M_leave : MethodName := ⟨"SecurePairModel", "leave", "(II)Z"⟩
abbrev w_M_leave : List Cond := .code y_M_leave b_M_leave 3 (some .boolean) :: xa
theorem d_M_leave_0 : decode b_M_leave 0 = .ok (.aload_n 0, 1) := by decide +kernel
theorem d_M_leave_1 : decode b_M_leave 1 = .ok (.iconst 0, 1) := by decide +kernel
theorem d_M_leave_2 : decode b_M_leave 2 = .ok (.putfield 120, 3) := by decide +kernel
theorem d_M_leave_5 : decode b_M_leave 5 = .ok (.iload_n 1, 1) := by decide +kernel
theorem d_M_leave_6 : decode b_M_leave 6 = .ok (.invokestatic 169, 3) := by decide +kernel
theorem d_M_leave_9 : decode b_M_leave 9 = .ok (.ifCond .eq 13, 3) := by decide +kernel
theorem d_M_leave_12 : decode b_M_leave 12 = .ok (.aload_n 0, 1) := by decide +kernel
theorem d_M_leave_13 : decode b_M_leave 13 = .ok (.getfield 25, 3) := by decide +kernel
theorem d_M_leave_16 : decode b_M_leave 16 = .ok (.iload_n 1, 1) := by decide +kernel
theorem d_M_leave_17 : decode b_M_leave 17 = .ok (.iaload, 1) := by decide +kernel
theorem d_M_leave_18 : decode b_M_leave 18 = .ok (.iconst 5, 1) := by decide +kernel
theorem d_M_leave_19 : decode b_M_leave 19 = .ok (.if_icmp .ne 5, 3) := by decide +kernel
theorem d_M_leave_22 : decode b_M_leave 22 = .ok (.iconst 0, 1) := by decide +kernel
theorem d_M_leave_23 : decode b_M_leave 23 = .ok (.ireturn, 1) := by decide +kernel
theorem d_M_leave_24 : decode b_M_leave 24 = .ok (.aload_n 0, 1) := by decide +kernel
theorem d_M_leave_25 : decode b_M_leave 25 = .ok (.iload_n 1, 1) := by decide +kernel
theorem d_M_leave_26 : decode b_M_leave 26 = .ok (.iload_n 2, 1) := by decide +kernel
theorem d_M_leave_27 : decode b_M_leave 27 = .ok (.i2l, 1) := by decide +kernel
theorem d_M_leave_28 : decode b_M_leave 28 = .ok (.invokevirtual 181, 3) := by decide +kernel
theorem d_M_leave_31 : decode b_M_leave 31 = .ok (.iconst 1, 1) := by decide +kernel
theorem d_M_leave_32 : decode b_M_leave 32 = .ok (.ireturn, 1) := by decide +kernel
theorem xw1112 : (Cond.methodLink "SecurePairModel" (181 : Nat) ({ cls := "SecurePairModel", name := "fail", desc := "(IJ)V" } : MethodName)) ∈ xa := xa_t 1112 (by decide +kernel) (by decide +kernel)
theorem xw1114 : (Cond.instanceMethod ({ cls := "SecurePairModel", name := "fail", desc := "(IJ)V" } : MethodName)) ∈ xa := xa_t 1114 (by decide +kernel) (by decide +kernel)
theorem xw1115 : (Cond.code ({ cls := "SecurePairModel", name := "fail", desc := "(IJ)V" } : MethodName) prog_12_method_16_code (4 : Nat) (Option.none : Option ClassFile.FieldType)) ∈ xa := xa_t 1115 (by decide +kernel) (by decide +kernel)
theorem xs9 : (Cond.selects "SecurePairModel" ⟨"SecurePairModel", "fail", "(IJ)V"⟩ ⟨"SecurePairModel", "fail", "(IJ)V"⟩) ∈ xa := xa_s 9 (by decide +kernel) (by decide +kernel)
def q_leave (x1 : Int32) (x2 : Int32) (σ : xb_St) : Int32 × xb_St := (if (g_isEnd x1) = 0 then ((0 : Int32), (xb_si σ 0 0 (0 : Int32))) else (if (σ.1 4 x1.toNatClampNeg) = (5 : Int32) then ((0 : Int32), (xb_si σ 0 0 (0 : Int32))) else ((1 : Int32), (q_fail x1.toNatClampNeg x2.toInt64 (xb_si σ 0 0 (0 : Int32))))))
set_option maxHeartbeats 4000000 in
set_option maxRecDepth 100000 in
theorem c_M_leave (l : Launch) (D : va_G) (α : Nat → Nat) (κ : Nat → ClassId) (hα : xb_inj α 35) (σ : xb_St) (x1 : Int32) (x2 : Int32) (ok : sm_ok σ) : Met l y_M_leave w_M_leave ({ frames := 4, cells := 0, slots := 0, locals := 115 }) (va_Pc ([.ref (α 0), .int x1, .int x2]) (sm_Pre D α κ σ)) (va_Qi (fun r (u : xb_St) => r = (q_leave x1 x2 σ).1 ∧ u = (q_leave x1 x2 σ).2) (sm_B D α κ) (xb_A α 35)) 0 0 (xb_A α 35) := by
  refine Met.ofW (cc := b_M_leave) (maxL := 3) (ret := (some .boolean)) (by decide) rfl ?_
  intro p e s m args below meth c s₁ B_ hml hv
  obtain ⟨rfl, hP, hK, hN⟩ := hv
  have hx := B_.exec
  have hb := B_.bytes
  have hr := B_.returns
  have hts := atoms_spec (ws := w_M_leave) B_.pre
  have ht : ∀ w ∈ xa, w.before _ s = true := fun w h => hts w (List.mem_cons_of_mem _ h)
  have hown : s.vm.findClass "SecurePairModel" = some m.cls := findClass_of_methodNamed B_.named
  have hlocks := B_.notSynchronized
  have hD := sm_D hα κ
  have hS : va_S (xb_A α 35) s.heap s.heap [] := va_S.rf
  have hl := lv_entry ([.ref (α 0), .int x1, .int x2]) (n := 3) (Nat.le_of_ble_eq_true rfl)
  rw [lg_entry_eq]
  generalize (lg_sl ([.ref (α 0), .int x1, .int x2]) ++ List.replicate (3 - (lg_sl ([.ref (α 0), .int x1, .int x2])).length) Slot.unset).toArray = ls at hl ⊢
  have hl : lv_has ls 3 [(0, .ref (α 0)), (1, .int x1), (2, .int x2)] := hl
  refine lv_aload_n hx hb d_M_leave_0 rfl (lv_at hl 0 rfl) ?_
  refine lv_iconst (v := 0) hx hb d_M_leave_1 (by decide) ?_
  refine sm_pi (x := (0 : Int32)) (ty := .int) hx hb ht hown hK hP 0 (by decide) (ht _ xw952) (fun _ h_ => h_) hD hS rfl (by decide +kernel) rfl rfl sm_f_0 d_M_leave_2 (fun H locs hP hS => ?_)
  refine lv_iload_n hx hb d_M_leave_5 rfl (lv_at hl 1 rfl) ?_
  refine vp_callSi (W.runS (As := [.int x1]) (rest := []) ⟨hx, hb, hml, hown, hts⟩ (c_M_isEnd l x1) (cwS 1 hts (xa_S xw1073 xw1074 xw11 xw1075) rfl rfl rfl (by decide +kernel) ⟨Nat.le_of_ble_eq_true rfl, Nat.le_of_ble_eq_true rfl⟩) preEq rfl rfl hl.1 rfl (lv_room (Nat.le_of_ble_eq_true rfl)) d_M_leave_6 ⟨Nat.le_of_ble_eq_true rfl, Nat.le_of_ble_eq_true rfl⟩) (fun r_ e_ => ?_)
  subst e_
  refine lv_if_eq (tgt := 22) hx hb d_M_leave_9 (by decide) (fun c1 => ?_) (fun c1 => ?_)
  · skip
    refine lv_iconst (v := 0) hx hb d_M_leave_22 (by decide) ?_
    exact W.zret (v := (0 : Int32)) hx hb hr rfl (fun t ht_ hW => ⟨⟨(0 : Int32), (xb_si σ 0 0 (0 : Int32)), rfl, ⟨congrArg Prod.fst ((((if_pos c1)).symm) : ((0 : Int32), (xb_si σ 0 0 (0 : Int32))) = q_leave x1 x2 σ), congrArg Prod.snd ((((if_pos c1)).symm) : ((0 : Int32), (xb_si σ 0 0 (0 : Int32))) = q_leave x1 x2 σ)⟩, by rw [sm_B, ht_]; exact hP⟩, hS.F ht_⟩) hS.2.2 d_M_leave_23
  · skip
    have zc1 := sm_end c1
    refine lv_aload_n hx hb d_M_leave_12 rfl (lv_at hl 0 rfl) ?_
    refine sm_g (v := .ref (α 4)) hx hb ht hown hK hP 6 (by decide) (ht _ xw958) (fun _ h_ => h_) rfl d_M_leave_13 ?_
    refine lv_iload_n hx hb d_M_leave_16 rfl (lv_at hl 1 rfl) ?_
    refine sm_gaI (L := 2) (n := x1.toNatClampNeg) (v := (σ.1 4 x1.toNatClampNeg)) hx hb hK hP 4 3 rfl rfl (xb_in zc1.1 (by omega) (by decide)) (xb_cl zc1.1 (by omega)) (xb_i_nk (by decide)) d_M_leave_17 ?_
    refine lv_iconst (v := 5) hx hb d_M_leave_18 (by decide) ?_
    refine lv_icmp_ne (tgt := 24) hx hb d_M_leave_19 (by decide) (fun c2 => ?_) (fun c2 => ?_)
    · skip
      refine lv_aload_n hx hb d_M_leave_24 rfl (lv_at hl 0 rfl) ?_
      refine lv_iload_n hx hb d_M_leave_25 rfl (lv_at hl 1 rfl) ?_
      refine lv_iload_n hx hb d_M_leave_26 rfl (lv_at hl 2 rfl) ?_
      refine lv_i2l (v := x2.toInt64) hx hb d_M_leave_27 (by rfl) ?_
      refine sm_cv (va_runV (As := [.int x1, .long x2.toInt64]) (rest := []) ⟨hx, hb, hml, hown, hts⟩ (c_M_fail l D α κ hα (xb_si σ 0 0 (0 : Int32)) x1 x1.toNatClampNeg zc1.1 (by omega) x2.toInt64 (mk_si ok (by decide))) (cwV 2 hts (xa_V xw1112 xw1114 xs9 xw11 xw1115) rfl rfl rfl (by decide +kernel) ⟨Nat.le_of_ble_eq_true rfl, Nat.le_of_ble_eq_true rfl⟩) ⟨sm_blind, va_recv (q0 := 0) (ci := 9) hK hP rfl rfl, sm_pre hP hK hN _⟩ rfl rfl hl.1 rfl (lv_room (Nat.le_of_ble_eq_true rfl)) d_M_leave_28 ⟨Nat.le_of_ble_eq_true rfl, Nat.le_of_ble_eq_true rfl⟩) hS (fun _ h_ => h_) (fun H locs hP hS => ?_)
      obtain ⟨τ1, hτ1⟩ : ∃ t_, t_ = (q_fail x1.toNatClampNeg x2.toInt64 (xb_si σ 0 0 (0 : Int32))) := ⟨_, rfl⟩
      rw [← hτ1] at hP
      have okτ1 : sm_ok τ1 := by rw [hτ1]; exact (ok_q_fail x1.toNatClampNeg x2.toInt64 (by omega) (mk_si ok (by decide)))
      refine lv_iconst (v := 1) hx hb d_M_leave_31 (by decide) ?_
      exact W.zret (v := (1 : Int32)) hx hb hr rfl (fun t ht_ hW => ⟨⟨(1 : Int32), τ1, rfl, ⟨congrArg Prod.fst (((by subst hτ1; exact ((if_neg c1).trans ((if_neg c2))).symm)) : ((1 : Int32), τ1) = q_leave x1 x2 σ), congrArg Prod.snd (((by subst hτ1; exact ((if_neg c1).trans ((if_neg c2))).symm)) : ((1 : Int32), τ1) = q_leave x1 x2 σ)⟩, by rw [sm_B, ht_]; exact hP⟩, hS.F ht_⟩) hS.2.2 d_M_leave_32
    · skip
      refine lv_iconst (v := 0) hx hb d_M_leave_22 (by decide) ?_
      exact W.zret (v := (0 : Int32)) hx hb hr rfl (fun t ht_ hW => ⟨⟨(0 : Int32), (xb_si σ 0 0 (0 : Int32)), rfl, ⟨congrArg Prod.fst ((((if_neg c1).trans ((if_pos c2))).symm) : ((0 : Int32), (xb_si σ 0 0 (0 : Int32))) = q_leave x1 x2 σ), congrArg Prod.snd ((((if_neg c1).trans ((if_pos c2))).symm) : ((0 : Int32), (xb_si σ 0 0 (0 : Int32))) = q_leave x1 x2 σ)⟩, by rw [sm_B, ht_]; exact hP⟩, hS.F ht_⟩) hS.2.2 d_M_leave_23
theorem ok_q_leave {σ : xb_St} (x1 : Int32) (x2 : Int32)  (ok : sm_ok σ) : sm_ok (q_leave x1 x2 σ).2 := by
  unfold q_leave
  by_cases c1 : (g_isEnd x1) = 0
  · rw [if_pos c1]
    exact (mk_si ok (by decide))
  · rw [if_neg c1]
    have zc1 := sm_end c1
    by_cases c2 : (σ.1 4 x1.toNatClampNeg) = (5 : Int32)
    · rw [if_pos c2]
      exact (mk_si ok (by decide))
    · rw [if_neg c2]
      exact (ok_q_fail x1.toNatClampNeg x2.toInt64 (by omega) (mk_si ok (by decide)))
