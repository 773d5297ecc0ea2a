theorem sm_n16 {σ : xb_St} {e : Nat} (ok : sm_ok σ) (he : e < 2) (h : ¬ σ.1 24 e = (16 : Int32)) : ¬ (16 : Int32) ≤ σ.1 24 e := by
  obtain ⟨n0, hn0, en0⟩ := ok.1 e he
  intro q
  have h1 := (xb_leN (xb_lit (x := (16 : Int32)) 16 rfl) en0 (by decide) (by omega)).mp q
  exact h ((xb_eqN en0 (xb_lit (x := (16 : Int32)) 16 rfl) (by omega) (by decide)).mpr (by omega))
abbrev b_M_lose : ByteArray := prog_12_method_43_code
def y_M_lose : MethodName := ⟨"SecurePairModel", "lose", "(I)Z"⟩
abbrev w_M_lose : List Cond := .code y_M_lose b_M_lose 2 (some .boolean) :: xa
theorem d_M_lose_0 : decode b_M_lose 0 = .ok (.aload_n 0, 1) := by decide +kernel
theorem d_M_lose_1 : decode b_M_lose 1 = .ok (.iconst 0, 1) := by decide +kernel
theorem d_M_lose_2 : decode b_M_lose 2 = .ok (.putfield 120, 3) := by decide +kernel
theorem d_M_lose_5 : decode b_M_lose 5 = .ok (.iload_n 1, 1) := by decide +kernel
theorem d_M_lose_6 : decode b_M_lose 6 = .ok (.invokestatic 169, 3) := by decide +kernel
theorem d_M_lose_9 : decode b_M_lose 9 = .ok (.ifCond .eq 12, 3) := by decide +kernel
theorem d_M_lose_12 : decode b_M_lose 12 = .ok (.aload_n 0, 1) := by decide +kernel
theorem d_M_lose_13 : decode b_M_lose 13 = .ok (.getfield 87, 3) := by decide +kernel
theorem d_M_lose_16 : decode b_M_lose 16 = .ok (.iload_n 1, 1) := by decide +kernel
theorem d_M_lose_17 : decode b_M_lose 17 = .ok (.iaload, 1) := by decide +kernel
theorem d_M_lose_18 : decode b_M_lose 18 = .ok (.ifCond .ne 5, 3) := by decide +kernel
theorem d_M_lose_21 : decode b_M_lose 21 = .ok (.iconst 0, 1) := by decide +kernel
theorem d_M_lose_22 : decode b_M_lose 22 = .ok (.ireturn, 1) := by decide +kernel
theorem d_M_lose_23 : decode b_M_lose 23 = .ok (.aload_n 0, 1) := by decide +kernel
theorem d_M_lose_24 : decode b_M_lose 24 = .ok (.iload_n 1, 1) := by decide +kernel
theorem d_M_lose_25 : decode b_M_lose 25 = .ok (.invokevirtual 224, 3) := by decide +kernel
theorem d_M_lose_28 : decode b_M_lose 28 = .ok (.iconst 1, 1) := by decide +kernel
theorem d_M_lose_29 : decode b_M_lose 29 = .ok (.ireturn, 1) := by decide +kernel
theorem xw1108 : (Cond.methodLink "SecurePairModel" (224 : Nat) ({ cls := "SecurePairModel", name := "drop", desc := "(I)V" } : MethodName)) ∈ xa := xa_t 1108 (by decide +kernel) (by decide +kernel)
theorem xw1110 : (Cond.instanceMethod ({ cls := "SecurePairModel", name := "drop", desc := "(I)V" } : MethodName)) ∈ xa := xa_t 1110 (by decide +kernel) (by decide +kernel)
theorem xw1111 : (Cond.code ({ cls := "SecurePairModel", name := "drop", desc := "(I)V" } : MethodName) prog_12_method_17_code (3 : Nat) (Option.none : Option ClassFile.FieldType)) ∈ xa := xa_t 1111 (by decide +kernel) (by decide +kernel)
theorem xs8 : (Cond.selects "SecurePairModel" ⟨"SecurePairModel", "drop", "(I)V"⟩ ⟨"SecurePairModel", "drop", "(I)V"⟩) ∈ xa := xa_s 8 (by decide +kernel) (by decide +kernel)
def q_lose (x1 : Int32) (σ : xb_St) : Int32 × xb_St := (if (g_isEnd x1) = 0 then ((0 : Int32), (xb_si σ 0 0 (0 : Int32))) else (if (σ.1 24 x1.toNatClampNeg) = 0 then ((0 : Int32), (xb_si σ 0 0 (0 : Int32))) else ((1 : Int32), (q_drop x1.toNatClampNeg (xb_si σ 0 0 (0 : Int32))))))
set_option maxHeartbeats 4000000 in
set_option maxRecDepth 100000 in
theorem c_M_lose (l : Launch) (D : va_G) (α : Nat → Nat) (κ : Nat → ClassId) (hα : xb_inj α 35) (σ : xb_St) (x1 : Int32) (ok : sm_ok σ) : Met l y_M_lose w_M_lose ({ frames := 2, cells := 0, slots := 0, locals := 45 }) (va_Pc ([.ref (α 0), .int x1]) (sm_Pre D α κ σ)) (va_Qi (fun r (u : xb_St) => r = (q_lose x1 σ).1 ∧ u = (q_lose x1 σ).2) (sm_B D α κ) (xb_A α 35)) 0 0 (xb_A α 35) := by
  refine Met.ofW (cc := b_M_lose) (maxL := 2) (ret := (some .boolean)) (by decide) rfl ?_
  intro p e s m args below meth c s₁ B_ hml hv
  obtain ⟨rfl, hP, hK, hN⟩ := hv
  have hx := B_.exec
  have hb := B_.bytes
  have hr := B_.returns
  have hts := atoms_spec (ws := w_M_lose) B_.pre
  have ht : ∀ w ∈ xa, w.before _ s = true := fun w h => hts w (List.mem_cons_of_mem _ h)
  have hown : s.vm.findClass "SecurePairModel" = some m.cls := findClass_of_methodNamed B_.named
  have hlocks := B_.notSynchronized
  have hD := sm_D hα κ
  have hS : va_S (xb_A α 35) s.heap s.heap [] := va_S.rf
  have hl := lv_entry ([.ref (α 0), .int x1]) (n := 2) (Nat.le_of_ble_eq_true rfl)
  rw [lg_entry_eq]
  generalize (lg_sl ([.ref (α 0), .int x1]) ++ List.replicate (2 - (lg_sl ([.ref (α 0), .int x1])).length) Slot.unset).toArray = ls at hl ⊢
  have hl : lv_has ls 2 [(0, .ref (α 0)), (1, .int x1)] := hl
  refine lv_aload_n hx hb d_M_lose_0 rfl (lv_at hl 0 rfl) ?_
  refine lv_iconst (v := 0) hx hb d_M_lose_1 (by decide) ?_
  refine sm_pi (x := (0 : Int32)) (ty := .int) hx hb ht hown hK hP 0 (by decide) (ht _ xw952) (fun _ h_ => h_) hD hS rfl (by decide +kernel) rfl rfl sm_f_0 d_M_lose_2 (fun H locs hP hS => ?_)
  refine lv_iload_n hx hb d_M_lose_5 rfl (lv_at hl 1 rfl) ?_
  refine vp_callSi (W.runS (As := [.int x1]) (rest := []) ⟨hx, hb, hml, hown, hts⟩ (c_M_isEnd l x1) (cwS 1 hts (xa_S xw1073 xw1074 xw11 xw1075) rfl rfl rfl (by decide +kernel) ⟨Nat.le_of_ble_eq_true rfl, Nat.le_of_ble_eq_true rfl⟩) preEq rfl rfl hl.1 rfl (lv_room (Nat.le_of_ble_eq_true rfl)) d_M_lose_6 ⟨Nat.le_of_ble_eq_true rfl, Nat.le_of_ble_eq_true rfl⟩) (fun r_ e_ => ?_)
  subst e_
  refine lv_if_eq (tgt := 21) hx hb d_M_lose_9 (by decide) (fun c1 => ?_) (fun c1 => ?_)
  · skip
    refine lv_iconst (v := 0) hx hb d_M_lose_21 (by decide) ?_
    exact W.zret (v := (0 : Int32)) hx hb hr rfl (fun t ht_ hW => ⟨⟨(0 : Int32), (xb_si σ 0 0 (0 : Int32)), rfl, ⟨congrArg Prod.fst ((((if_pos c1)).symm) : ((0 : Int32), (xb_si σ 0 0 (0 : Int32))) = q_lose x1 σ), congrArg Prod.snd ((((if_pos c1)).symm) : ((0 : Int32), (xb_si σ 0 0 (0 : Int32))) = q_lose x1 σ)⟩, by rw [sm_B, ht_]; exact hP⟩, hS.F ht_⟩) hS.2.2 d_M_lose_22
  · skip
    have zc1 := sm_end c1
    refine lv_aload_n hx hb d_M_lose_12 rfl (lv_at hl 0 rfl) ?_
    refine sm_g (v := .ref (α 24)) hx hb ht hown hK hP 26 (by decide) (ht _ xw978) (fun _ h_ => h_) rfl d_M_lose_13 ?_
    refine lv_iload_n hx hb d_M_lose_16 rfl (lv_at hl 1 rfl) ?_
    refine sm_gaI (L := 2) (n := x1.toNatClampNeg) (v := (σ.1 24 x1.toNatClampNeg)) hx hb hK hP 24 23 rfl rfl (xb_in zc1.1 (by omega) (by decide)) (xb_cl zc1.1 (by omega)) (xb_i_nk (by decide)) d_M_lose_17 ?_
    refine lv_if_ne (tgt := 23) hx hb d_M_lose_18 (by decide) (fun c2 => ?_) (fun c2 => ?_)
    · skip
      refine lv_aload_n hx hb d_M_lose_23 rfl (lv_at hl 0 rfl) ?_
      refine lv_iload_n hx hb d_M_lose_24 rfl (lv_at hl 1 rfl) ?_
      refine sm_cv (va_runV (As := [.int x1]) (rest := []) ⟨hx, hb, hml, hown, hts⟩ (c_M_drop l D α κ hα (xb_si σ 0 0 (0 : Int32)) x1 x1.toNatClampNeg zc1.1 (by omega) (mk_si ok (by decide)) (by first | exact c2 | exact c3 | exact c4)) (cwV 1 hts (xa_V xw1108 xw1110 xs8 xw11 xw1111) rfl rfl rfl (by decide +kernel) ⟨Nat.le_of_ble_eq_true rfl, Nat.le_of_ble_eq_true rfl⟩) ⟨sm_blind, va_recv (q0 := 0) (ci := 9) hK hP rfl rfl, sm_pre hP hK hN _⟩ rfl rfl hl.1 rfl (lv_room (Nat.le_of_ble_eq_true rfl)) d_M_lose_25 ⟨Nat.le_of_ble_eq_true rfl, Nat.le_of_ble_eq_true rfl⟩) hS (fun _ h_ => h_) (fun H locs hP hS => ?_)
      obtain ⟨τ1, hτ1⟩ : ∃ t_, t_ = (q_drop x1.toNatClampNeg (xb_si σ 0 0 (0 : Int32))) := ⟨_, rfl⟩
      rw [← hτ1] at hP
      have okτ1 : sm_ok τ1 := by rw [hτ1]; exact (ok_q_drop x1.toNatClampNeg (by omega) (by first | exact c2 | exact c3 | exact c4) (mk_si ok (by decide)))
      refine lv_iconst (v := 1) hx hb d_M_lose_28 (by decide) ?_
      exact W.zret (v := (1 : Int32)) hx hb hr rfl (fun t ht_ hW => ⟨⟨(1 : Int32), τ1, rfl, ⟨congrArg Prod.fst (((by subst hτ1; exact ((if_neg c1).trans ((if_neg c2))).symm)) : ((1 : Int32), τ1) = q_lose x1 σ), congrArg Prod.snd (((by subst hτ1; exact ((if_neg c1).trans ((if_neg c2))).symm)) : ((1 : Int32), τ1) = q_lose x1 σ)⟩, by rw [sm_B, ht_]; exact hP⟩, hS.F ht_⟩) hS.2.2 d_M_lose_29
    · skip
      refine lv_iconst (v := 0) hx hb d_M_lose_21 (by decide) ?_
      exact W.zret (v := (0 : Int32)) hx hb hr rfl (fun t ht_ hW => ⟨⟨(0 : Int32), (xb_si σ 0 0 (0 : Int32)), rfl, ⟨congrArg Prod.fst ((((if_neg c1).trans ((if_pos c2))).symm) : ((0 : Int32), (xb_si σ 0 0 (0 : Int32))) = q_lose x1 σ), congrArg Prod.snd ((((if_neg c1).trans ((if_pos c2))).symm) : ((0 : Int32), (xb_si σ 0 0 (0 : Int32))) = q_lose x1 σ)⟩, by rw [sm_B, ht_]; exact hP⟩, hS.F ht_⟩) hS.2.2 d_M_lose_22
theorem ok_q_lose {σ : xb_St} (x1 : Int32)  (ok : sm_ok σ) : sm_ok (q_lose x1 σ).2 := by
  unfold q_lose
  by_cases c1 : (g_isEnd x1) = 0
  · rw [if_pos c1]
    exact (mk_si ok (by decide))
  · rw [if_neg c1]
    have zc1 := sm_end c1
    by_cases c2 : (σ.1 24 x1.toNatClampNeg) = 0
    · rw [if_pos c2]
      exact (mk_si ok (by decide))
    · rw [if_neg c2]
      exact (ok_q_drop x1.toNatClampNeg (by omega) (by first | exact c2 | exact c3 | exact c4) (mk_si ok (by decide)))
abbrev b_M_twice : ByteArray := prog_12_method_45_code
def y_M_twice : MethodName := ⟨"SecurePairModel", "twice", "(I)Z"⟩
abbrev w_M_twice : List Cond := .code y_M_twice b_M_twice 2 (some .boolean) :: xa
theorem d_M_twice_0 : decode b_M_twice 0 = .ok (.aload_n 0, 1) := by decide +kernel
theorem d_M_twice_1 : decode b_M_twice 1 = .ok (.iconst 0, 1) := by decide +kernel
theorem d_M_twice_2 : decode b_M_twice 2 = .ok (.putfield 120, 3) := by decide +kernel
theorem d_M_twice_5 : decode b_M_twice 5 = .ok (.iload_n 1, 1) := by decide +kernel
theorem d_M_twice_6 : decode b_M_twice 6 = .ok (.invokestatic 169, 3) := by decide +kernel
theorem d_M_twice_9 : decode b_M_twice 9 = .ok (.ifCond .eq 23, 3) := by decide +kernel
theorem d_M_twice_12 : decode b_M_twice 12 = .ok (.aload_n 0, 1) := by decide +kernel
theorem d_M_twice_13 : decode b_M_twice 13 = .ok (.getfield 87, 3) := by decide +kernel
theorem d_M_twice_16 : decode b_M_twice 16 = .ok (.iload_n 1, 1) := by decide +kernel
theorem d_M_twice_17 : decode b_M_twice 17 = .ok (.iaload, 1) := by decide +kernel
theorem d_M_twice_18 : decode b_M_twice 18 = .ok (.ifCond .eq 14, 3) := by decide +kernel
theorem d_M_twice_21 : decode b_M_twice 21 = .ok (.aload_n 0, 1) := by decide +kernel
theorem d_M_twice_22 : decode b_M_twice 22 = .ok (.getfield 87, 3) := by decide +kernel
theorem d_M_twice_25 : decode b_M_twice 25 = .ok (.iload_n 1, 1) := by decide +kernel
theorem d_M_twice_26 : decode b_M_twice 26 = .ok (.iaload, 1) := by decide +kernel
theorem d_M_twice_27 : decode b_M_twice 27 = .ok (.bipush 16, 2) := by decide +kernel
theorem d_M_twice_29 : decode b_M_twice 29 = .ok (.if_icmp .ne 5, 3) := by decide +kernel
theorem d_M_twice_32 : decode b_M_twice 32 = .ok (.iconst 0, 1) := by decide +kernel
theorem d_M_twice_33 : decode b_M_twice 33 = .ok (.ireturn, 1) := by decide +kernel
theorem d_M_twice_34 : decode b_M_twice 34 = .ok (.aload_n 0, 1) := by decide +kernel
theorem d_M_twice_35 : decode b_M_twice 35 = .ok (.iload_n 1, 1) := by decide +kernel
theorem d_M_twice_36 : decode b_M_twice 36 = .ok (.invokevirtual 265, 3) := by decide +kernel
theorem d_M_twice_39 : decode b_M_twice 39 = .ok (.iconst 1, 1) := by decide +kernel
theorem d_M_twice_40 : decode b_M_twice 40 = .ok (.ireturn, 1) := by decide +kernel
theorem xw1243 : (Cond.methodLink "SecurePairModel" (265 : Nat) ({ cls := "SecurePairModel", name := "shift", desc := "(I)V" } : MethodName)) ∈ xa := xa_t 1243 (by decide +kernel) (by decide +kernel)
theorem xw1245 : (Cond.instanceMethod ({ cls := "SecurePairModel", name := "shift", desc := "(I)V" } : MethodName)) ∈ xa := xa_t 1245 (by decide +kernel) (by decide +kernel)
theorem xw1246 : (Cond.code ({ cls := "SecurePairModel", name := "shift", desc := "(I)V" } : MethodName) prog_12_method_44_code (3 : Nat) (Option.none : Option ClassFile.FieldType)) ∈ xa := xa_t 1246 (by decide +kernel) (by decide +kernel)
theorem xs22 : (Cond.selects "SecurePairModel" ⟨"SecurePairModel", "shift", "(I)V"⟩ ⟨"SecurePairModel", "shift", "(I)V"⟩) ∈ xa := xa_s 22 (by decide +kernel) (by decide +kernel)
def q_twice (x1 : Int32) (σ : xb_St) : Int32 × xb_St := (if (g_isEnd x1) = 0 then ((0 : Int32), (xb_si σ 0 0 (0 : Int32))) else (if (σ.1 24 x1.toNatClampNeg) = 0 then ((0 : Int32), (xb_si σ 0 0 (0 : Int32))) else (if (σ.1 24 x1.toNatClampNeg) = (16 : Int32) then ((0 : Int32), (xb_si σ 0 0 (0 : Int32))) else ((1 : Int32), (q_shift x1.toNatClampNeg (xb_si σ 0 0 (0 : Int32)))))))
set_option maxHeartbeats 4000000 in
set_option maxRecDepth 100000 in
theorem c_M_twice (l : Launch) (D : va_G) (α : Nat → Nat) (κ : Nat → ClassId) (hα : xb_inj α 35) (σ : xb_St) (x1 : Int32) (ok : sm_ok σ) : Met l y_M_twice w_M_twice ({ frames := 2, cells := 0, slots := 0, locals := 45 }) (va_Pc ([.ref (α 0), .int x1]) (sm_Pre D α κ σ)) (va_Qi (fun r (u : xb_St) => r = (q_twice x1 σ).1 ∧ u = (q_twice x1 σ).2) (sm_B D α κ) (xb_A α 35)) 0 0 (xb_A α 35) := by
  refine Met.ofW (cc := b_M_twice) (maxL := 2) (ret := (some .boolean)) (by decide) rfl ?_
  intro p e s m args below meth c s₁ B_ hml hv
  obtain ⟨rfl, hP, hK, hN⟩ := hv
  have hx := B_.exec
  have hb := B_.bytes
  have hr := B_.returns
  have hts := atoms_spec (ws := w_M_twice) B_.pre
  have ht : ∀ w ∈ xa, w.before _ s = true := fun w h => hts w (List.mem_cons_of_mem _ h)
  have hown : s.vm.findClass "SecurePairModel" = some m.cls := findClass_of_methodNamed B_.named
  have hlocks := B_.notSynchronized
  have hD := sm_D hα κ
  have hS : va_S (xb_A α 35) s.heap s.heap [] := va_S.rf
  have hl := lv_entry ([.ref (α 0), .int x1]) (n := 2) (Nat.le_of_ble_eq_true rfl)
  rw [lg_entry_eq]
  generalize (lg_sl ([.ref (α 0), .int x1]) ++ List.replicate (2 - (lg_sl ([.ref (α 0), .int x1])).length) Slot.unset).toArray = ls at hl ⊢
  have hl : lv_has ls 2 [(0, .ref (α 0)), (1, .int x1)] := hl
  refine lv_aload_n hx hb d_M_twice_0 rfl (lv_at hl 0 rfl) ?_
  refine lv_iconst (v := 0) hx hb d_M_twice_1 (by decide) ?_
  refine sm_pi (x := (0 : Int32)) (ty := .int) hx hb ht hown hK hP 0 (by decide) (ht _ xw952) (fun _ h_ => h_) hD hS rfl (by decide +kernel) rfl rfl sm_f_0 d_M_twice_2 (fun H locs hP hS => ?_)
  refine lv_iload_n hx hb d_M_twice_5 rfl (lv_at hl 1 rfl) ?_
  refine vp_callSi (W.runS (As := [.int x1]) (rest := []) ⟨hx, hb, hml, hown, hts⟩ (c_M_isEnd l x1) (cwS 1 hts (xa_S xw1073 xw1074 xw11 xw1075) rfl rfl rfl (by decide +kernel) ⟨Nat.le_of_ble_eq_true rfl, Nat.le_of_ble_eq_true rfl⟩) preEq rfl rfl hl.1 rfl (lv_room (Nat.le_of_ble_eq_true rfl)) d_M_twice_6 ⟨Nat.le_of_ble_eq_true rfl, Nat.le_of_ble_eq_true rfl⟩) (fun r_ e_ => ?_)
  subst e_
  refine lv_if_eq (tgt := 32) hx hb d_M_twice_9 (by decide) (fun c1 => ?_) (fun c1 => ?_)
  · skip
    refine lv_iconst (v := 0) hx hb d_M_twice_32 (by decide) ?_
    exact W.zret (v := (0 : Int32)) hx hb hr rfl (fun t ht_ hW => ⟨⟨(0 : Int32), (xb_si σ 0 0 (0 : Int32)), rfl, ⟨congrArg Prod.fst ((((if_pos c1)).symm) : ((0 : Int32), (xb_si σ 0 0 (0 : Int32))) = q_twice x1 σ), congrArg Prod.snd ((((if_pos c1)).symm) : ((0 : Int32), (xb_si σ 0 0 (0 : Int32))) = q_twice x1 σ)⟩, by rw [sm_B, ht_]; exact hP⟩, hS.F ht_⟩) hS.2.2 d_M_twice_33
  · skip
    have zc1 := sm_end c1
    refine lv_aload_n hx hb d_M_twice_12 rfl (lv_at hl 0 rfl) ?_
    refine sm_g (v := .ref (α 24)) hx hb ht hown hK hP 26 (by decide) (ht _ xw978) (fun _ h_ => h_) rfl d_M_twice_13 ?_
    refine lv_iload_n hx hb d_M_twice_16 rfl (lv_at hl 1 rfl) ?_
    refine sm_gaI (L := 2) (n := x1.toNatClampNeg) (v := (σ.1 24 x1.toNatClampNeg)) hx hb hK hP 24 23 rfl rfl (xb_in zc1.1 (by omega) (by decide)) (xb_cl zc1.1 (by omega)) (xb_i_nk (by decide)) d_M_twice_17 ?_
    refine lv_if_eq (tgt := 32) hx hb d_M_twice_18 (by decide) (fun c2 => ?_) (fun c2 => ?_)
    · skip
      refine lv_iconst (v := 0) hx hb d_M_twice_32 (by decide) ?_
      exact W.zret (v := (0 : Int32)) hx hb hr rfl (fun t ht_ hW => ⟨⟨(0 : Int32), (xb_si σ 0 0 (0 : Int32)), rfl, ⟨congrArg Prod.fst ((((if_neg c1).trans ((if_pos c2))).symm) : ((0 : Int32), (xb_si σ 0 0 (0 : Int32))) = q_twice x1 σ), congrArg Prod.snd ((((if_neg c1).trans ((if_pos c2))).symm) : ((0 : Int32), (xb_si σ 0 0 (0 : Int32))) = q_twice x1 σ)⟩, by rw [sm_B, ht_]; exact hP⟩, hS.F ht_⟩) hS.2.2 d_M_twice_33
    · skip
      refine lv_aload_n hx hb d_M_twice_21 rfl (lv_at hl 0 rfl) ?_
      refine sm_g (v := .ref (α 24)) hx hb ht hown hK hP 26 (by decide) (ht _ xw978) (fun _ h_ => h_) rfl d_M_twice_22 ?_
      refine lv_iload_n hx hb d_M_twice_25 rfl (lv_at hl 1 rfl) ?_
      refine sm_gaI (L := 2) (n := x1.toNatClampNeg) (v := (σ.1 24 x1.toNatClampNeg)) hx hb hK hP 24 23 rfl rfl (xb_in zc1.1 (by omega) (by decide)) (xb_cl zc1.1 (by omega)) (xb_i_nk (by decide)) d_M_twice_26 ?_
      refine lv_bipush (v := 16) hx hb d_M_twice_27 (by decide) ?_
      refine lv_icmp_ne (tgt := 34) hx hb d_M_twice_29 (by decide) (fun c3 => ?_) (fun c3 => ?_)
      · skip
        refine lv_aload_n hx hb d_M_twice_34 rfl (lv_at hl 0 rfl) ?_
        refine lv_iload_n hx hb d_M_twice_35 rfl (lv_at hl 1 rfl) ?_
        refine sm_cv (va_runV (As := [.int x1]) (rest := []) ⟨hx, hb, hml, hown, hts⟩ (c_M_shift l D α κ hα (xb_si σ 0 0 (0 : Int32)) x1 x1.toNatClampNeg zc1.1 (by omega) (mk_si ok (by decide))) (cwV 1 hts (xa_V xw1243 xw1245 xs22 xw11 xw1246) rfl rfl rfl (by decide +kernel) ⟨Nat.le_of_ble_eq_true rfl, Nat.le_of_ble_eq_true rfl⟩) ⟨sm_blind, va_recv (q0 := 0) (ci := 9) hK hP rfl rfl, sm_pre hP hK hN _⟩ rfl rfl hl.1 rfl (lv_room (Nat.le_of_ble_eq_true rfl)) d_M_twice_36 ⟨Nat.le_of_ble_eq_true rfl, Nat.le_of_ble_eq_true rfl⟩) hS (fun _ h_ => h_) (fun H locs hP hS => ?_)
        obtain ⟨τ1, hτ1⟩ : ∃ t_, t_ = (q_shift x1.toNatClampNeg (xb_si σ 0 0 (0 : Int32))) := ⟨_, rfl⟩
        rw [← hτ1] at hP
        have okτ1 : sm_ok τ1 := by rw [hτ1]; exact (ok_q_shift x1.toNatClampNeg (by omega) (sm_n16 ok (by omega) (by first | exact c2 | exact c3 | exact c4)) (mk_si ok (by decide)))
        refine lv_iconst (v := 1) hx hb d_M_twice_39 (by decide) ?_
        exact W.zret (v := (1 : Int32)) hx hb hr rfl (fun t ht_ hW => ⟨⟨(1 : Int32), τ1, rfl, ⟨congrArg Prod.fst (((by subst hτ1; exact ((if_neg c1).trans ((if_neg c2).trans ((if_neg c3)))).symm)) : ((1 : Int32), τ1) = q_twice x1 σ), congrArg Prod.snd (((by subst hτ1; exact ((if_neg c1).trans ((if_neg c2).trans ((if_neg c3)))).symm)) : ((1 : Int32), τ1) = q_twice x1 σ)⟩, by rw [sm_B, ht_]; exact hP⟩, hS.F ht_⟩) hS.2.2 d_M_twice_40
      · skip
        refine lv_iconst (v := 0) hx hb d_M_twice_32 (by decide) ?_
        exact W.zret (v := (0 : Int32)) hx hb hr rfl (fun t ht_ hW => ⟨⟨(0 : Int32), (xb_si σ 0 0 (0 : Int32)), rfl, ⟨congrArg Prod.fst ((((if_neg c1).trans ((if_neg c2).trans ((if_pos c3)))).symm) : ((0 : Int32), (xb_si σ 0 0 (0 : Int32))) = q_twice x1 σ), congrArg Prod.snd ((((if_neg c1).trans ((if_neg c2).trans ((if_pos c3)))).symm) : ((0 : Int32), (xb_si σ 0 0 (0 : Int32))) = q_twice x1 σ)⟩, by rw [sm_B, ht_]; exact hP⟩, hS.F ht_⟩) hS.2.2 d_M_twice_33
theorem ok_q_twice {σ : xb_St} (x1 : Int32)  (ok : sm_ok σ) : sm_ok (q_twice x1 σ).2 := by
  unfold q_twice
  by_cases c1 : (g_isEnd x1) = 0
  · rw [if_pos c1]
    exact (mk_si ok (by decide))
  · rw [if_neg c1]
    have zc1 := sm_end c1
    by_cases c2 : (σ.1 24 x1.toNatClampNeg) = 0
    · rw [if_pos c2]
      exact (mk_si ok (by decide))
    · rw [if_neg c2]
      by_cases c3 : (σ.1 24 x1.toNatClampNeg) = (16 : Int32)
      · rw [if_pos c3]
        exact (mk_si ok (by decide))
      · rw [if_neg c3]
        exact (ok_q_shift x1.toNatClampNeg (by omega) (sm_n16 ok (by omega) (by first | exact c2 | exact c3 | exact c4)) (mk_si ok (by decide)))
abbrev b_M_insert : ByteArray := prog_12_method_47_code
def y_M_insert : MethodName := ⟨"SecurePairModel", "insert", "(IIJJ)Z"⟩
abbrev w_M_insert : List Cond := .code y_M_insert b_M_insert 8 (some .boolean) :: xa
theorem d_M_insert_0 : decode b_M_insert 0 = .ok (.aload_n 0, 1) := by decide +kernel
theorem d_M_insert_1 : decode b_M_insert 1 = .ok (.iconst 0, 1) := by decide +kernel
theorem d_M_insert_2 : decode b_M_insert 2 = .ok (.putfield 120, 3) := by decide +kernel
theorem d_M_insert_5 : decode b_M_insert 5 = .ok (.iload_n 1, 1) := by decide +kernel
theorem d_M_insert_6 : decode b_M_insert 6 = .ok (.invokestatic 169, 3) := by decide +kernel
theorem d_M_insert_9 : decode b_M_insert 9 = .ok (.ifCond .eq 14, 3) := by decide +kernel
theorem d_M_insert_12 : decode b_M_insert 12 = .ok (.aload_n 0, 1) := by decide +kernel
theorem d_M_insert_13 : decode b_M_insert 13 = .ok (.getfield 87, 3) := by decide +kernel
theorem d_M_insert_16 : decode b_M_insert 16 = .ok (.iload_n 1, 1) := by decide +kernel
theorem d_M_insert_17 : decode b_M_insert 17 = .ok (.iaload, 1) := by decide +kernel
theorem d_M_insert_18 : decode b_M_insert 18 = .ok (.bipush 16, 2) := by decide +kernel
theorem d_M_insert_20 : decode b_M_insert 20 = .ok (.if_icmp .ne 5, 3) := by decide +kernel
theorem d_M_insert_23 : decode b_M_insert 23 = .ok (.iconst 0, 1) := by decide +kernel
theorem d_M_insert_24 : decode b_M_insert 24 = .ok (.ireturn, 1) := by decide +kernel
theorem d_M_insert_25 : decode b_M_insert 25 = .ok (.aload_n 0, 1) := by decide +kernel
theorem d_M_insert_26 : decode b_M_insert 26 = .ok (.iload_n 1, 1) := by decide +kernel
theorem d_M_insert_27 : decode b_M_insert 27 = .ok (.invokevirtual 265, 3) := by decide +kernel
theorem d_M_insert_30 : decode b_M_insert 30 = .ok (.bipush 16, 2) := by decide +kernel
theorem d_M_insert_32 : decode b_M_insert 32 = .ok (.iload_n 1, 1) := by decide +kernel
theorem d_M_insert_33 : decode b_M_insert 33 = .ok (.imul, 1) := by decide +kernel
theorem d_M_insert_34 : decode b_M_insert 34 = .ok (.istore 7, 2) := by decide +kernel
theorem d_M_insert_36 : decode b_M_insert 36 = .ok (.aload_n 0, 1) := by decide +kernel
theorem d_M_insert_37 : decode b_M_insert 37 = .ok (.getfield 90, 3) := by decide +kernel
theorem d_M_insert_40 : decode b_M_insert 40 = .ok (.iload 7, 2) := by decide +kernel
theorem d_M_insert_42 : decode b_M_insert 42 = .ok (.iload_n 2, 1) := by decide +kernel
theorem d_M_insert_43 : decode b_M_insert 43 = .ok (.iastore, 1) := by decide +kernel
theorem d_M_insert_44 : decode b_M_insert 44 = .ok (.aload_n 0, 1) := by decide +kernel
theorem d_M_insert_45 : decode b_M_insert 45 = .ok (.getfield 96, 3) := by decide +kernel
theorem d_M_insert_48 : decode b_M_insert 48 = .ok (.iload 7, 2) := by decide +kernel
theorem d_M_insert_50 : decode b_M_insert 50 = .ok (.lload 5, 2) := by decide +kernel
theorem d_M_insert_52 : decode b_M_insert 52 = .ok (.lastore, 1) := by decide +kernel
theorem d_M_insert_53 : decode b_M_insert 53 = .ok (.aload_n 0, 1) := by decide +kernel
theorem d_M_insert_54 : decode b_M_insert 54 = .ok (.getfield 93, 3) := by decide +kernel
theorem d_M_insert_57 : decode b_M_insert 57 = .ok (.iconst 4, 1) := by decide +kernel
theorem d_M_insert_58 : decode b_M_insert 58 = .ok (.iload 7, 2) := by decide +kernel
theorem d_M_insert_60 : decode b_M_insert 60 = .ok (.imul, 1) := by decide +kernel
theorem d_M_insert_61 : decode b_M_insert 61 = .ok (.lload_n 3, 1) := by decide +kernel
theorem d_M_insert_62 : decode b_M_insert 62 = .ok (.lastore, 1) := by decide +kernel
theorem d_M_insert_63 : decode b_M_insert 63 = .ok (.aload_n 0, 1) := by decide +kernel
theorem d_M_insert_64 : decode b_M_insert 64 = .ok (.getfield 93, 3) := by decide +kernel
theorem d_M_insert_67 : decode b_M_insert 67 = .ok (.iconst 4, 1) := by decide +kernel
theorem d_M_insert_68 : decode b_M_insert 68 = .ok (.iload 7, 2) := by decide +kernel
theorem d_M_insert_70 : decode b_M_insert 70 = .ok (.imul, 1) := by decide +kernel
theorem d_M_insert_71 : decode b_M_insert 71 = .ok (.iconst 1, 1) := by decide +kernel
theorem d_M_insert_72 : decode b_M_insert 72 = .ok (.iadd, 1) := by decide +kernel
theorem d_M_insert_73 : decode b_M_insert 73 = .ok (.lconst 0, 1) := by decide +kernel
theorem d_M_insert_74 : decode b_M_insert 74 = .ok (.lastore, 1) := by decide +kernel
theorem d_M_insert_75 : decode b_M_insert 75 = .ok (.aload_n 0, 1) := by decide +kernel
theorem d_M_insert_76 : decode b_M_insert 76 = .ok (.getfield 93, 3) := by decide +kernel
theorem d_M_insert_79 : decode b_M_insert 79 = .ok (.iconst 4, 1) := by decide +kernel
theorem d_M_insert_80 : decode b_M_insert 80 = .ok (.iload 7, 2) := by decide +kernel
theorem d_M_insert_82 : decode b_M_insert 82 = .ok (.imul, 1) := by decide +kernel
theorem d_M_insert_83 : decode b_M_insert 83 = .ok (.iconst 2, 1) := by decide +kernel
theorem d_M_insert_84 : decode b_M_insert 84 = .ok (.iadd, 1) := by decide +kernel
theorem d_M_insert_85 : decode b_M_insert 85 = .ok (.lconst 0, 1) := by decide +kernel
theorem d_M_insert_86 : decode b_M_insert 86 = .ok (.lastore, 1) := by decide +kernel
theorem d_M_insert_87 : decode b_M_insert 87 = .ok (.aload_n 0, 1) := by decide +kernel
theorem d_M_insert_88 : decode b_M_insert 88 = .ok (.getfield 93, 3) := by decide +kernel
theorem d_M_insert_91 : decode b_M_insert 91 = .ok (.iconst 4, 1) := by decide +kernel
theorem d_M_insert_92 : decode b_M_insert 92 = .ok (.iload 7, 2) := by decide +kernel
theorem d_M_insert_94 : decode b_M_insert 94 = .ok (.imul, 1) := by decide +kernel
theorem d_M_insert_95 : decode b_M_insert 95 = .ok (.iconst 3, 1) := by decide +kernel
theorem d_M_insert_96 : decode b_M_insert 96 = .ok (.iadd, 1) := by decide +kernel
theorem d_M_insert_97 : decode b_M_insert 97 = .ok (.lconst 0, 1) := by decide +kernel
theorem d_M_insert_98 : decode b_M_insert 98 = .ok (.lastore, 1) := by decide +kernel
theorem d_M_insert_99 : decode b_M_insert 99 = .ok (.iconst 1, 1) := by decide +kernel
theorem d_M_insert_100 : decode b_M_insert 100 = .ok (.ireturn, 1) := by decide +kernel
def q_insert (x1 : Int32) (x2 : Int32) (x3 : Int64) (x4 : Int64) (σ : xb_St) : Int32 × xb_St := (if (g_isEnd x1) = 0 then ((0 : Int32), (xb_si σ 0 0 (0 : Int32))) else (if (σ.1 24 x1.toNatClampNeg) = (16 : Int32) then ((0 : Int32), (xb_si σ 0 0 (0 : Int32))) else ((1 : Int32), (xb_sl (xb_sl (xb_sl (xb_sl (xb_sl (xb_si (q_shift x1.toNatClampNeg (xb_si σ 0 0 (0 : Int32))) 25 (16 * x1.toNatClampNeg) x2) 27 (16 * x1.toNatClampNeg) x4) 26 (4 * (16 * x1.toNatClampNeg)) x3) 26 ((4 * (16 * x1.toNatClampNeg)) + 1) (0 : Int64)) 26 ((4 * (16 * x1.toNatClampNeg)) + 2) (0 : Int64)) 26 ((4 * (16 * x1.toNatClampNeg)) + 3) (0 : Int64)))))
set_option maxHeartbeats 4000000 in
set_option maxRecDepth 100000 in
theorem c_M_insert (l : Launch) (D : va_G) (α : Nat → Nat) (κ : Nat → ClassId) (hα : xb_inj α 35) (σ : xb_St) (x1 : Int32) (x2 : Int32) (x3 : Int64) (x4 : Int64) (ok : sm_ok σ) : Met l y_M_insert w_M_insert ({ frames := 2, cells := 0, slots := 0, locals := 45 }) (va_Pc ([.ref (α 0), .int x1, .int x2, .long x3, .long x4]) (sm_Pre D α κ σ)) (va_Qi (fun r (u : xb_St) => r = (q_insert x1 x2 x3 x4 σ).1 ∧ u = (q_insert x1 x2 x3 x4 σ).2) (sm_B D α κ) (xb_A α 35)) 0 0 (xb_A α 35) := by
  refine Met.ofW (cc := b_M_insert) (maxL := 8) (ret := (some .boolean)) (by decide) rfl ?_
  intro p e s m args below meth c s₁ B_ hml hv
  obtain ⟨rfl, hP, hK, hN⟩ := hv
  have hx := B_.exec
  have hb := B_.bytes
  have hr := B_.returns
  have hts := atoms_spec (ws := w_M_insert) B_.pre
  have ht : ∀ w ∈ xa, w.before _ s = true := fun w h => hts w (List.mem_cons_of_mem _ h)
  have hown : s.vm.findClass "SecurePairModel" = some m.cls := findClass_of_methodNamed B_.named
  have hlocks := B_.notSynchronized
  have hD := sm_D hα κ
  have hS : va_S (xb_A α 35) s.heap s.heap [] := va_S.rf
  have hl := lv_entry ([.ref (α 0), .int x1, .int x2, .long x3, .long x4]) (n := 8) (Nat.le_of_ble_eq_true rfl)
  rw [lg_entry_eq]
  generalize (lg_sl ([.ref (α 0), .int x1, .int x2, .long x3, .long x4]) ++ List.replicate (8 - (lg_sl ([.ref (α 0), .int x1, .int x2, .long x3, .long x4])).length) Slot.unset).toArray = ls at hl ⊢
  have hl : lv_has ls 8 [(0, .ref (α 0)), (1, .int x1), (2, .int x2), (3, .long x3), (5, .long x4)] := hl
  refine lv_aload_n hx hb d_M_insert_0 rfl (lv_at hl 0 rfl) ?_
  refine lv_iconst (v := 0) hx hb d_M_insert_1 (by decide) ?_
  refine sm_pi (x := (0 : Int32)) (ty := .int) hx hb ht hown hK hP 0 (by decide) (ht _ xw952) (fun _ h_ => h_) hD hS rfl (by decide +kernel) rfl rfl sm_f_0 d_M_insert_2 (fun H locs hP hS => ?_)
  refine lv_iload_n hx hb d_M_insert_5 rfl (lv_at hl 1 rfl) ?_
  refine vp_callSi (W.runS (As := [.int x1]) (rest := []) ⟨hx, hb, hml, hown, hts⟩ (c_M_isEnd l x1) (cwS 1 hts (xa_S xw1073 xw1074 xw11 xw1075) rfl rfl rfl (by decide +kernel) ⟨Nat.le_of_ble_eq_true rfl, Nat.le_of_ble_eq_true rfl⟩) preEq rfl rfl hl.1 rfl (lv_room (Nat.le_of_ble_eq_true rfl)) d_M_insert_6 ⟨Nat.le_of_ble_eq_true rfl, Nat.le_of_ble_eq_true rfl⟩) (fun r_ e_ => ?_)
  subst e_
  refine lv_if_eq (tgt := 23) hx hb d_M_insert_9 (by decide) (fun c1 => ?_) (fun c1 => ?_)
  · skip
    refine lv_iconst (v := 0) hx hb d_M_insert_23 (by decide) ?_
    exact W.zret (v := (0 : Int32)) hx hb hr rfl (fun t ht_ hW => ⟨⟨(0 : Int32), (xb_si σ 0 0 (0 : Int32)), rfl, ⟨congrArg Prod.fst ((((if_pos c1)).symm) : ((0 : Int32), (xb_si σ 0 0 (0 : Int32))) = q_insert x1 x2 x3 x4 σ), congrArg Prod.snd ((((if_pos c1)).symm) : ((0 : Int32), (xb_si σ 0 0 (0 : Int32))) = q_insert x1 x2 x3 x4 σ)⟩, by rw [sm_B, ht_]; exact hP⟩, hS.F ht_⟩) hS.2.2 d_M_insert_24
  · skip
    have zc1 := sm_end c1
    refine lv_aload_n hx hb d_M_insert_12 rfl (lv_at hl 0 rfl) ?_
    refine sm_g (v := .ref (α 24)) hx hb ht hown hK hP 26 (by decide) (ht _ xw978) (fun _ h_ => h_) rfl d_M_insert_13 ?_
    refine lv_iload_n hx hb d_M_insert_16 rfl (lv_at hl 1 rfl) ?_
    refine sm_gaI (L := 2) (n := x1.toNatClampNeg) (v := (σ.1 24 x1.toNatClampNeg)) hx hb hK hP 24 23 rfl rfl (xb_in zc1.1 (by omega) (by decide)) (xb_cl zc1.1 (by omega)) (xb_i_nk (by decide)) d_M_insert_17 ?_
    refine lv_bipush (v := 16) hx hb d_M_insert_18 (by decide) ?_
    refine lv_icmp_ne (tgt := 25) hx hb d_M_insert_20 (by decide) (fun c2 => ?_) (fun c2 => ?_)
    · skip
      refine lv_aload_n hx hb d_M_insert_25 rfl (lv_at hl 0 rfl) ?_
      refine lv_iload_n hx hb d_M_insert_26 rfl (lv_at hl 1 rfl) ?_
      refine sm_cv (va_runV (As := [.int x1]) (rest := []) ⟨hx, hb, hml, hown, hts⟩ (c_M_shift l D α κ hα (xb_si σ 0 0 (0 : Int32)) x1 x1.toNatClampNeg zc1.1 (by omega) (mk_si ok (by decide))) (cwV 1 hts (xa_V xw1243 xw1245 xs22 xw11 xw1246) rfl rfl rfl (by decide +kernel) ⟨Nat.le_of_ble_eq_true rfl, Nat.le_of_ble_eq_true rfl⟩) ⟨sm_blind, va_recv (q0 := 0) (ci := 9) hK hP rfl rfl, sm_pre hP hK hN _⟩ rfl rfl hl.1 rfl (lv_room (Nat.le_of_ble_eq_true rfl)) d_M_insert_27 ⟨Nat.le_of_ble_eq_true rfl, Nat.le_of_ble_eq_true rfl⟩) hS (fun _ h_ => h_) (fun H locs hP hS => ?_)
      obtain ⟨τ1, hτ1⟩ : ∃ t_, t_ = (q_shift x1.toNatClampNeg (xb_si σ 0 0 (0 : Int32))) := ⟨_, rfl⟩
      rw [← hτ1] at hP
      have okτ1 : sm_ok τ1 := by rw [hτ1]; exact (ok_q_shift x1.toNatClampNeg (by omega) (sm_n16 ok (by omega) (by first | exact c2 | exact c3 | exact c4)) (mk_si ok (by decide)))
      refine lv_bipush (v := 16) hx hb d_M_insert_30 (by decide) ?_
      refine lv_iload_n hx hb d_M_insert_32 rfl (lv_at hl 1 rfl) ?_
      refine lv_imul hx hb d_M_insert_33 ?_
      refine lv_istore (lv' := [(7, .int ((16 : Int32) * x1)), (0, .ref (α 0)), (1, .int x1), (2, .int x2), (3, .long x3), (5, .long x4)]) hx hb d_M_insert_34 hl (by decide) rfl (fun ls hl => ?_)
      refine lv_aload_n hx hb d_M_insert_36 rfl (lv_at hl 1 rfl) ?_
      refine sm_g (v := .ref (α 25)) hx hb ht hown hK hP 27 (by decide) (ht _ xw979) (fun _ h_ => h_) rfl d_M_insert_37 ?_
      refine lv_iload hx hb d_M_insert_40 (lv_at hl 0 rfl) ?_
      refine lv_iload_n hx hb d_M_insert_42 rfl (lv_at hl 3 rfl) ?_
      refine sm_paI (L := 34) (n := (16 * x1.toNatClampNeg)) (x := x2) hx hb hK hP 25 24 rfl rfl hD hS (xb_in (xb_nm (xb_lit (x := (16 : Int32)) 16 rfl) zc1.1) (by omega) (by decide)) (xb_cl (xb_nm (xb_lit (x := (16 : Int32)) 16 rfl) zc1.1) (by omega)) sm_s_25 d_M_insert_43 (fun H locs hP hS => ?_)
      refine lv_aload_n hx hb d_M_insert_44 rfl (lv_at hl 1 rfl) ?_
      refine sm_g (v := .ref (α 27)) hx hb ht hown hK hP 29 (by decide) (ht _ xw981) (fun _ h_ => h_) rfl d_M_insert_45 ?_
      refine lv_iload hx hb d_M_insert_48 (lv_at hl 0 rfl) ?_
      refine lv_lload hx hb d_M_insert_50 (lv_at hl 5 rfl) ?_
      refine sm_paJ (L := 34) (n := (16 * x1.toNatClampNeg)) (x := x4) hx hb hK hP 27 26 rfl rfl hD hS (xb_in (xb_nm (xb_lit (x := (16 : Int32)) 16 rfl) zc1.1) (by omega) (by decide)) (xb_cl (xb_nm (xb_lit (x := (16 : Int32)) 16 rfl) zc1.1) (by omega)) sm_s_27 d_M_insert_52 (fun H locs hP hS => ?_)
      refine lv_aload_n hx hb d_M_insert_53 rfl (lv_at hl 1 rfl) ?_
      refine sm_g (v := .ref (α 26)) hx hb ht hown hK hP 28 (by decide) (ht _ xw980) (fun _ h_ => h_) rfl d_M_insert_54 ?_
      refine lv_iconst (v := 4) hx hb d_M_insert_57 (by decide) ?_
      refine lv_iload hx hb d_M_insert_58 (lv_at hl 0 rfl) ?_
      refine lv_imul hx hb d_M_insert_60 ?_
      refine lv_lload_n hx hb d_M_insert_61 rfl (lv_at hl 4 rfl) ?_
      refine sm_paJ (L := 136) (n := (4 * (16 * x1.toNatClampNeg))) (x := x3) hx hb hK hP 26 25 rfl rfl hD hS (xb_in (xb_nm (xb_lit (x := (4 : Int32)) 4 rfl) (xb_nm (xb_lit (x := (16 : Int32)) 16 rfl) zc1.1)) (by omega) (by decide)) (xb_cl (xb_nm (xb_lit (x := (4 : Int32)) 4 rfl) (xb_nm (xb_lit (x := (16 : Int32)) 16 rfl) zc1.1)) (by omega)) sm_s_26 d_M_insert_62 (fun H locs hP hS => ?_)
      refine lv_aload_n hx hb d_M_insert_63 rfl (lv_at hl 1 rfl) ?_
      refine sm_g (v := .ref (α 26)) hx hb ht hown hK hP 28 (by decide) (ht _ xw980) (fun _ h_ => h_) rfl d_M_insert_64 ?_
      refine lv_iconst (v := 4) hx hb d_M_insert_67 (by decide) ?_
      refine lv_iload hx hb d_M_insert_68 (lv_at hl 0 rfl) ?_
      refine lv_imul hx hb d_M_insert_70 ?_
      refine lv_iconst (v := 1) hx hb d_M_insert_71 (by decide) ?_
      refine lv_iadd hx hb d_M_insert_72 ?_
      refine lv_lconst (v := 0) hx hb d_M_insert_73 (by decide) ?_
      refine sm_paJ (L := 136) (n := ((4 * (16 * x1.toNatClampNeg)) + 1)) (x := (0 : Int64)) hx hb hK hP 26 25 rfl rfl hD hS (xb_in (xb_na (xb_nm (xb_lit (x := (4 : Int32)) 4 rfl) (xb_nm (xb_lit (x := (16 : Int32)) 16 rfl) zc1.1)) (xb_lit (x := (1 : Int32)) 1 rfl)) (by omega) (by decide)) (xb_cl (xb_na (xb_nm (xb_lit (x := (4 : Int32)) 4 rfl) (xb_nm (xb_lit (x := (16 : Int32)) 16 rfl) zc1.1)) (xb_lit (x := (1 : Int32)) 1 rfl)) (by omega)) sm_s_26 d_M_insert_74 (fun H locs hP hS => ?_)
      refine lv_aload_n hx hb d_M_insert_75 rfl (lv_at hl 1 rfl) ?_
      refine sm_g (v := .ref (α 26)) hx hb ht hown hK hP 28 (by decide) (ht _ xw980) (fun _ h_ => h_) rfl d_M_insert_76 ?_
      refine lv_iconst (v := 4) hx hb d_M_insert_79 (by decide) ?_
      refine lv_iload hx hb d_M_insert_80 (lv_at hl 0 rfl) ?_
      refine lv_imul hx hb d_M_insert_82 ?_
      refine lv_iconst (v := 2) hx hb d_M_insert_83 (by decide) ?_
      refine lv_iadd hx hb d_M_insert_84 ?_
      refine lv_lconst (v := 0) hx hb d_M_insert_85 (by decide) ?_
      refine sm_paJ (L := 136) (n := ((4 * (16 * x1.toNatClampNeg)) + 2)) (x := (0 : Int64)) hx hb hK hP 26 25 rfl rfl hD hS (xb_in (xb_na (xb_nm (xb_lit (x := (4 : Int32)) 4 rfl) (xb_nm (xb_lit (x := (16 : Int32)) 16 rfl) zc1.1)) (xb_lit (x := (2 : Int32)) 2 rfl)) (by omega) (by decide)) (xb_cl (xb_na (xb_nm (xb_lit (x := (4 : Int32)) 4 rfl) (xb_nm (xb_lit (x := (16 : Int32)) 16 rfl) zc1.1)) (xb_lit (x := (2 : Int32)) 2 rfl)) (by omega)) sm_s_26 d_M_insert_86 (fun H locs hP hS => ?_)
      refine lv_aload_n hx hb d_M_insert_87 rfl (lv_at hl 1 rfl) ?_
      refine sm_g (v := .ref (α 26)) hx hb ht hown hK hP 28 (by decide) (ht _ xw980) (fun _ h_ => h_) rfl d_M_insert_88 ?_
      refine lv_iconst (v := 4) hx hb d_M_insert_91 (by decide) ?_
      refine lv_iload hx hb d_M_insert_92 (lv_at hl 0 rfl) ?_
      refine lv_imul hx hb d_M_insert_94 ?_
      refine lv_iconst (v := 3) hx hb d_M_insert_95 (by decide) ?_
      refine lv_iadd hx hb d_M_insert_96 ?_
      refine lv_lconst (v := 0) hx hb d_M_insert_97 (by decide) ?_
      refine sm_paJ (L := 136) (n := ((4 * (16 * x1.toNatClampNeg)) + 3)) (x := (0 : Int64)) hx hb hK hP 26 25 rfl rfl hD hS (xb_in (xb_na (xb_nm (xb_lit (x := (4 : Int32)) 4 rfl) (xb_nm (xb_lit (x := (16 : Int32)) 16 rfl) zc1.1)) (xb_lit (x := (3 : Int32)) 3 rfl)) (by omega) (by decide)) (xb_cl (xb_na (xb_nm (xb_lit (x := (4 : Int32)) 4 rfl) (xb_nm (xb_lit (x := (16 : Int32)) 16 rfl) zc1.1)) (xb_lit (x := (3 : Int32)) 3 rfl)) (by omega)) sm_s_26 d_M_insert_98 (fun H locs hP hS => ?_)
      refine lv_iconst (v := 1) hx hb d_M_insert_99 (by decide) ?_
      exact W.zret (v := (1 : Int32)) hx hb hr rfl (fun t ht_ hW => ⟨⟨(1 : Int32), (xb_sl (xb_sl (xb_sl (xb_sl (xb_sl (xb_si τ1 25 (16 * x1.toNatClampNeg) x2) 27 (16 * x1.toNatClampNeg) x4) 26 (4 * (16 * x1.toNatClampNeg)) x3) 26 ((4 * (16 * x1.toNatClampNeg)) + 1) (0 : Int64)) 26 ((4 * (16 * x1.toNatClampNeg)) + 2) (0 : Int64)) 26 ((4 * (16 * x1.toNatClampNeg)) + 3) (0 : Int64)), rfl, ⟨congrArg Prod.fst (((by subst hτ1; exact ((if_neg c1).trans ((if_neg c2))).symm)) : ((1 : Int32), (xb_sl (xb_sl (xb_sl (xb_sl (xb_sl (xb_si τ1 25 (16 * x1.toNatClampNeg) x2) 27 (16 * x1.toNatClampNeg) x4) 26 (4 * (16 * x1.toNatClampNeg)) x3) 26 ((4 * (16 * x1.toNatClampNeg)) + 1) (0 : Int64)) 26 ((4 * (16 * x1.toNatClampNeg)) + 2) (0 : Int64)) 26 ((4 * (16 * x1.toNatClampNeg)) + 3) (0 : Int64))) = q_insert x1 x2 x3 x4 σ), congrArg Prod.snd (((by subst hτ1; exact ((if_neg c1).trans ((if_neg c2))).symm)) : ((1 : Int32), (xb_sl (xb_sl (xb_sl (xb_sl (xb_sl (xb_si τ1 25 (16 * x1.toNatClampNeg) x2) 27 (16 * x1.toNatClampNeg) x4) 26 (4 * (16 * x1.toNatClampNeg)) x3) 26 ((4 * (16 * x1.toNatClampNeg)) + 1) (0 : Int64)) 26 ((4 * (16 * x1.toNatClampNeg)) + 2) (0 : Int64)) 26 ((4 * (16 * x1.toNatClampNeg)) + 3) (0 : Int64))) = q_insert x1 x2 x3 x4 σ)⟩, by rw [sm_B, ht_]; exact hP⟩, hS.F ht_⟩) hS.2.2 d_M_insert_100
    · skip
      refine lv_iconst (v := 0) hx hb d_M_insert_23 (by decide) ?_
      exact W.zret (v := (0 : Int32)) hx hb hr rfl (fun t ht_ hW => ⟨⟨(0 : Int32), (xb_si σ 0 0 (0 : Int32)), rfl, ⟨congrArg Prod.fst ((((if_neg c1).trans ((if_pos c2))).symm) : ((0 : Int32), (xb_si σ 0 0 (0 : Int32))) = q_insert x1 x2 x3 x4 σ), congrArg Prod.snd ((((if_neg c1).trans ((if_pos c2))).symm) : ((0 : Int32), (xb_si σ 0 0 (0 : Int32))) = q_insert x1 x2 x3 x4 σ)⟩, by rw [sm_B, ht_]; exact hP⟩, hS.F ht_⟩) hS.2.2 d_M_insert_24
theorem ok_q_insert {σ : xb_St} (x1 : Int32) (x2 : Int32) (x3 : Int64) (x4 : Int64)  (ok : sm_ok σ) : sm_ok (q_insert x1 x2 x3 x4 σ).2 := by
  unfold q_insert
  by_cases c1 : (g_isEnd x1) = 0
  · rw [if_pos c1]
    exact (mk_si ok (by decide))
  · rw [if_neg c1]
    have zc1 := sm_end c1
    by_cases c2 : (σ.1 24 x1.toNatClampNeg) = (16 : Int32)
    · rw [if_pos c2]
      exact (mk_si ok (by decide))
    · rw [if_neg c2]
      exact (mk_sl (mk_sl (mk_sl (mk_sl (mk_sl (mk_si (ok_q_shift x1.toNatClampNeg (by omega) (sm_n16 ok (by omega) (by first | exact c2 | exact c3 | exact c4)) (mk_si ok (by decide))) (by decide)))))))
