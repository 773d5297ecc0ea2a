/-- what the walks need of the reference's numbers: lines; room, many, taken -/
def sm_ok (σ : xb_St) : Prop := (∀ e, e < 2 → ∃ n : Nat, n ≤ 16 ∧ σ.1 24 e = nI n) ∧ ∀ q, q < 6 → ∃ a b c : Nat, a + b + c ≤ 24 ∧ σ.1 31 q = nI a ∧ σ.1 32 q = nI b ∧ σ.1 33 q = nI c
theorem mk_sl {σ : xb_St} {K j : Nat} {v : Int64} (h : sm_ok σ) : sm_ok (xb_sl σ K j v) := h
theorem mk_si {σ : xb_St} {K j : Nat} {v : Int32} (h : sm_ok σ) (hK : K ≠ 24 ∧ K ≠ 31 ∧ K ≠ 32 ∧ K ≠ 33) : sm_ok (xb_si σ K j v) := by
  refine ⟨fun e he => ?_, fun q hq => ?_⟩
  · rw [xb_i_nk (fun e => hK.1 e.symm)]; exact h.1 e he
  · rw [xb_i_nk (fun e => hK.2.1 e.symm), xb_i_nk (fun e => hK.2.2.1 e.symm), xb_i_nk (fun e => hK.2.2.2 e.symm)]; exact h.2 q hq
abbrev b_M_thrown : ByteArray := prog_12_method_2_code
def y_M_thrown : MethodName := ⟨"SecurePairModel", "thrown", "()I"⟩
abbrev w_M_thrown : List Cond := .code y_M_thrown b_M_thrown 1 (some .int) :: xa
theorem d_M_thrown_0 : decode b_M_thrown 0 = .ok (.aload_n 0, 1) := by decide +kernel
theorem d_M_thrown_1 : decode b_M_thrown 1 = .ok (.getfield 120, 3) := by decide +kernel
theorem d_M_thrown_4 : decode b_M_thrown 4 = .ok (.ireturn, 1) := by decide +kernel
theorem xw952 : (Cond.fieldLink "SecurePairModel" (120 : Nat) "SecurePairModel" "thrown" "I") ∈ xa := xa_t 952 (by decide +kernel) (by decide +kernel)
def q_thrown  (σ : xb_St) : Int32 := (σ.1 0 0)
set_option maxHeartbeats 4000000 in
set_option maxRecDepth 100000 in
theorem c_M_thrown (l : Launch) (D : va_G) (α : Nat → Nat) (κ : Nat → ClassId) (hα : xb_inj α 35) (σ : xb_St)  : Met l y_M_thrown w_M_thrown ({ frames := 0, cells := 0, slots := 0, locals := 0 }) (va_Pc ([.ref (α 0)]) (sm_Pre D α κ σ)) (va_Qi (fun r (u : xb_St) => r = q_thrown σ ∧ u = σ) (sm_B D α κ) (xb_A α 35)) 0 0 (xb_A α 35) := by
  refine Met.ofW (cc := b_M_thrown) (maxL := 1) (ret := (some .int)) (by decide) rfl ?_
  intro p e s m args below meth c s₁ B_ hml hv
  obtain ⟨rfl, hP, hK, hN⟩ := hv
  have hx := B_.exec
  have hb := B_.bytes
  have hr := B_.returns
  have hts := atoms_spec (ws := w_M_thrown) B_.pre
  have ht : ∀ w ∈ xa, w.before _ s = true := fun w h => hts w (List.mem_cons_of_mem _ h)
  have hown : s.vm.findClass "SecurePairModel" = some m.cls := findClass_of_methodNamed B_.named
  have hlocks := B_.notSynchronized
  have hD := sm_D hα κ
  have hS : va_S (xb_A α 35) s.heap s.heap [] := va_S.rf
  have hl := lv_entry ([.ref (α 0)]) (n := 1) (Nat.le_of_ble_eq_true rfl)
  rw [lg_entry_eq]
  generalize (lg_sl ([.ref (α 0)]) ++ List.replicate (1 - (lg_sl ([.ref (α 0)])).length) Slot.unset).toArray = ls at hl ⊢
  have hl : lv_has ls 1 [(0, .ref (α 0))] := hl
  refine lv_aload_n hx hb d_M_thrown_0 rfl (lv_at hl 0 rfl) ?_
  refine sm_g (v := .int (σ.1 0 0)) hx hb ht hown hK hP 0 (by decide) (ht _ xw952) (fun _ h_ => h_) rfl d_M_thrown_1 ?_
  exact W.iret (v := (σ.1 0 0)) hx hb hr (fun t ht_ hW => ⟨⟨(σ.1 0 0), σ, rfl, ⟨rfl, rfl⟩, by rw [sm_B, ht_]; exact hP⟩, hS.F ht_⟩) hS.2.2 d_M_thrown_4
abbrev b_M_raise : ByteArray := prog_12_method_3_code
def y_M_raise : MethodName := ⟨"SecurePairModel", "raise", "(I)I"⟩
abbrev w_M_raise : List Cond := .code y_M_raise b_M_raise 2 (some .int) :: xa
theorem d_M_raise_0 : decode b_M_raise 0 = .ok (.aload_n 0, 1) := by decide +kernel
theorem d_M_raise_1 : decode b_M_raise 1 = .ok (.iload_n 1, 1) := by decide +kernel
theorem d_M_raise_2 : decode b_M_raise 2 = .ok (.putfield 120, 3) := by decide +kernel
theorem d_M_raise_5 : decode b_M_raise 5 = .ok (.iconst 0, 1) := by decide +kernel
theorem d_M_raise_6 : decode b_M_raise 6 = .ok (.ireturn, 1) := by decide +kernel
def q_raise (x1 : Int32) (σ : xb_St) : Int32 × xb_St := ((0 : Int32), (xb_si σ 0 0 x1))
set_option maxHeartbeats 4000000 in
set_option maxRecDepth 100000 in
theorem c_M_raise (l : Launch) (D : va_G) (α : Nat → Nat) (κ : Nat → ClassId) (hα : xb_inj α 35) (σ : xb_St) (x1 : Int32) : Met l y_M_raise w_M_raise ({ frames := 0, cells := 0, slots := 0, locals := 0 }) (va_Pc ([.ref (α 0), .int x1]) (sm_Pre D α κ σ)) (va_Qi (fun r (u : xb_St) => r = (q_raise x1 σ).1 ∧ u = (q_raise x1 σ).2) (sm_B D α κ) (xb_A α 35)) 0 0 (xb_A α 35) := by
  refine Met.ofW (cc := b_M_raise) (maxL := 2) (ret := (some .int)) (by decide) rfl ?_
  intro p e s m args below meth c s₁ B_ hml hv
  obtain ⟨rfl, hP, hK, hN⟩ := hv
  have hx := B_.exec
  have hb := B_.bytes
  have hr := B_.returns
  have hts := atoms_spec (ws := w_M_raise) B_.pre
  have ht : ∀ w ∈ xa, w.before _ s = true := fun w h => hts w (List.mem_cons_of_mem _ h)
  have hown : s.vm.findClass "SecurePairModel" = some m.cls := findClass_of_methodNamed B_.named
  have hlocks := B_.notSynchronized
  have hD := sm_D hα κ
  have hS : va_S (xb_A α 35) s.heap s.heap [] := va_S.rf
  have hl := lv_entry ([.ref (α 0), .int x1]) (n := 2) (Nat.le_of_ble_eq_true rfl)
  rw [lg_entry_eq]
  generalize (lg_sl ([.ref (α 0), .int x1]) ++ List.replicate (2 - (lg_sl ([.ref (α 0), .int x1])).length) Slot.unset).toArray = ls at hl ⊢
  have hl : lv_has ls 2 [(0, .ref (α 0)), (1, .int x1)] := hl
  refine lv_aload_n hx hb d_M_raise_0 rfl (lv_at hl 0 rfl) ?_
  refine lv_iload_n hx hb d_M_raise_1 rfl (lv_at hl 1 rfl) ?_
  refine sm_pi (x := x1) (ty := .int) hx hb ht hown hK hP 0 (by decide) (ht _ xw952) (fun _ h_ => h_) hD hS rfl (by decide +kernel) rfl rfl sm_f_0 d_M_raise_2 (fun H locs hP hS => ?_)
  refine lv_iconst (v := 0) hx hb d_M_raise_5 (by decide) ?_
  exact W.iret (v := (0 : Int32)) hx hb hr (fun t ht_ hW => ⟨⟨(0 : Int32), (xb_si σ 0 0 x1), rfl, ⟨congrArg Prod.fst ((rfl) : ((0 : Int32), (xb_si σ 0 0 x1)) = q_raise x1 σ), congrArg Prod.snd ((rfl) : ((0 : Int32), (xb_si σ 0 0 x1)) = q_raise x1 σ)⟩, by rw [sm_B, ht_]; exact hP⟩, hS.F ht_⟩) hS.2.2 d_M_raise_6
theorem ok_q_raise {σ : xb_St} (x1 : Int32)  (ok : sm_ok σ) : sm_ok (q_raise x1 σ).2 := by
  unfold q_raise
  exact (mk_si ok (by decide))
abbrev b_M_trust : ByteArray := prog_12_method_41_code
def y_M_trust : MethodName := ⟨"SecurePairModel", "trust", "(I)V"⟩
abbrev w_M_trust : List Cond := .code y_M_trust b_M_trust 2 none :: xa
theorem d_M_trust_0 : decode b_M_trust 0 = .ok (.aload_n 0, 1) := by decide +kernel
theorem d_M_trust_1 : decode b_M_trust 1 = .ok (.iconst 0, 1) := by decide +kernel
theorem d_M_trust_2 : decode b_M_trust 2 = .ok (.putfield 120, 3) := by decide +kernel
theorem d_M_trust_5 : decode b_M_trust 5 = .ok (.aload_n 0, 1) := by decide +kernel
theorem d_M_trust_6 : decode b_M_trust 6 = .ok (.iload_n 1, 1) := by decide +kernel
theorem d_M_trust_7 : decode b_M_trust 7 = .ok (.putfield 213, 3) := by decide +kernel
theorem d_M_trust_10 : decode b_M_trust 10 = .ok (.return_, 1) := by decide +kernel
theorem xw957 : (Cond.fieldLink "SecurePairModel" (213 : Nat) "SecurePairModel" "trusted" "I") ∈ xa := xa_t 957 (by decide +kernel) (by decide +kernel)
def q_trust (x1 : Int32) (σ : xb_St) : xb_St := (xb_si (xb_si σ 0 0 (0 : Int32)) 0 5 x1)
set_option maxHeartbeats 4000000 in
set_option maxRecDepth 100000 in
theorem c_M_trust (l : Launch) (D : va_G) (α : Nat → Nat) (κ : Nat → ClassId) (hα : xb_inj α 35) (σ : xb_St) (x1 : Int32) : Met l y_M_trust w_M_trust ({ frames := 0, cells := 0, slots := 0, locals := 0 }) (va_Pc ([.ref (α 0), .int x1]) (sm_Pre D α κ σ)) (va_Qv (fun u : xb_St => u = q_trust x1 σ) (sm_B D α κ) (xb_A α 35)) 0 0 (xb_A α 35) := by
  refine Met.ofW (cc := b_M_trust) (maxL := 2) (ret := none) (by decide) rfl ?_
  intro p e s m args below meth c s₁ B_ hml hv
  obtain ⟨rfl, hP, hK, hN⟩ := hv
  have hx := B_.exec
  have hb := B_.bytes
  have hr := B_.returns
  have hts := atoms_spec (ws := w_M_trust) B_.pre
  have ht : ∀ w ∈ xa, w.before _ s = true := fun w h => hts w (List.mem_cons_of_mem _ h)
  have hown : s.vm.findClass "SecurePairModel" = some m.cls := findClass_of_methodNamed B_.named
  have hlocks := B_.notSynchronized
  have hD := sm_D hα κ
  have hS : va_S (xb_A α 35) s.heap s.heap [] := va_S.rf
  have hl := lv_entry ([.ref (α 0), .int x1]) (n := 2) (Nat.le_of_ble_eq_true rfl)
  rw [lg_entry_eq]
  generalize (lg_sl ([.ref (α 0), .int x1]) ++ List.replicate (2 - (lg_sl ([.ref (α 0), .int x1])).length) Slot.unset).toArray = ls at hl ⊢
  have hl : lv_has ls 2 [(0, .ref (α 0)), (1, .int x1)] := hl
  refine lv_aload_n hx hb d_M_trust_0 rfl (lv_at hl 0 rfl) ?_
  refine lv_iconst (v := 0) hx hb d_M_trust_1 (by decide) ?_
  refine sm_pi (x := (0 : Int32)) (ty := .int) hx hb ht hown hK hP 0 (by decide) (ht _ xw952) (fun _ h_ => h_) hD hS rfl (by decide +kernel) rfl rfl sm_f_0 d_M_trust_2 (fun H locs hP hS => ?_)
  refine lv_aload_n hx hb d_M_trust_5 rfl (lv_at hl 0 rfl) ?_
  refine lv_iload_n hx hb d_M_trust_6 rfl (lv_at hl 1 rfl) ?_
  refine sm_pi (x := x1) (ty := .int) hx hb ht hown hK hP 5 (by decide) (ht _ xw957) (fun _ h_ => h_) hD hS rfl (by decide +kernel) rfl rfl sm_f_5 d_M_trust_7 (fun H locs hP hS => ?_)
  exact W.vret hx hb hr (fun t ht_ hW => ⟨⟨(xb_si (xb_si σ 0 0 (0 : Int32)) 0 5 x1), rfl, rfl, by rw [sm_B, ht_]; exact hP⟩, hS.F ht_⟩) hS.2.2 d_M_trust_10
theorem ok_q_trust {σ : xb_St} (x1 : Int32)  (ok : sm_ok σ) : sm_ok (q_trust x1 σ) := by
  unfold q_trust
  exact (mk_si (mk_si ok (by decide)) (by decide))
abbrev b_M_host : ByteArray := prog_12_method_40_code
def y_M_host : MethodName := ⟨"SecurePairModel", "host", "(I)I"⟩
abbrev w_M_host : List Cond := .code y_M_host b_M_host 2 (some .int) :: xa
theorem d_M_host_0 : decode b_M_host 0 = .ok (.aload_n 0, 1) := by decide +kernel
theorem d_M_host_1 : decode b_M_host 1 = .ok (.iconst 0, 1) := by decide +kernel
theorem d_M_host_2 : decode b_M_host 2 = .ok (.putfield 120, 3) := by decide +kernel
theorem d_M_host_5 : decode b_M_host 5 = .ok (.iload_n 1, 1) := by decide +kernel
theorem d_M_host_6 : decode b_M_host 6 = .ok (.iconst 1, 1) := by decide +kernel
theorem d_M_host_7 : decode b_M_host 7 = .ok (.if_icmp .lt 10, 3) := by decide +kernel
theorem d_M_host_10 : decode b_M_host 10 = .ok (.iload_n 1, 1) := by decide +kernel
theorem d_M_host_11 : decode b_M_host 11 = .ok (.ldc_w 264, 3) := by decide +kernel
theorem d_M_host_14 : decode b_M_host 14 = .ok (.if_icmp .le 5, 3) := by decide +kernel
theorem d_M_host_17 : decode b_M_host 17 = .ok (.iconst 0, 1) := by decide +kernel
theorem d_M_host_18 : decode b_M_host 18 = .ok (.ireturn, 1) := by decide +kernel
theorem d_M_host_19 : decode b_M_host 19 = .ok (.aload_n 0, 1) := by decide +kernel
theorem d_M_host_20 : decode b_M_host 20 = .ok (.iload_n 1, 1) := by decide +kernel
theorem d_M_host_21 : decode b_M_host 21 = .ok (.i2l, 1) := by decide +kernel
theorem d_M_host_22 : decode b_M_host 22 = .ok (.putfield 21, 3) := by decide +kernel
theorem d_M_host_25 : decode b_M_host 25 = .ok (.ldc2_w 146, 3) := by decide +kernel
theorem d_M_host_28 : decode b_M_host 28 = .ok (.iload_n 1, 1) := by decide +kernel
theorem d_M_host_29 : decode b_M_host 29 = .ok (.i2l, 1) := by decide +kernel
theorem d_M_host_30 : decode b_M_host 30 = .ok (.invokestatic 148, 3) := by decide +kernel
theorem d_M_host_33 : decode b_M_host 33 = .ok (.l2i, 1) := by decide +kernel
theorem d_M_host_34 : decode b_M_host 34 = .ok (.ireturn, 1) := by decide +kernel
theorem xw956 : (Cond.fieldLink "SecurePairModel" (21 : Nat) "SecurePairModel" "hostSecret" "J") ∈ xa := xa_t 956 (by decide +kernel) (by decide +kernel)
theorem xw1222 : (Cond.constant "SecurePairModel" (264 : Nat) (2147483645 : Int32)) ∈ xa := xa_t 1222 (by decide +kernel) (by decide +kernel)
def q_host (x1 : Int32) (σ : xb_St) : Int32 × xb_St := (if x1 < (1 : Int32) then ((0 : Int32), (xb_si σ 0 0 (0 : Int32))) else (if x1 ≤ (2147483645 : Int32) then ((g_power (7 : Int64) x1.toInt64).toInt32, (xb_sl (xb_si σ 0 0 (0 : Int32)) 0 4 x1.toInt64)) else ((0 : Int32), (xb_si σ 0 0 (0 : Int32)))))
set_option maxHeartbeats 4000000 in
set_option maxRecDepth 100000 in
theorem c_M_host (l : Launch) (D : va_G) (α : Nat → Nat) (κ : Nat → ClassId) (hα : xb_inj α 35) (σ : xb_St) (x1 : Int32) : Met l y_M_host w_M_host ({ frames := 1, cells := 0, slots := 0, locals := 29 }) (va_Pc ([.ref (α 0), .int x1]) (sm_Pre D α κ σ)) (va_Qi (fun r (u : xb_St) => r = (q_host x1 σ).1 ∧ u = (q_host x1 σ).2) (sm_B D α κ) (xb_A α 35)) 0 0 (xb_A α 35) := by
  refine Met.ofW (cc := b_M_host) (maxL := 2) (ret := (some .int)) (by decide) rfl ?_
  intro p e s m args below meth c s₁ B_ hml hv
  obtain ⟨rfl, hP, hK, hN⟩ := hv
  have hx := B_.exec
  have hb := B_.bytes
  have hr := B_.returns
  have hts := atoms_spec (ws := w_M_host) B_.pre
  have ht : ∀ w ∈ xa, w.before _ s = true := fun w h => hts w (List.mem_cons_of_mem _ h)
  have hown : s.vm.findClass "SecurePairModel" = some m.cls := findClass_of_methodNamed B_.named
  have hlocks := B_.notSynchronized
  have hD := sm_D hα κ
  have hS : va_S (xb_A α 35) s.heap s.heap [] := va_S.rf
  have hl := lv_entry ([.ref (α 0), .int x1]) (n := 2) (Nat.le_of_ble_eq_true rfl)
  rw [lg_entry_eq]
  generalize (lg_sl ([.ref (α 0), .int x1]) ++ List.replicate (2 - (lg_sl ([.ref (α 0), .int x1])).length) Slot.unset).toArray = ls at hl ⊢
  have hl : lv_has ls 2 [(0, .ref (α 0)), (1, .int x1)] := hl
  refine lv_aload_n hx hb d_M_host_0 rfl (lv_at hl 0 rfl) ?_
  refine lv_iconst (v := 0) hx hb d_M_host_1 (by decide) ?_
  refine sm_pi (x := (0 : Int32)) (ty := .int) hx hb ht hown hK hP 0 (by decide) (ht _ xw952) (fun _ h_ => h_) hD hS rfl (by decide +kernel) rfl rfl sm_f_0 d_M_host_2 (fun H locs hP hS => ?_)
  refine lv_iload_n hx hb d_M_host_5 rfl (lv_at hl 1 rfl) ?_
  refine lv_iconst (v := 1) hx hb d_M_host_6 (by decide) ?_
  refine lv_icmp_lt (tgt := 17) hx hb d_M_host_7 (by decide) (fun c1 => ?_) (fun c1 => ?_)
  · skip
    refine lv_iconst (v := 0) hx hb d_M_host_17 (by decide) ?_
    exact W.iret (v := (0 : Int32)) hx hb hr (fun t ht_ hW => ⟨⟨(0 : Int32), (xb_si σ 0 0 (0 : Int32)), rfl, ⟨congrArg Prod.fst ((((if_pos c1)).symm) : ((0 : Int32), (xb_si σ 0 0 (0 : Int32))) = q_host x1 σ), congrArg Prod.snd ((((if_pos c1)).symm) : ((0 : Int32), (xb_si σ 0 0 (0 : Int32))) = q_host x1 σ)⟩, by rw [sm_B, ht_]; exact hP⟩, hS.F ht_⟩) hS.2.2 d_M_host_18
  · skip
    refine lv_iload_n hx hb d_M_host_10 rfl (lv_at hl 1 rfl) ?_
    refine lv_ldcw hx hb hown (ht _ xw1222) d_M_host_11 ?_
    refine lv_icmp_le (tgt := 19) hx hb d_M_host_14 (by decide) (fun c2 => ?_) (fun c2 => ?_)
    · skip
      refine lv_aload_n hx hb d_M_host_19 rfl (lv_at hl 0 rfl) ?_
      refine lv_iload_n hx hb d_M_host_20 rfl (lv_at hl 1 rfl) ?_
      refine lv_i2l (v := x1.toInt64) hx hb d_M_host_21 (by rfl) ?_
      refine sm_pl (x := x1.toInt64) (ty := .long) hx hb ht hown hK hP 4 (by decide) (ht _ xw956) (fun _ h_ => h_) hD hS rfl (by decide +kernel) rfl rfl sm_f_4 d_M_host_22 (fun H locs hP hS => ?_)
      refine lv_ldc2 hx hb hown (ht _ xw1133) d_M_host_25 ?_
      refine lv_iload_n hx hb d_M_host_28 rfl (lv_at hl 1 rfl) ?_
      refine lv_i2l (v := x1.toInt64) hx hb d_M_host_29 (by rfl) ?_
      refine vp_callSl (W.runS (As := [.long (7 : Int64), .long x1.toInt64]) (rest := []) ⟨hx, hb, hml, hown, hts⟩ (c_M_power l (7 : Int64) x1.toInt64) (cwS 2 hts (xa_S xw1134 xw1135 xw11 xw1136) rfl rfl rfl (by decide +kernel) ⟨Nat.le_of_ble_eq_true rfl, Nat.le_of_ble_eq_true rfl⟩) preEq rfl rfl hl.1 rfl (lv_room (Nat.le_of_ble_eq_true rfl)) d_M_host_30 ⟨Nat.le_of_ble_eq_true rfl, Nat.le_of_ble_eq_true rfl⟩) (fun r_ e_ => ?_)
      subst e_
      refine lv_l2i (v := (g_power (7 : Int64) x1.toInt64).toInt32) hx hb d_M_host_33 (by rfl) ?_
      exact W.iret (v := (g_power (7 : Int64) x1.toInt64).toInt32) hx hb hr (fun t ht_ hW => ⟨⟨(g_power (7 : Int64) x1.toInt64).toInt32, (xb_sl (xb_si σ 0 0 (0 : Int32)) 0 4 x1.toInt64), rfl, ⟨congrArg Prod.fst ((((if_neg c1).trans ((if_pos c2))).symm) : ((g_power (7 : Int64) x1.toInt64).toInt32, (xb_sl (xb_si σ 0 0 (0 : Int32)) 0 4 x1.toInt64)) = q_host x1 σ), congrArg Prod.snd ((((if_neg c1).trans ((if_pos c2))).symm) : ((g_power (7 : Int64) x1.toInt64).toInt32, (xb_sl (xb_si σ 0 0 (0 : Int32)) 0 4 x1.toInt64)) = q_host x1 σ)⟩, by rw [sm_B, ht_]; exact hP⟩, hS.F ht_⟩) hS.2.2 d_M_host_34
    · skip
      refine lv_iconst (v := 0) hx hb d_M_host_17 (by decide) ?_
      exact W.iret (v := (0 : Int32)) hx hb hr (fun t ht_ hW => ⟨⟨(0 : Int32), (xb_si σ 0 0 (0 : Int32)), rfl, ⟨congrArg Prod.fst ((((if_neg c1).trans ((if_neg c2))).symm) : ((0 : Int32), (xb_si σ 0 0 (0 : Int32))) = q_host x1 σ), congrArg Prod.snd ((((if_neg c1).trans ((if_neg c2))).symm) : ((0 : Int32), (xb_si σ 0 0 (0 : Int32))) = q_host x1 σ)⟩, by rw [sm_B, ht_]; exact hP⟩, hS.F ht_⟩) hS.2.2 d_M_host_18
theorem ok_q_host {σ : xb_St} (x1 : Int32)  (ok : sm_ok σ) : sm_ok (q_host x1 σ).2 := by
  unfold q_host
  by_cases c1 : x1 < (1 : Int32)
  · rw [if_pos c1]
    exact (mk_si ok (by decide))
  · rw [if_neg c1]
    by_cases c2 : x1 ≤ (2147483645 : Int32)
    · rw [if_pos c2]
      exact (mk_sl (mk_si ok (by decide)))
    · rw [if_neg c2]
      exact (mk_si ok (by decide))
abbrev b_M_change : ByteArray := prog_12_method_23_code
def y_M_change : MethodName := ⟨"SecurePairModel", "change", "(II)V"⟩
abbrev w_M_change : List Cond := .code y_M_change b_M_change 4 none :: xa
theorem d_M_change_0 : decode b_M_change 0 = .ok (.iconst 2, 1) := by decide +kernel
theorem d_M_change_1 : decode b_M_change 1 = .ok (.iload_n 1, 1) := by decide +kernel
theorem d_M_change_2 : decode b_M_change 2 = .ok (.imul, 1) := by decide +kernel
theorem d_M_change_3 : decode b_M_change 3 = .ok (.iload_n 2, 1) := by decide +kernel
theorem d_M_change_4 : decode b_M_change 4 = .ok (.iadd, 1) := by decide +kernel
theorem d_M_change_5 : decode b_M_change 5 = .ok (.istore_n 3, 1) := by decide +kernel
theorem d_M_change_6 : decode b_M_change 6 = .ok (.aload_n 0, 1) := by decide +kernel
theorem d_M_change_7 : decode b_M_change 7 = .ok (.getfield 66, 3) := by decide +kernel
theorem d_M_change_10 : decode b_M_change 10 = .ok (.iload_n 3, 1) := by decide +kernel
theorem d_M_change_11 : decode b_M_change 11 = .ok (.iconst 1, 1) := by decide +kernel
theorem d_M_change_12 : decode b_M_change 12 = .ok (.bastore, 1) := by decide +kernel
theorem d_M_change_13 : decode b_M_change 13 = .ok (.aload_n 0, 1) := by decide +kernel
theorem d_M_change_14 : decode b_M_change 14 = .ok (.getfield 69, 3) := by decide +kernel
theorem d_M_change_17 : decode b_M_change 17 = .ok (.iload_n 3, 1) := by decide +kernel
theorem d_M_change_18 : decode b_M_change 18 = .ok (.aload_n 0, 1) := by decide +kernel
theorem d_M_change_19 : decode b_M_change 19 = .ok (.getfield 81, 3) := by decide +kernel
theorem d_M_change_22 : decode b_M_change 22 = .ok (.iload_n 3, 1) := by decide +kernel
theorem d_M_change_23 : decode b_M_change 23 = .ok (.laload, 1) := by decide +kernel
theorem d_M_change_24 : decode b_M_change 24 = .ok (.lastore, 1) := by decide +kernel
theorem d_M_change_25 : decode b_M_change 25 = .ok (.aload_n 0, 1) := by decide +kernel
theorem d_M_change_26 : decode b_M_change 26 = .ok (.getfield 72, 3) := by decide +kernel
theorem d_M_change_29 : decode b_M_change 29 = .ok (.iload_n 3, 1) := by decide +kernel
theorem d_M_change_30 : decode b_M_change 30 = .ok (.aload_n 0, 1) := by decide +kernel
theorem d_M_change_31 : decode b_M_change 31 = .ok (.getfield 84, 3) := by decide +kernel
theorem d_M_change_34 : decode b_M_change 34 = .ok (.iload_n 3, 1) := by decide +kernel
theorem d_M_change_35 : decode b_M_change 35 = .ok (.laload, 1) := by decide +kernel
theorem d_M_change_36 : decode b_M_change 36 = .ok (.lastore, 1) := by decide +kernel
theorem d_M_change_37 : decode b_M_change 37 = .ok (.aload_n 0, 1) := by decide +kernel
theorem d_M_change_38 : decode b_M_change 38 = .ok (.getfield 75, 3) := by decide +kernel
theorem d_M_change_41 : decode b_M_change 41 = .ok (.iload_n 3, 1) := by decide +kernel
theorem d_M_change_42 : decode b_M_change 42 = .ok (.aload_n 0, 1) := by decide +kernel
theorem d_M_change_43 : decode b_M_change 43 = .ok (.getfield 60, 3) := by decide +kernel
theorem d_M_change_46 : decode b_M_change 46 = .ok (.iload_n 1, 1) := by decide +kernel
theorem d_M_change_47 : decode b_M_change 47 = .ok (.iaload, 1) := by decide +kernel
theorem d_M_change_48 : decode b_M_change 48 = .ok (.iastore, 1) := by decide +kernel
theorem d_M_change_49 : decode b_M_change 49 = .ok (.aload_n 0, 1) := by decide +kernel
theorem d_M_change_50 : decode b_M_change 50 = .ok (.getfield 78, 3) := by decide +kernel
theorem d_M_change_53 : decode b_M_change 53 = .ok (.iload_n 3, 1) := by decide +kernel
theorem d_M_change_54 : decode b_M_change 54 = .ok (.aload_n 0, 1) := by decide +kernel
theorem d_M_change_55 : decode b_M_change 55 = .ok (.getfield 63, 3) := by decide +kernel
theorem d_M_change_58 : decode b_M_change 58 = .ok (.iload_n 1, 1) := by decide +kernel
theorem d_M_change_59 : decode b_M_change 59 = .ok (.iaload, 1) := by decide +kernel
theorem d_M_change_60 : decode b_M_change 60 = .ok (.iastore, 1) := by decide +kernel
theorem d_M_change_61 : decode b_M_change 61 = .ok (.return_, 1) := by decide +kernel
theorem xw969 : (Cond.fieldLink "SecurePairModel" (60 : Nat) "SecurePairModel" "chosenCipher" "[I") ∈ xa := xa_t 969 (by decide +kernel) (by decide +kernel)
theorem xw970 : (Cond.fieldLink "SecurePairModel" (63 : Nat) "SecurePairModel" "chosenTag" "[I") ∈ xa := xa_t 970 (by decide +kernel) (by decide +kernel)
theorem xw971 : (Cond.fieldLink "SecurePairModel" (66 : Nat) "SecurePairModel" "keyed" "[Z") ∈ xa := xa_t 971 (by decide +kernel) (by decide +kernel)
theorem xw972 : (Cond.fieldLink "SecurePairModel" (69 : Nat) "SecurePairModel" "cipherKey" "[J") ∈ xa := xa_t 972 (by decide +kernel) (by decide +kernel)
theorem xw973 : (Cond.fieldLink "SecurePairModel" (72 : Nat) "SecurePairModel" "tagKey" "[J") ∈ xa := xa_t 973 (by decide +kernel) (by decide +kernel)
theorem xw974 : (Cond.fieldLink "SecurePairModel" (75 : Nat) "SecurePairModel" "cipher" "[I") ∈ xa := xa_t 974 (by decide +kernel) (by decide +kernel)
theorem xw975 : (Cond.fieldLink "SecurePairModel" (78 : Nat) "SecurePairModel" "tagKind" "[I") ∈ xa := xa_t 975 (by decide +kernel) (by decide +kernel)
theorem xw976 : (Cond.fieldLink "SecurePairModel" (81 : Nat) "SecurePairModel" "nextCipherKey" "[J") ∈ xa := xa_t 976 (by decide +kernel) (by decide +kernel)
theorem xw977 : (Cond.fieldLink "SecurePairModel" (84 : Nat) "SecurePairModel" "nextTagKey" "[J") ∈ xa := xa_t 977 (by decide +kernel) (by decide +kernel)
def q_change (e1 : Nat) (d1 : Nat) (σ : xb_St) : xb_St := (xb_si (xb_si (xb_sl (xb_sl (xb_si σ 17 ((2 * e1) + d1) (1 : Int32)) 18 ((2 * e1) + d1) (σ.2 22 ((2 * e1) + d1))) 19 ((2 * e1) + d1) (σ.2 23 ((2 * e1) + d1))) 20 ((2 * e1) + d1) (σ.1 15 e1)) 21 ((2 * e1) + d1) (σ.1 16 e1))
set_option maxHeartbeats 4000000 in
set_option maxRecDepth 100000 in
theorem c_M_change (l : Launch) (D : va_G) (α : Nat → Nat) (κ : Nat → ClassId) (hα : xb_inj α 35) (σ : xb_St) (x_e1 : Int32) (e1 : Nat) (e_e1 : x_e1 = nI e1) (b_e1 : e1 < 2) (x_d1 : Int32) (d1 : Nat) (e_d1 : x_d1 = nI d1) (b_d1 : d1 < 2) : Met l y_M_change w_M_change ({ frames := 0, cells := 0, slots := 0, locals := 0 }) (va_Pc ([.ref (α 0), .int x_e1, .int x_d1]) (sm_Pre D α κ σ)) (va_Qv (fun u : xb_St => u = q_change e1 d1 σ) (sm_B D α κ) (xb_A α 35)) 0 0 (xb_A α 35) := by
  subst e_e1
  subst e_d1
  refine Met.ofW (cc := b_M_change) (maxL := 4) (ret := none) (by decide) rfl ?_
  intro p e s m args below meth c s₁ B_ hml hv
  obtain ⟨rfl, hP, hK, hN⟩ := hv
  have hx := B_.exec
  have hb := B_.bytes
  have hr := B_.returns
  have hts := atoms_spec (ws := w_M_change) B_.pre
  have ht : ∀ w ∈ xa, w.before _ s = true := fun w h => hts w (List.mem_cons_of_mem _ h)
  have hown : s.vm.findClass "SecurePairModel" = some m.cls := findClass_of_methodNamed B_.named
  have hlocks := B_.notSynchronized
  have hD := sm_D hα κ
  have hS : va_S (xb_A α 35) s.heap s.heap [] := va_S.rf
  have hl := lv_entry ([.ref (α 0), .int (nI e1), .int (nI d1)]) (n := 4) (Nat.le_of_ble_eq_true rfl)
  rw [lg_entry_eq]
  generalize (lg_sl ([.ref (α 0), .int (nI e1), .int (nI d1)]) ++ List.replicate (4 - (lg_sl ([.ref (α 0), .int (nI e1), .int (nI d1)])).length) Slot.unset).toArray = ls at hl ⊢
  have hl : lv_has ls 4 [(0, .ref (α 0)), (1, .int (nI e1)), (2, .int (nI d1))] := hl
  refine lv_iconst (v := 2) hx hb d_M_change_0 (by decide) ?_
  refine lv_iload_n hx hb d_M_change_1 rfl (lv_at hl 1 rfl) ?_
  refine lv_imul hx hb d_M_change_2 ?_
  refine lv_iload_n hx hb d_M_change_3 rfl (lv_at hl 2 rfl) ?_
  refine lv_iadd hx hb d_M_change_4 ?_
  refine lv_istore_n (lv' := [(3, .int (((2 : Int32) * (nI e1)) + (nI d1))), (0, .ref (α 0)), (1, .int (nI e1)), (2, .int (nI d1))]) hx hb d_M_change_5 rfl hl (by decide) rfl (fun ls hl => ?_)
  refine lv_aload_n hx hb d_M_change_6 rfl (lv_at hl 1 rfl) ?_
  refine sm_g (v := .ref (α 17)) hx hb ht hown hK hP 19 (by decide) (ht _ xw971) (fun _ h_ => h_) rfl d_M_change_7 ?_
  refine lv_iload_n hx hb d_M_change_10 rfl (lv_at hl 0 rfl) ?_
  refine lv_iconst (v := 1) hx hb d_M_change_11 (by decide) ?_
  refine sm_paZ (L := 4) (n := ((2 * e1) + d1)) (x := (1 : Int32)) hx hb hK hP 17 16 rfl rfl hD hS rfl (xb_in (xb_na (xb_nm (xb_lit (x := (2 : Int32)) 2 rfl) (xb_lit e1 rfl)) (xb_lit d1 rfl)) (by omega) (by decide)) (xb_cl (xb_na (xb_nm (xb_lit (x := (2 : Int32)) 2 rfl) (xb_lit e1 rfl)) (xb_lit d1 rfl)) (by omega)) sm_s_17 d_M_change_12 (fun H locs hP hS => ?_)
  refine lv_aload_n hx hb d_M_change_13 rfl (lv_at hl 1 rfl) ?_
  refine sm_g (v := .ref (α 18)) hx hb ht hown hK hP 20 (by decide) (ht _ xw972) (fun _ h_ => h_) rfl d_M_change_14 ?_
  refine lv_iload_n hx hb d_M_change_17 rfl (lv_at hl 0 rfl) ?_
  refine lv_aload_n hx hb d_M_change_18 rfl (lv_at hl 1 rfl) ?_
  refine sm_g (v := .ref (α 22)) hx hb ht hown hK hP 24 (by decide) (ht _ xw976) (fun _ h_ => h_) rfl d_M_change_19 ?_
  refine lv_iload_n hx hb d_M_change_22 rfl (lv_at hl 0 rfl) ?_
  refine sm_gaJ (L := 4) (n := ((2 * e1) + d1)) (v := (σ.2 22 ((2 * e1) + d1))) hx hb hK hP 22 21 rfl rfl (xb_in (xb_na (xb_nm (xb_lit (x := (2 : Int32)) 2 rfl) (xb_lit e1 rfl)) (xb_lit d1 rfl)) (by omega) (by decide)) (xb_cl (xb_na (xb_nm (xb_lit (x := (2 : Int32)) 2 rfl) (xb_lit e1 rfl)) (xb_lit d1 rfl)) (by omega)) xb_l_i d_M_change_23 ?_
  refine sm_paJ (L := 4) (n := ((2 * e1) + d1)) (x := (σ.2 22 ((2 * e1) + d1))) hx hb hK hP 18 17 rfl rfl hD hS (xb_in (xb_na (xb_nm (xb_lit (x := (2 : Int32)) 2 rfl) (xb_lit e1 rfl)) (xb_lit d1 rfl)) (by omega) (by decide)) (xb_cl (xb_na (xb_nm (xb_lit (x := (2 : Int32)) 2 rfl) (xb_lit e1 rfl)) (xb_lit d1 rfl)) (by omega)) sm_s_18 d_M_change_24 (fun H locs hP hS => ?_)
  refine lv_aload_n hx hb d_M_change_25 rfl (lv_at hl 1 rfl) ?_
  refine sm_g (v := .ref (α 19)) hx hb ht hown hK hP 21 (by decide) (ht _ xw973) (fun _ h_ => h_) rfl d_M_change_26 ?_
  refine lv_iload_n hx hb d_M_change_29 rfl (lv_at hl 0 rfl) ?_
  refine lv_aload_n hx hb d_M_change_30 rfl (lv_at hl 1 rfl) ?_
  refine sm_g (v := .ref (α 23)) hx hb ht hown hK hP 25 (by decide) (ht _ xw977) (fun _ h_ => h_) rfl d_M_change_31 ?_
  refine lv_iload_n hx hb d_M_change_34 rfl (lv_at hl 0 rfl) ?_
  refine sm_gaJ (L := 4) (n := ((2 * e1) + d1)) (v := (σ.2 23 ((2 * e1) + d1))) hx hb hK hP 23 22 rfl rfl (xb_in (xb_na (xb_nm (xb_lit (x := (2 : Int32)) 2 rfl) (xb_lit e1 rfl)) (xb_lit d1 rfl)) (by omega) (by decide)) (xb_cl (xb_na (xb_nm (xb_lit (x := (2 : Int32)) 2 rfl) (xb_lit e1 rfl)) (xb_lit d1 rfl)) (by omega)) (((xb_l_nk (by decide))).trans (xb_l_i)) d_M_change_35 ?_
  refine sm_paJ (L := 4) (n := ((2 * e1) + d1)) (x := (σ.2 23 ((2 * e1) + d1))) hx hb hK hP 19 18 rfl rfl hD hS (xb_in (xb_na (xb_nm (xb_lit (x := (2 : Int32)) 2 rfl) (xb_lit e1 rfl)) (xb_lit d1 rfl)) (by omega) (by decide)) (xb_cl (xb_na (xb_nm (xb_lit (x := (2 : Int32)) 2 rfl) (xb_lit e1 rfl)) (xb_lit d1 rfl)) (by omega)) sm_s_19 d_M_change_36 (fun H locs hP hS => ?_)
  refine lv_aload_n hx hb d_M_change_37 rfl (lv_at hl 1 rfl) ?_
  refine sm_g (v := .ref (α 20)) hx hb ht hown hK hP 22 (by decide) (ht _ xw974) (fun _ h_ => h_) rfl d_M_change_38 ?_
  refine lv_iload_n hx hb d_M_change_41 rfl (lv_at hl 0 rfl) ?_
  refine lv_aload_n hx hb d_M_change_42 rfl (lv_at hl 1 rfl) ?_
  refine sm_g (v := .ref (α 15)) hx hb ht hown hK hP 17 (by decide) (ht _ xw969) (fun _ h_ => h_) rfl d_M_change_43 ?_
  refine lv_iload_n hx hb d_M_change_46 rfl (lv_at hl 2 rfl) ?_
  refine sm_gaI (L := 2) (n := e1) (v := (σ.1 15 e1)) hx hb hK hP 15 14 rfl rfl (xb_in (xb_lit e1 rfl) (by omega) (by decide)) (xb_cl (xb_lit e1 rfl) (by omega)) ((xb_i_l).trans ((xb_i_l).trans ((xb_i_nk (by decide))))) d_M_change_47 ?_
  refine sm_paI (L := 4) (n := ((2 * e1) + d1)) (x := (σ.1 15 e1)) hx hb hK hP 20 19 rfl rfl hD hS (xb_in (xb_na (xb_nm (xb_lit (x := (2 : Int32)) 2 rfl) (xb_lit e1 rfl)) (xb_lit d1 rfl)) (by omega) (by decide)) (xb_cl (xb_na (xb_nm (xb_lit (x := (2 : Int32)) 2 rfl) (xb_lit e1 rfl)) (xb_lit d1 rfl)) (by omega)) sm_s_20 d_M_change_48 (fun H locs hP hS => ?_)
  refine lv_aload_n hx hb d_M_change_49 rfl (lv_at hl 1 rfl) ?_
  refine sm_g (v := .ref (α 21)) hx hb ht hown hK hP 23 (by decide) (ht _ xw975) (fun _ h_ => h_) rfl d_M_change_50 ?_
  refine lv_iload_n hx hb d_M_change_53 rfl (lv_at hl 0 rfl) ?_
  refine lv_aload_n hx hb d_M_change_54 rfl (lv_at hl 1 rfl) ?_
  refine sm_g (v := .ref (α 16)) hx hb ht hown hK hP 18 (by decide) (ht _ xw970) (fun _ h_ => h_) rfl d_M_change_55 ?_
  refine lv_iload_n hx hb d_M_change_58 rfl (lv_at hl 2 rfl) ?_
  refine sm_gaI (L := 2) (n := e1) (v := (σ.1 16 e1)) hx hb hK hP 16 15 rfl rfl (xb_in (xb_lit e1 rfl) (by omega) (by decide)) (xb_cl (xb_lit e1 rfl) (by omega)) (((xb_i_nk (by decide))).trans ((xb_i_l).trans ((xb_i_l).trans ((xb_i_nk (by decide)))))) d_M_change_59 ?_
  refine sm_paI (L := 4) (n := ((2 * e1) + d1)) (x := (σ.1 16 e1)) hx hb hK hP 21 20 rfl rfl hD hS (xb_in (xb_na (xb_nm (xb_lit (x := (2 : Int32)) 2 rfl) (xb_lit e1 rfl)) (xb_lit d1 rfl)) (by omega) (by decide)) (xb_cl (xb_na (xb_nm (xb_lit (x := (2 : Int32)) 2 rfl) (xb_lit e1 rfl)) (xb_lit d1 rfl)) (by omega)) sm_s_21 d_M_change_60 (fun H locs hP hS => ?_)
  exact W.vret hx hb hr (fun t ht_ hW => ⟨⟨(xb_si (xb_si (xb_sl (xb_sl (xb_si σ 17 ((2 * e1) + d1) (1 : Int32)) 18 ((2 * e1) + d1) (σ.2 22 ((2 * e1) + d1))) 19 ((2 * e1) + d1) (σ.2 23 ((2 * e1) + d1))) 20 ((2 * e1) + d1) (σ.1 15 e1)) 21 ((2 * e1) + d1) (σ.1 16 e1)), rfl, rfl, by rw [sm_B, ht_]; exact hP⟩, hS.F ht_⟩) hS.2.2 d_M_change_61
theorem ok_q_change {σ : xb_St} (e1 : Nat) (d1 : Nat) (b_e1 : e1 < 2) (b_d1 : d1 < 2) (ok : sm_ok σ) : sm_ok (q_change e1 d1 σ) := by
  unfold q_change
  exact (mk_si (mk_si (mk_sl (mk_sl (mk_si ok (by decide)))) (by decide)) (by decide))
abbrev b_M_freeChannel : ByteArray := prog_12_method_29_code
def y_M_freeChannel : MethodName := ⟨"SecurePairModel", "freeChannel", "(I)I"⟩
abbrev w_M_freeChannel : List Cond := .code y_M_freeChannel b_M_freeChannel 3 (some .int) :: xa
theorem d_M_freeChannel_0 : decode b_M_freeChannel 0 = .ok (.iconst 0, 1) := by decide +kernel
theorem d_M_freeChannel_1 : decode b_M_freeChannel 1 = .ok (.istore_n 2, 1) := by decide +kernel
theorem d_M_freeChannel_2 : decode b_M_freeChannel 2 = .ok (.iload_n 2, 1) := by decide +kernel
theorem d_M_freeChannel_3 : decode b_M_freeChannel 3 = .ok (.iconst 3, 1) := by decide +kernel
theorem d_M_freeChannel_4 : decode b_M_freeChannel 4 = .ok (.if_icmp .ge 24, 3) := by decide +kernel
theorem d_M_freeChannel_7 : decode b_M_freeChannel 7 = .ok (.aload_n 0, 1) := by decide +kernel
theorem d_M_freeChannel_8 : decode b_M_freeChannel 8 = .ok (.getfield 99, 3) := by decide +kernel
theorem d_M_freeChannel_11 : decode b_M_freeChannel 11 = .ok (.iconst 3, 1) := by decide +kernel
theorem d_M_freeChannel_12 : decode b_M_freeChannel 12 = .ok (.iload_n 1, 1) := by decide +kernel
theorem d_M_freeChannel_13 : decode b_M_freeChannel 13 = .ok (.imul, 1) := by decide +kernel
theorem d_M_freeChannel_14 : decode b_M_freeChannel 14 = .ok (.iload_n 2, 1) := by decide +kernel
theorem d_M_freeChannel_15 : decode b_M_freeChannel 15 = .ok (.iadd, 1) := by decide +kernel
theorem d_M_freeChannel_16 : decode b_M_freeChannel 16 = .ok (.iaload, 1) := by decide +kernel
theorem d_M_freeChannel_17 : decode b_M_freeChannel 17 = .ok (.ifCond .ne 5, 3) := by decide +kernel
theorem d_M_freeChannel_20 : decode b_M_freeChannel 20 = .ok (.iload_n 2, 1) := by decide +kernel
theorem d_M_freeChannel_21 : decode b_M_freeChannel 21 = .ok (.ireturn, 1) := by decide +kernel
theorem d_M_freeChannel_22 : decode b_M_freeChannel 22 = .ok (.iinc 2 1, 3) := by decide +kernel
theorem d_M_freeChannel_25 : decode b_M_freeChannel 25 = .ok (.goto (-23), 3) := by decide +kernel
theorem d_M_freeChannel_28 : decode b_M_freeChannel 28 = .ok (.iconst (-1), 1) := by decide +kernel
theorem d_M_freeChannel_29 : decode b_M_freeChannel 29 = .ok (.ireturn, 1) := by decide +kernel
theorem xw982 : (Cond.fieldLink "SecurePairModel" (99 : Nat) "SecurePairModel" "stage" "[I") ∈ xa := xa_t 982 (by decide +kernel) (by decide +kernel)
def q_free (e1 : Nat) (σ : xb_St) : Int32 := (if (σ.1 28 ((3 * e1) + 0)) = 0 then (0 : Int32) else (if (σ.1 28 ((3 * e1) + 1)) = 0 then (1 : Int32) else (if (σ.1 28 ((3 * e1) + 2)) = 0 then (2 : Int32) else (-1 : Int32))))
set_option maxHeartbeats 4000000 in
set_option maxRecDepth 100000 in
theorem c_M_freeChannel (l : Launch) (D : va_G) (α : Nat → Nat) (κ : Nat → ClassId) (hα : xb_inj α 35) (σ : xb_St) (x_e1 : Int32) (e1 : Nat) (e_e1 : x_e1 = nI e1) (b_e1 : e1 < 2) : Met l y_M_freeChannel w_M_freeChannel ({ frames := 0, cells := 0, slots := 0, locals := 0 }) (va_Pc ([.ref (α 0), .int x_e1]) (sm_Pre D α κ σ)) (va_Qi (fun r (u : xb_St) => r = q_free e1 σ ∧ u = σ) (sm_B D α κ) (xb_A α 35)) 0 0 (xb_A α 35) := by
  subst e_e1
  refine Met.ofW (cc := b_M_freeChannel) (maxL := 3) (ret := (some .int)) (by decide) rfl ?_
  intro p e s m args below meth c s₁ B_ hml hv
  obtain ⟨rfl, hP, hK, hN⟩ := hv
  have hx := B_.exec
  have hb := B_.bytes
  have hr := B_.returns
  have hts := atoms_spec (ws := w_M_freeChannel) B_.pre
  have ht : ∀ w ∈ xa, w.before _ s = true := fun w h => hts w (List.mem_cons_of_mem _ h)
  have hown : s.vm.findClass "SecurePairModel" = some m.cls := findClass_of_methodNamed B_.named
  have hlocks := B_.notSynchronized
  have hD := sm_D hα κ
  have hS : va_S (xb_A α 35) s.heap s.heap [] := va_S.rf
  have hl := lv_entry ([.ref (α 0), .int (nI e1)]) (n := 3) (Nat.le_of_ble_eq_true rfl)
  rw [lg_entry_eq]
  generalize (lg_sl ([.ref (α 0), .int (nI e1)]) ++ List.replicate (3 - (lg_sl ([.ref (α 0), .int (nI e1)])).length) Slot.unset).toArray = ls at hl ⊢
  have hl : lv_has ls 3 [(0, .ref (α 0)), (1, .int (nI e1))] := hl
  refine lv_iconst (v := 0) hx hb d_M_freeChannel_0 (by decide) ?_
  refine lv_istore_n (lv' := [(2, .int (0 : Int32)), (0, .ref (α 0)), (1, .int (nI e1))]) hx hb d_M_freeChannel_1 rfl hl (by decide) rfl (fun ls hl => ?_)
  refine lv_iload_n hx hb d_M_freeChannel_2 rfl (lv_at hl 0 rfl) ?_
  refine lv_iconst (v := 3) hx hb d_M_freeChannel_3 (by decide) ?_
  refine lv_icmp_ge (tgt := 28) hx hb d_M_freeChannel_4 (by decide) (fun h_ => absurd h_ (by decide)) (fun _ => ?_)
  refine lv_aload_n hx hb d_M_freeChannel_7 rfl (lv_at hl 1 rfl) ?_
  refine sm_g (v := .ref (α 28)) hx hb ht hown hK hP 30 (by decide) (ht _ xw982) (fun _ h_ => h_) rfl d_M_freeChannel_8 ?_
  refine lv_iconst (v := 3) hx hb d_M_freeChannel_11 (by decide) ?_
  refine lv_iload_n hx hb d_M_freeChannel_12 rfl (lv_at hl 2 rfl) ?_
  refine lv_imul hx hb d_M_freeChannel_13 ?_
  refine lv_iload_n hx hb d_M_freeChannel_14 rfl (lv_at hl 0 rfl) ?_
  refine lv_iadd hx hb d_M_freeChannel_15 ?_
  refine sm_gaI (L := 6) (n := ((3 * e1) + 0)) (v := (σ.1 28 ((3 * e1) + 0))) hx hb hK hP 28 27 rfl rfl (xb_in (xb_na (xb_nm (xb_lit (x := (3 : Int32)) 3 rfl) (xb_lit e1 rfl)) (xb_lit (x := (0 : Int32)) 0 rfl)) (by omega) (by decide)) (xb_cl (xb_na (xb_nm (xb_lit (x := (3 : Int32)) 3 rfl) (xb_lit e1 rfl)) (xb_lit (x := (0 : Int32)) 0 rfl)) (by omega)) rfl d_M_freeChannel_16 ?_
  refine lv_if_ne (tgt := 22) hx hb d_M_freeChannel_17 (by decide) (fun c1 => ?_) (fun c1 => ?_)
  · skip
    refine lv_iinc (v := (1 : Int32)) (k := 0) (lv' := [(2, .int (1 : Int32)), (0, .ref (α 0)), (1, .int (nI e1))]) hx hb d_M_freeChannel_22 hl rfl (by decide) (by decide) rfl (fun ls hl => ?_)
    refine lv_goto (tgt := 2) hx hb d_M_freeChannel_25 (by decide) ?_
    refine lv_iload_n hx hb d_M_freeChannel_2 rfl (lv_at hl 0 rfl) ?_
    refine lv_iconst (v := 3) hx hb d_M_freeChannel_3 (by decide) ?_
    refine lv_icmp_ge (tgt := 28) hx hb d_M_freeChannel_4 (by decide) (fun h_ => absurd h_ (by decide)) (fun _ => ?_)
    refine lv_aload_n hx hb d_M_freeChannel_7 rfl (lv_at hl 1 rfl) ?_
    refine sm_g (v := .ref (α 28)) hx hb ht hown hK hP 30 (by decide) (ht _ xw982) (fun _ h_ => h_) rfl d_M_freeChannel_8 ?_
    refine lv_iconst (v := 3) hx hb d_M_freeChannel_11 (by decide) ?_
    refine lv_iload_n hx hb d_M_freeChannel_12 rfl (lv_at hl 2 rfl) ?_
    refine lv_imul hx hb d_M_freeChannel_13 ?_
    refine lv_iload_n hx hb d_M_freeChannel_14 rfl (lv_at hl 0 rfl) ?_
    refine lv_iadd hx hb d_M_freeChannel_15 ?_
    refine sm_gaI (L := 6) (n := ((3 * e1) + 1)) (v := (σ.1 28 ((3 * e1) + 1))) hx hb hK hP 28 27 rfl rfl (xb_in (xb_na (xb_nm (xb_lit (x := (3 : Int32)) 3 rfl) (xb_lit e1 rfl)) (xb_lit (x := (1 : Int32)) 1 rfl)) (by omega) (by decide)) (xb_cl (xb_na (xb_nm (xb_lit (x := (3 : Int32)) 3 rfl) (xb_lit e1 rfl)) (xb_lit (x := (1 : Int32)) 1 rfl)) (by omega)) rfl d_M_freeChannel_16 ?_
    refine lv_if_ne (tgt := 22) hx hb d_M_freeChannel_17 (by decide) (fun c2 => ?_) (fun c2 => ?_)
    · skip
      refine lv_iinc (v := (2 : Int32)) (k := 0) (lv' := [(2, .int (2 : Int32)), (0, .ref (α 0)), (1, .int (nI e1))]) hx hb d_M_freeChannel_22 hl rfl (by decide) (by decide) rfl (fun ls hl => ?_)
      refine lv_goto (tgt := 2) hx hb d_M_freeChannel_25 (by decide) ?_
      refine lv_iload_n hx hb d_M_freeChannel_2 rfl (lv_at hl 0 rfl) ?_
      refine lv_iconst (v := 3) hx hb d_M_freeChannel_3 (by decide) ?_
      refine lv_icmp_ge (tgt := 28) hx hb d_M_freeChannel_4 (by decide) (fun h_ => absurd h_ (by decide)) (fun _ => ?_)
      refine lv_aload_n hx hb d_M_freeChannel_7 rfl (lv_at hl 1 rfl) ?_
      refine sm_g (v := .ref (α 28)) hx hb ht hown hK hP 30 (by decide) (ht _ xw982) (fun _ h_ => h_) rfl d_M_freeChannel_8 ?_
      refine lv_iconst (v := 3) hx hb d_M_freeChannel_11 (by decide) ?_
      refine lv_iload_n hx hb d_M_freeChannel_12 rfl (lv_at hl 2 rfl) ?_
      refine lv_imul hx hb d_M_freeChannel_13 ?_
      refine lv_iload_n hx hb d_M_freeChannel_14 rfl (lv_at hl 0 rfl) ?_
      refine lv_iadd hx hb d_M_freeChannel_15 ?_
      refine sm_gaI (L := 6) (n := ((3 * e1) + 2)) (v := (σ.1 28 ((3 * e1) + 2))) hx hb hK hP 28 27 rfl rfl (xb_in (xb_na (xb_nm (xb_lit (x := (3 : Int32)) 3 rfl) (xb_lit e1 rfl)) (xb_lit (x := (2 : Int32)) 2 rfl)) (by omega) (by decide)) (xb_cl (xb_na (xb_nm (xb_lit (x := (3 : Int32)) 3 rfl) (xb_lit e1 rfl)) (xb_lit (x := (2 : Int32)) 2 rfl)) (by omega)) rfl d_M_freeChannel_16 ?_
      refine lv_if_ne (tgt := 22) hx hb d_M_freeChannel_17 (by decide) (fun c3 => ?_) (fun c3 => ?_)
      · skip
        refine lv_iinc (v := (3 : Int32)) (k := 0) (lv' := [(2, .int (3 : Int32)), (0, .ref (α 0)), (1, .int (nI e1))]) hx hb d_M_freeChannel_22 hl rfl (by decide) (by decide) rfl (fun ls hl => ?_)
        refine lv_goto (tgt := 2) hx hb d_M_freeChannel_25 (by decide) ?_
        refine lv_iload_n hx hb d_M_freeChannel_2 rfl (lv_at hl 0 rfl) ?_
        refine lv_iconst (v := 3) hx hb d_M_freeChannel_3 (by decide) ?_
        refine lv_icmp_ge (tgt := 28) hx hb d_M_freeChannel_4 (by decide) (fun _ => ?_) (fun h_ => absurd h_ (by decide))
        refine lv_iconst (v := -1) hx hb d_M_freeChannel_28 (by decide) ?_
        exact W.iret (v := (-1 : Int32)) hx hb hr (fun t ht_ hW => ⟨⟨(-1 : Int32), σ, rfl, ⟨((if_neg c1).trans ((if_neg c2).trans ((if_neg c3)))).symm, rfl⟩, by rw [sm_B, ht_]; exact hP⟩, hS.F ht_⟩) hS.2.2 d_M_freeChannel_29
      · skip
        refine lv_iload_n hx hb d_M_freeChannel_20 rfl (lv_at hl 0 rfl) ?_
        exact W.iret (v := (2 : Int32)) hx hb hr (fun t ht_ hW => ⟨⟨(2 : Int32), σ, rfl, ⟨((if_neg c1).trans ((if_neg c2).trans ((if_pos c3)))).symm, rfl⟩, by rw [sm_B, ht_]; exact hP⟩, hS.F ht_⟩) hS.2.2 d_M_freeChannel_21
    · skip
      refine lv_iload_n hx hb d_M_freeChannel_20 rfl (lv_at hl 0 rfl) ?_
      exact W.iret (v := (1 : Int32)) hx hb hr (fun t ht_ hW => ⟨⟨(1 : Int32), σ, rfl, ⟨((if_neg c1).trans ((if_pos c2))).symm, rfl⟩, by rw [sm_B, ht_]; exact hP⟩, hS.F ht_⟩) hS.2.2 d_M_freeChannel_21
  · skip
    refine lv_iload_n hx hb d_M_freeChannel_20 rfl (lv_at hl 0 rfl) ?_
    exact W.iret (v := (0 : Int32)) hx hb hr (fun t ht_ hW => ⟨⟨(0 : Int32), σ, rfl, ⟨((if_pos c1)).symm, rfl⟩, by rw [sm_B, ht_]; exact hP⟩, hS.F ht_⟩) hS.2.2 d_M_freeChannel_21
abbrev b_M_hashOf : ByteArray := prog_12_method_21_code
def y_M_hashOf : MethodName := ⟨"SecurePairModel", "hashOf", "(IJJJ)J"⟩
abbrev w_M_hashOf : List Cond := .code y_M_hashOf b_M_hashOf 11 (some .long) :: xa
theorem d_M_hashOf_0 : decode b_M_hashOf 0 = .ok (.lconst 0, 1) := by decide +kernel
theorem d_M_hashOf_1 : decode b_M_hashOf 1 = .ok (.lstore 8, 2) := by decide +kernel
theorem d_M_hashOf_3 : decode b_M_hashOf 3 = .ok (.iconst 0, 1) := by decide +kernel
theorem d_M_hashOf_4 : decode b_M_hashOf 4 = .ok (.istore 10, 2) := by decide +kernel
theorem d_M_hashOf_6 : decode b_M_hashOf 6 = .ok (.iload 10, 2) := by decide +kernel
theorem d_M_hashOf_8 : decode b_M_hashOf 8 = .ok (.bipush 6, 2) := by decide +kernel
theorem d_M_hashOf_10 : decode b_M_hashOf 10 = .ok (.if_icmp .ge 28, 3) := by decide +kernel
theorem d_M_hashOf_13 : decode b_M_hashOf 13 = .ok (.lload 8, 2) := by decide +kernel
theorem d_M_hashOf_15 : decode b_M_hashOf 15 = .ok (.aload_n 0, 1) := by decide +kernel
theorem d_M_hashOf_16 : decode b_M_hashOf 16 = .ok (.getfield 51, 3) := by decide +kernel
theorem d_M_hashOf_19 : decode b_M_hashOf 19 = .ok (.bipush 6, 2) := by decide +kernel
theorem d_M_hashOf_21 : decode b_M_hashOf 21 = .ok (.iload_n 1, 1) := by decide +kernel
theorem d_M_hashOf_22 : decode b_M_hashOf 22 = .ok (.imul, 1) := by decide +kernel
theorem d_M_hashOf_23 : decode b_M_hashOf 23 = .ok (.iload 10, 2) := by decide +kernel
theorem d_M_hashOf_25 : decode b_M_hashOf 25 = .ok (.iadd, 1) := by decide +kernel
theorem d_M_hashOf_26 : decode b_M_hashOf 26 = .ok (.laload, 1) := by decide +kernel
theorem d_M_hashOf_27 : decode b_M_hashOf 27 = .ok (.invokestatic 142, 3) := by decide +kernel
theorem d_M_hashOf_30 : decode b_M_hashOf 30 = .ok (.lstore 8, 2) := by decide +kernel
theorem d_M_hashOf_32 : decode b_M_hashOf 32 = .ok (.iinc 10 1, 3) := by decide +kernel
theorem d_M_hashOf_35 : decode b_M_hashOf 35 = .ok (.goto (-29), 3) := by decide +kernel
theorem d_M_hashOf_38 : decode b_M_hashOf 38 = .ok (.lload 8, 2) := by decide +kernel
theorem d_M_hashOf_40 : decode b_M_hashOf 40 = .ok (.lload_n 2, 1) := by decide +kernel
theorem d_M_hashOf_41 : decode b_M_hashOf 41 = .ok (.invokestatic 142, 3) := by decide +kernel
theorem d_M_hashOf_44 : decode b_M_hashOf 44 = .ok (.aload_n 0, 1) := by decide +kernel
theorem d_M_hashOf_45 : decode b_M_hashOf 45 = .ok (.getfield 57, 3) := by decide +kernel
theorem d_M_hashOf_48 : decode b_M_hashOf 48 = .ok (.iload_n 1, 1) := by decide +kernel
theorem d_M_hashOf_49 : decode b_M_hashOf 49 = .ok (.laload, 1) := by decide +kernel
theorem d_M_hashOf_50 : decode b_M_hashOf 50 = .ok (.invokestatic 142, 3) := by decide +kernel
theorem d_M_hashOf_53 : decode b_M_hashOf 53 = .ok (.lload 4, 2) := by decide +kernel
theorem d_M_hashOf_55 : decode b_M_hashOf 55 = .ok (.invokestatic 142, 3) := by decide +kernel
theorem d_M_hashOf_58 : decode b_M_hashOf 58 = .ok (.lload 6, 2) := by decide +kernel
theorem d_M_hashOf_60 : decode b_M_hashOf 60 = .ok (.invokestatic 142, 3) := by decide +kernel
theorem d_M_hashOf_63 : decode b_M_hashOf 63 = .ok (.lreturn, 1) := by decide +kernel
theorem xw966 : (Cond.fieldLink "SecurePairModel" (51 : Nat) "SecurePairModel" "offered" "[J") ∈ xa := xa_t 966 (by decide +kernel) (by decide +kernel)
theorem xw968 : (Cond.fieldLink "SecurePairModel" (57 : Nat) "SecurePairModel" "clientShare" "[J") ∈ xa := xa_t 968 (by decide +kernel) (by decide +kernel)
def q_hash (e1 : Nat) (x2 : Int64) (x3 : Int64) (x4 : Int64) (σ : xb_St) : Int64 := (g_mix (g_mix (g_mix (g_mix (g_mix (g_mix (g_mix (g_mix (g_mix (g_mix (0 : Int64) (σ.2 12 ((6 * e1) + 0))) (σ.2 12 ((6 * e1) + 1))) (σ.2 12 ((6 * e1) + 2))) (σ.2 12 ((6 * e1) + 3))) (σ.2 12 ((6 * e1) + 4))) (σ.2 12 ((6 * e1) + 5))) x2) (σ.2 14 e1)) x3) x4)
set_option maxHeartbeats 4000000 in
set_option maxRecDepth 100000 in
theorem c_M_hashOf (l : Launch) (D : va_G) (α : Nat → Nat) (κ : Nat → ClassId) (hα : xb_inj α 35) (σ : xb_St) (x_e1 : Int32) (e1 : Nat) (e_e1 : x_e1 = nI e1) (b_e1 : e1 < 2) (x2 : Int64) (x3 : Int64) (x4 : Int64) : Met l y_M_hashOf w_M_hashOf ({ frames := 1, cells := 0, slots := 0, locals := 25 }) (va_Pc ([.ref (α 0), .int x_e1, .long x2, .long x3, .long x4]) (sm_Pre D α κ σ)) (va_Ql (fun r (u : xb_St) => r = q_hash e1 x2 x3 x4 σ ∧ u = σ) (sm_B D α κ) (xb_A α 35)) 0 0 (xb_A α 35) := by
  subst e_e1
  refine Met.ofW (cc := b_M_hashOf) (maxL := 11) (ret := (some .long)) (by decide) rfl ?_
  intro p e s m args below meth c s₁ B_ hml hv
  obtain ⟨rfl, hP, hK, hN⟩ := hv
  have hx := B_.exec
  have hb := B_.bytes
  have hr := B_.returns
  have hts := atoms_spec (ws := w_M_hashOf) B_.pre
  have ht : ∀ w ∈ xa, w.before _ s = true := fun w h => hts w (List.mem_cons_of_mem _ h)
  have hown : s.vm.findClass "SecurePairModel" = some m.cls := findClass_of_methodNamed B_.named
  have hlocks := B_.notSynchronized
  have hD := sm_D hα κ
  have hS : va_S (xb_A α 35) s.heap s.heap [] := va_S.rf
  have hl := lv_entry ([.ref (α 0), .int (nI e1), .long x2, .long x3, .long x4]) (n := 11) (Nat.le_of_ble_eq_true rfl)
  rw [lg_entry_eq]
  generalize (lg_sl ([.ref (α 0), .int (nI e1), .long x2, .long x3, .long x4]) ++ List.replicate (11 - (lg_sl ([.ref (α 0), .int (nI e1), .long x2, .long x3, .long x4])).length) Slot.unset).toArray = ls at hl ⊢
  have hl : lv_has ls 11 [(0, .ref (α 0)), (1, .int (nI e1)), (2, .long x2), (4, .long x3), (6, .long x4)] := hl
  refine lv_lconst (v := 0) hx hb d_M_hashOf_0 (by decide) ?_
  refine lv_lstore (lv' := [(8, .long (0 : Int64)), (0, .ref (α 0)), (1, .int (nI e1)), (2, .long x2), (4, .long x3), (6, .long x4)]) hx hb d_M_hashOf_1 hl (by decide) rfl (fun ls hl => ?_)
  refine lv_iconst (v := 0) hx hb d_M_hashOf_3 (by decide) ?_
  refine lv_istore (lv' := [(10, .int (0 : Int32)), (8, .long (0 : Int64)), (0, .ref (α 0)), (1, .int (nI e1)), (2, .long x2), (4, .long x3), (6, .long x4)]) hx hb d_M_hashOf_4 hl (by decide) rfl (fun ls hl => ?_)
  refine lv_iload hx hb d_M_hashOf_6 (lv_at hl 0 rfl) ?_
  refine lv_bipush (v := 6) hx hb d_M_hashOf_8 (by decide) ?_
  refine lv_icmp_ge (tgt := 38) hx hb d_M_hashOf_10 (by decide) (fun h_ => absurd h_ (by decide)) (fun _ => ?_)
  refine lv_lload hx hb d_M_hashOf_13 (lv_at hl 1 rfl) ?_
  refine lv_aload_n hx hb d_M_hashOf_15 rfl (lv_at hl 2 rfl) ?_
  refine sm_g (v := .ref (α 12)) hx hb ht hown hK hP 14 (by decide) (ht _ xw966) (fun _ h_ => h_) rfl d_M_hashOf_16 ?_
  refine lv_bipush (v := 6) hx hb d_M_hashOf_19 (by decide) ?_
  refine lv_iload_n hx hb d_M_hashOf_21 rfl (lv_at hl 3 rfl) ?_
  refine lv_imul hx hb d_M_hashOf_22 ?_
  refine lv_iload hx hb d_M_hashOf_23 (lv_at hl 0 rfl) ?_
  refine lv_iadd hx hb d_M_hashOf_25 ?_
  refine sm_gaJ (L := 12) (n := ((6 * e1) + 0)) (v := (σ.2 12 ((6 * e1) + 0))) hx hb hK hP 12 11 rfl rfl (xb_in (xb_na (xb_nm (xb_lit (x := (6 : Int32)) 6 rfl) (xb_lit e1 rfl)) (xb_lit (x := (0 : Int32)) 0 rfl)) (by omega) (by decide)) (xb_cl (xb_na (xb_nm (xb_lit (x := (6 : Int32)) 6 rfl) (xb_lit e1 rfl)) (xb_lit (x := (0 : Int32)) 0 rfl)) (by omega)) rfl d_M_hashOf_26 ?_
  refine vp_callSl (W.runS (As := [.long (0 : Int64), .long (σ.2 12 ((6 * e1) + 0))]) (rest := []) ⟨hx, hb, hml, hown, hts⟩ (c_M_mix l (0 : Int64) (σ.2 12 ((6 * e1) + 0))) (cwS 2 hts (xa_S xw1091 xw1092 xw11 xw1093) rfl rfl rfl (by decide +kernel) ⟨Nat.le_of_ble_eq_true rfl, Nat.le_of_ble_eq_true rfl⟩) preEq rfl rfl hl.1 rfl (lv_room (Nat.le_of_ble_eq_true rfl)) d_M_hashOf_27 ⟨Nat.le_of_ble_eq_true rfl, Nat.le_of_ble_eq_true rfl⟩) (fun r_ e_ => ?_)
  subst e_
  refine lv_lstore (lv' := [(8, .long (g_mix (0 : Int64) (σ.2 12 ((6 * e1) + 0)))), (10, .int (0 : Int32)), (0, .ref (α 0)), (1, .int (nI e1)), (2, .long x2), (4, .long x3), (6, .long x4)]) hx hb d_M_hashOf_30 hl (by decide) rfl (fun ls hl => ?_)
  refine lv_iinc (v := (1 : Int32)) (k := 1) (lv' := [(10, .int (1 : Int32)), (8, .long (g_mix (0 : Int64) (σ.2 12 ((6 * e1) + 0)))), (0, .ref (α 0)), (1, .int (nI e1)), (2, .long x2), (4, .long x3), (6, .long x4)]) hx hb d_M_hashOf_32 hl rfl (by decide) (by decide) rfl (fun ls hl => ?_)
  refine lv_goto (tgt := 6) hx hb d_M_hashOf_35 (by decide) ?_
  refine lv_iload hx hb d_M_hashOf_6 (lv_at hl 0 rfl) ?_
  refine lv_bipush (v := 6) hx hb d_M_hashOf_8 (by decide) ?_
  refine lv_icmp_ge (tgt := 38) hx hb d_M_hashOf_10 (by decide) (fun h_ => absurd h_ (by decide)) (fun _ => ?_)
  refine lv_lload hx hb d_M_hashOf_13 (lv_at hl 1 rfl) ?_
  refine lv_aload_n hx hb d_M_hashOf_15 rfl (lv_at hl 2 rfl) ?_
  refine sm_g (v := .ref (α 12)) hx hb ht hown hK hP 14 (by decide) (ht _ xw966) (fun _ h_ => h_) rfl d_M_hashOf_16 ?_
  refine lv_bipush (v := 6) hx hb d_M_hashOf_19 (by decide) ?_
  refine lv_iload_n hx hb d_M_hashOf_21 rfl (lv_at hl 3 rfl) ?_
  refine lv_imul hx hb d_M_hashOf_22 ?_
  refine lv_iload hx hb d_M_hashOf_23 (lv_at hl 0 rfl) ?_
  refine lv_iadd hx hb d_M_hashOf_25 ?_
  refine sm_gaJ (L := 12) (n := ((6 * e1) + 1)) (v := (σ.2 12 ((6 * e1) + 1))) hx hb hK hP 12 11 rfl rfl (xb_in (xb_na (xb_nm (xb_lit (x := (6 : Int32)) 6 rfl) (xb_lit e1 rfl)) (xb_lit (x := (1 : Int32)) 1 rfl)) (by omega) (by decide)) (xb_cl (xb_na (xb_nm (xb_lit (x := (6 : Int32)) 6 rfl) (xb_lit e1 rfl)) (xb_lit (x := (1 : Int32)) 1 rfl)) (by omega)) rfl d_M_hashOf_26 ?_
  refine vp_callSl (W.runS (As := [.long (g_mix (0 : Int64) (σ.2 12 ((6 * e1) + 0))), .long (σ.2 12 ((6 * e1) + 1))]) (rest := []) ⟨hx, hb, hml, hown, hts⟩ (c_M_mix l (g_mix (0 : Int64) (σ.2 12 ((6 * e1) + 0))) (σ.2 12 ((6 * e1) + 1))) (cwS 2 hts (xa_S xw1091 xw1092 xw11 xw1093) rfl rfl rfl (by decide +kernel) ⟨Nat.le_of_ble_eq_true rfl, Nat.le_of_ble_eq_true rfl⟩) preEq rfl rfl hl.1 rfl (lv_room (Nat.le_of_ble_eq_true rfl)) d_M_hashOf_27 ⟨Nat.le_of_ble_eq_true rfl, Nat.le_of_ble_eq_true rfl⟩) (fun r_ e_ => ?_)
  subst e_
  refine lv_lstore (lv' := [(8, .long (g_mix (g_mix (0 : Int64) (σ.2 12 ((6 * e1) + 0))) (σ.2 12 ((6 * e1) + 1)))), (10, .int (1 : Int32)), (0, .ref (α 0)), (1, .int (nI e1)), (2, .long x2), (4, .long x3), (6, .long x4)]) hx hb d_M_hashOf_30 hl (by decide) rfl (fun ls hl => ?_)
  refine lv_iinc (v := (2 : Int32)) (k := 1) (lv' := [(10, .int (2 : Int32)), (8, .long (g_mix (g_mix (0 : Int64) (σ.2 12 ((6 * e1) + 0))) (σ.2 12 ((6 * e1) + 1)))), (0, .ref (α 0)), (1, .int (nI e1)), (2, .long x2), (4, .long x3), (6, .long x4)]) hx hb d_M_hashOf_32 hl rfl (by decide) (by decide) rfl (fun ls hl => ?_)
  refine lv_goto (tgt := 6) hx hb d_M_hashOf_35 (by decide) ?_
  refine lv_iload hx hb d_M_hashOf_6 (lv_at hl 0 rfl) ?_
  refine lv_bipush (v := 6) hx hb d_M_hashOf_8 (by decide) ?_
  refine lv_icmp_ge (tgt := 38) hx hb d_M_hashOf_10 (by decide) (fun h_ => absurd h_ (by decide)) (fun _ => ?_)
  refine lv_lload hx hb d_M_hashOf_13 (lv_at hl 1 rfl) ?_
  refine lv_aload_n hx hb d_M_hashOf_15 rfl (lv_at hl 2 rfl) ?_
  refine sm_g (v := .ref (α 12)) hx hb ht hown hK hP 14 (by decide) (ht _ xw966) (fun _ h_ => h_) rfl d_M_hashOf_16 ?_
  refine lv_bipush (v := 6) hx hb d_M_hashOf_19 (by decide) ?_
  refine lv_iload_n hx hb d_M_hashOf_21 rfl (lv_at hl 3 rfl) ?_
  refine lv_imul hx hb d_M_hashOf_22 ?_
  refine lv_iload hx hb d_M_hashOf_23 (lv_at hl 0 rfl) ?_
  refine lv_iadd hx hb d_M_hashOf_25 ?_
  refine sm_gaJ (L := 12) (n := ((6 * e1) + 2)) (v := (σ.2 12 ((6 * e1) + 2))) hx hb hK hP 12 11 rfl rfl (xb_in (xb_na (xb_nm (xb_lit (x := (6 : Int32)) 6 rfl) (xb_lit e1 rfl)) (xb_lit (x := (2 : Int32)) 2 rfl)) (by omega) (by decide)) (xb_cl (xb_na (xb_nm (xb_lit (x := (6 : Int32)) 6 rfl) (xb_lit e1 rfl)) (xb_lit (x := (2 : Int32)) 2 rfl)) (by omega)) rfl d_M_hashOf_26 ?_
  refine vp_callSl (W.runS (As := [.long (g_mix (g_mix (0 : Int64) (σ.2 12 ((6 * e1) + 0))) (σ.2 12 ((6 * e1) + 1))), .long (σ.2 12 ((6 * e1) + 2))]) (rest := []) ⟨hx, hb, hml, hown, hts⟩ (c_M_mix l (g_mix (g_mix (0 : Int64) (σ.2 12 ((6 * e1) + 0))) (σ.2 12 ((6 * e1) + 1))) (σ.2 12 ((6 * e1) + 2))) (cwS 2 hts (xa_S xw1091 xw1092 xw11 xw1093) rfl rfl rfl (by decide +kernel) ⟨Nat.le_of_ble_eq_true rfl, Nat.le_of_ble_eq_true rfl⟩) preEq rfl rfl hl.1 rfl (lv_room (Nat.le_of_ble_eq_true rfl)) d_M_hashOf_27 ⟨Nat.le_of_ble_eq_true rfl, Nat.le_of_ble_eq_true rfl⟩) (fun r_ e_ => ?_)
  subst e_
  refine lv_lstore (lv' := [(8, .long (g_mix (g_mix (g_mix (0 : Int64) (σ.2 12 ((6 * e1) + 0))) (σ.2 12 ((6 * e1) + 1))) (σ.2 12 ((6 * e1) + 2)))), (10, .int (2 : Int32)), (0, .ref (α 0)), (1, .int (nI e1)), (2, .long x2), (4, .long x3), (6, .long x4)]) hx hb d_M_hashOf_30 hl (by decide) rfl (fun ls hl => ?_)
  refine lv_iinc (v := (3 : Int32)) (k := 1) (lv' := [(10, .int (3 : Int32)), (8, .long (g_mix (g_mix (g_mix (0 : Int64) (σ.2 12 ((6 * e1) + 0))) (σ.2 12 ((6 * e1) + 1))) (σ.2 12 ((6 * e1) + 2)))), (0, .ref (α 0)), (1, .int (nI e1)), (2, .long x2), (4, .long x3), (6, .long x4)]) hx hb d_M_hashOf_32 hl rfl (by decide) (by decide) rfl (fun ls hl => ?_)
  refine lv_goto (tgt := 6) hx hb d_M_hashOf_35 (by decide) ?_
  refine lv_iload hx hb d_M_hashOf_6 (lv_at hl 0 rfl) ?_
  refine lv_bipush (v := 6) hx hb d_M_hashOf_8 (by decide) ?_
  refine lv_icmp_ge (tgt := 38) hx hb d_M_hashOf_10 (by decide) (fun h_ => absurd h_ (by decide)) (fun _ => ?_)
  refine lv_lload hx hb d_M_hashOf_13 (lv_at hl 1 rfl) ?_
  refine lv_aload_n hx hb d_M_hashOf_15 rfl (lv_at hl 2 rfl) ?_
  refine sm_g (v := .ref (α 12)) hx hb ht hown hK hP 14 (by decide) (ht _ xw966) (fun _ h_ => h_) rfl d_M_hashOf_16 ?_
  refine lv_bipush (v := 6) hx hb d_M_hashOf_19 (by decide) ?_
  refine lv_iload_n hx hb d_M_hashOf_21 rfl (lv_at hl 3 rfl) ?_
  refine lv_imul hx hb d_M_hashOf_22 ?_
  refine lv_iload hx hb d_M_hashOf_23 (lv_at hl 0 rfl) ?_
  refine lv_iadd hx hb d_M_hashOf_25 ?_
  refine sm_gaJ (L := 12) (n := ((6 * e1) + 3)) (v := (σ.2 12 ((6 * e1) + 3))) hx hb hK hP 12 11 rfl rfl (xb_in (xb_na (xb_nm (xb_lit (x := (6 : Int32)) 6 rfl) (xb_lit e1 rfl)) (xb_lit (x := (3 : Int32)) 3 rfl)) (by omega) (by decide)) (xb_cl (xb_na (xb_nm (xb_lit (x := (6 : Int32)) 6 rfl) (xb_lit e1 rfl)) (xb_lit (x := (3 : Int32)) 3 rfl)) (by omega)) rfl d_M_hashOf_26 ?_
  refine vp_callSl (W.runS (As := [.long (g_mix (g_mix (g_mix (0 : Int64) (σ.2 12 ((6 * e1) + 0))) (σ.2 12 ((6 * e1) + 1))) (σ.2 12 ((6 * e1) + 2))), .long (σ.2 12 ((6 * e1) + 3))]) (rest := []) ⟨hx, hb, hml, hown, hts⟩ (c_M_mix l (g_mix (g_mix (g_mix (0 : Int64) (σ.2 12 ((6 * e1) + 0))) (σ.2 12 ((6 * e1) + 1))) (σ.2 12 ((6 * e1) + 2))) (σ.2 12 ((6 * e1) + 3))) (cwS 2 hts (xa_S xw1091 xw1092 xw11 xw1093) rfl rfl rfl (by decide +kernel) ⟨Nat.le_of_ble_eq_true rfl, Nat.le_of_ble_eq_true rfl⟩) preEq rfl rfl hl.1 rfl (lv_room (Nat.le_of_ble_eq_true rfl)) d_M_hashOf_27 ⟨Nat.le_of_ble_eq_true rfl, Nat.le_of_ble_eq_true rfl⟩) (fun r_ e_ => ?_)
  subst e_
  refine lv_lstore (lv' := [(8, .long (g_mix (g_mix (g_mix (g_mix (0 : Int64) (σ.2 12 ((6 * e1) + 0))) (σ.2 12 ((6 * e1) + 1))) (σ.2 12 ((6 * e1) + 2))) (σ.2 12 ((6 * e1) + 3)))), (10, .int (3 : Int32)), (0, .ref (α 0)), (1, .int (nI e1)), (2, .long x2), (4, .long x3), (6, .long x4)]) hx hb d_M_hashOf_30 hl (by decide) rfl (fun ls hl => ?_)
  refine lv_iinc (v := (4 : Int32)) (k := 1) (lv' := [(10, .int (4 : Int32)), (8, .long (g_mix (g_mix (g_mix (g_mix (0 : Int64) (σ.2 12 ((6 * e1) + 0))) (σ.2 12 ((6 * e1) + 1))) (σ.2 12 ((6 * e1) + 2))) (σ.2 12 ((6 * e1) + 3)))), (0, .ref (α 0)), (1, .int (nI e1)), (2, .long x2), (4, .long x3), (6, .long x4)]) hx hb d_M_hashOf_32 hl rfl (by decide) (by decide) rfl (fun ls hl => ?_)
  refine lv_goto (tgt := 6) hx hb d_M_hashOf_35 (by decide) ?_
  refine lv_iload hx hb d_M_hashOf_6 (lv_at hl 0 rfl) ?_
  refine lv_bipush (v := 6) hx hb d_M_hashOf_8 (by decide) ?_
  refine lv_icmp_ge (tgt := 38) hx hb d_M_hashOf_10 (by decide) (fun h_ => absurd h_ (by decide)) (fun _ => ?_)
  refine lv_lload hx hb d_M_hashOf_13 (lv_at hl 1 rfl) ?_
  refine lv_aload_n hx hb d_M_hashOf_15 rfl (lv_at hl 2 rfl) ?_
  refine sm_g (v := .ref (α 12)) hx hb ht hown hK hP 14 (by decide) (ht _ xw966) (fun _ h_ => h_) rfl d_M_hashOf_16 ?_
  refine lv_bipush (v := 6) hx hb d_M_hashOf_19 (by decide) ?_
  refine lv_iload_n hx hb d_M_hashOf_21 rfl (lv_at hl 3 rfl) ?_
  refine lv_imul hx hb d_M_hashOf_22 ?_
  refine lv_iload hx hb d_M_hashOf_23 (lv_at hl 0 rfl) ?_
  refine lv_iadd hx hb d_M_hashOf_25 ?_
  refine sm_gaJ (L := 12) (n := ((6 * e1) + 4)) (v := (σ.2 12 ((6 * e1) + 4))) hx hb hK hP 12 11 rfl rfl (xb_in (xb_na (xb_nm (xb_lit (x := (6 : Int32)) 6 rfl) (xb_lit e1 rfl)) (xb_lit (x := (4 : Int32)) 4 rfl)) (by omega) (by decide)) (xb_cl (xb_na (xb_nm (xb_lit (x := (6 : Int32)) 6 rfl) (xb_lit e1 rfl)) (xb_lit (x := (4 : Int32)) 4 rfl)) (by omega)) rfl d_M_hashOf_26 ?_
  refine vp_callSl (W.runS (As := [.long (g_mix (g_mix (g_mix (g_mix (0 : Int64) (σ.2 12 ((6 * e1) + 0))) (σ.2 12 ((6 * e1) + 1))) (σ.2 12 ((6 * e1) + 2))) (σ.2 12 ((6 * e1) + 3))), .long (σ.2 12 ((6 * e1) + 4))]) (rest := []) ⟨hx, hb, hml, hown, hts⟩ (c_M_mix l (g_mix (g_mix (g_mix (g_mix (0 : Int64) (σ.2 12 ((6 * e1) + 0))) (σ.2 12 ((6 * e1) + 1))) (σ.2 12 ((6 * e1) + 2))) (σ.2 12 ((6 * e1) + 3))) (σ.2 12 ((6 * e1) + 4))) (cwS 2 hts (xa_S xw1091 xw1092 xw11 xw1093) rfl rfl rfl (by decide +kernel) ⟨Nat.le_of_ble_eq_true rfl, Nat.le_of_ble_eq_true rfl⟩) preEq rfl rfl hl.1 rfl (lv_room (Nat.le_of_ble_eq_true rfl)) d_M_hashOf_27 ⟨Nat.le_of_ble_eq_true rfl, Nat.le_of_ble_eq_true rfl⟩) (fun r_ e_ => ?_)
  subst e_
  refine lv_lstore (lv' := [(8, .long (g_mix (g_mix (g_mix (g_mix (g_mix (0 : Int64) (σ.2 12 ((6 * e1) + 0))) (σ.2 12 ((6 * e1) + 1))) (σ.2 12 ((6 * e1) + 2))) (σ.2 12 ((6 * e1) + 3))) (σ.2 12 ((6 * e1) + 4)))), (10, .int (4 : Int32)), (0, .ref (α 0)), (1, .int (nI e1)), (2, .long x2), (4, .long x3), (6, .long x4)]) hx hb d_M_hashOf_30 hl (by decide) rfl (fun ls hl => ?_)
  refine lv_iinc (v := (5 : Int32)) (k := 1) (lv' := [(10, .int (5 : Int32)), (8, .long (g_mix (g_mix (g_mix (g_mix (g_mix (0 : Int64) (σ.2 12 ((6 * e1) + 0))) (σ.2 12 ((6 * e1) + 1))) (σ.2 12 ((6 * e1) + 2))) (σ.2 12 ((6 * e1) + 3))) (σ.2 12 ((6 * e1) + 4)))), (0, .ref (α 0)), (1, .int (nI e1)), (2, .long x2), (4, .long x3), (6, .long x4)]) hx hb d_M_hashOf_32 hl rfl (by decide) (by decide) rfl (fun ls hl => ?_)
  refine lv_goto (tgt := 6) hx hb d_M_hashOf_35 (by decide) ?_
  refine lv_iload hx hb d_M_hashOf_6 (lv_at hl 0 rfl) ?_
  refine lv_bipush (v := 6) hx hb d_M_hashOf_8 (by decide) ?_
  refine lv_icmp_ge (tgt := 38) hx hb d_M_hashOf_10 (by decide) (fun h_ => absurd h_ (by decide)) (fun _ => ?_)
  refine lv_lload hx hb d_M_hashOf_13 (lv_at hl 1 rfl) ?_
  refine lv_aload_n hx hb d_M_hashOf_15 rfl (lv_at hl 2 rfl) ?_
  refine sm_g (v := .ref (α 12)) hx hb ht hown hK hP 14 (by decide) (ht _ xw966) (fun _ h_ => h_) rfl d_M_hashOf_16 ?_
  refine lv_bipush (v := 6) hx hb d_M_hashOf_19 (by decide) ?_
  refine lv_iload_n hx hb d_M_hashOf_21 rfl (lv_at hl 3 rfl) ?_
  refine lv_imul hx hb d_M_hashOf_22 ?_
  refine lv_iload hx hb d_M_hashOf_23 (lv_at hl 0 rfl) ?_
  refine lv_iadd hx hb d_M_hashOf_25 ?_
  refine sm_gaJ (L := 12) (n := ((6 * e1) + 5)) (v := (σ.2 12 ((6 * e1) + 5))) hx hb hK hP 12 11 rfl rfl (xb_in (xb_na (xb_nm (xb_lit (x := (6 : Int32)) 6 rfl) (xb_lit e1 rfl)) (xb_lit (x := (5 : Int32)) 5 rfl)) (by omega) (by decide)) (xb_cl (xb_na (xb_nm (xb_lit (x := (6 : Int32)) 6 rfl) (xb_lit e1 rfl)) (xb_lit (x := (5 : Int32)) 5 rfl)) (by omega)) rfl d_M_hashOf_26 ?_
  refine vp_callSl (W.runS (As := [.long (g_mix (g_mix (g_mix (g_mix (g_mix (0 : Int64) (σ.2 12 ((6 * e1) + 0))) (σ.2 12 ((6 * e1) + 1))) (σ.2 12 ((6 * e1) + 2))) (σ.2 12 ((6 * e1) + 3))) (σ.2 12 ((6 * e1) + 4))), .long (σ.2 12 ((6 * e1) + 5))]) (rest := []) ⟨hx, hb, hml, hown, hts⟩ (c_M_mix l (g_mix (g_mix (g_mix (g_mix (g_mix (0 : Int64) (σ.2 12 ((6 * e1) + 0))) (σ.2 12 ((6 * e1) + 1))) (σ.2 12 ((6 * e1) + 2))) (σ.2 12 ((6 * e1) + 3))) (σ.2 12 ((6 * e1) + 4))) (σ.2 12 ((6 * e1) + 5))) (cwS 2 hts (xa_S xw1091 xw1092 xw11 xw1093) rfl rfl rfl (by decide +kernel) ⟨Nat.le_of_ble_eq_true rfl, Nat.le_of_ble_eq_true rfl⟩) preEq rfl rfl hl.1 rfl (lv_room (Nat.le_of_ble_eq_true rfl)) d_M_hashOf_27 ⟨Nat.le_of_ble_eq_true rfl, Nat.le_of_ble_eq_true rfl⟩) (fun r_ e_ => ?_)
  subst e_
  refine lv_lstore (lv' := [(8, .long (g_mix (g_mix (g_mix (g_mix (g_mix (g_mix (0 : Int64) (σ.2 12 ((6 * e1) + 0))) (σ.2 12 ((6 * e1) + 1))) (σ.2 12 ((6 * e1) + 2))) (σ.2 12 ((6 * e1) + 3))) (σ.2 12 ((6 * e1) + 4))) (σ.2 12 ((6 * e1) + 5)))), (10, .int (5 : Int32)), (0, .ref (α 0)), (1, .int (nI e1)), (2, .long x2), (4, .long x3), (6, .long x4)]) hx hb d_M_hashOf_30 hl (by decide) rfl (fun ls hl => ?_)
  refine lv_iinc (v := (6 : Int32)) (k := 1) (lv' := [(10, .int (6 : Int32)), (8, .long (g_mix (g_mix (g_mix (g_mix (g_mix (g_mix (0 : Int64) (σ.2 12 ((6 * e1) + 0))) (σ.2 12 ((6 * e1) + 1))) (σ.2 12 ((6 * e1) + 2))) (σ.2 12 ((6 * e1) + 3))) (σ.2 12 ((6 * e1) + 4))) (σ.2 12 ((6 * e1) + 5)))), (0, .ref (α 0)), (1, .int (nI e1)), (2, .long x2), (4, .long x3), (6, .long x4)]) hx hb d_M_hashOf_32 hl rfl (by decide) (by decide) rfl (fun ls hl => ?_)
  refine lv_goto (tgt := 6) hx hb d_M_hashOf_35 (by decide) ?_
  refine lv_iload hx hb d_M_hashOf_6 (lv_at hl 0 rfl) ?_
  refine lv_bipush (v := 6) hx hb d_M_hashOf_8 (by decide) ?_
  refine lv_icmp_ge (tgt := 38) hx hb d_M_hashOf_10 (by decide) (fun _ => ?_) (fun h_ => absurd h_ (by decide))
  refine lv_lload hx hb d_M_hashOf_38 (lv_at hl 1 rfl) ?_
  refine lv_lload_n hx hb d_M_hashOf_40 rfl (lv_at hl 4 rfl) ?_
  refine vp_callSl (W.runS (As := [.long (g_mix (g_mix (g_mix (g_mix (g_mix (g_mix (0 : Int64) (σ.2 12 ((6 * e1) + 0))) (σ.2 12 ((6 * e1) + 1))) (σ.2 12 ((6 * e1) + 2))) (σ.2 12 ((6 * e1) + 3))) (σ.2 12 ((6 * e1) + 4))) (σ.2 12 ((6 * e1) + 5))), .long x2]) (rest := []) ⟨hx, hb, hml, hown, hts⟩ (c_M_mix l (g_mix (g_mix (g_mix (g_mix (g_mix (g_mix (0 : Int64) (σ.2 12 ((6 * e1) + 0))) (σ.2 12 ((6 * e1) + 1))) (σ.2 12 ((6 * e1) + 2))) (σ.2 12 ((6 * e1) + 3))) (σ.2 12 ((6 * e1) + 4))) (σ.2 12 ((6 * e1) + 5))) x2) (cwS 2 hts (xa_S xw1091 xw1092 xw11 xw1093) rfl rfl rfl (by decide +kernel) ⟨Nat.le_of_ble_eq_true rfl, Nat.le_of_ble_eq_true rfl⟩) preEq rfl rfl hl.1 rfl (lv_room (Nat.le_of_ble_eq_true rfl)) d_M_hashOf_41 ⟨Nat.le_of_ble_eq_true rfl, Nat.le_of_ble_eq_true rfl⟩) (fun r_ e_ => ?_)
  subst e_
  refine lv_aload_n hx hb d_M_hashOf_44 rfl (lv_at hl 2 rfl) ?_
  refine sm_g (v := .ref (α 14)) hx hb ht hown hK hP 16 (by decide) (ht _ xw968) (fun _ h_ => h_) rfl d_M_hashOf_45 ?_
  refine lv_iload_n hx hb d_M_hashOf_48 rfl (lv_at hl 3 rfl) ?_
  refine sm_gaJ (L := 2) (n := e1) (v := (σ.2 14 e1)) hx hb hK hP 14 13 rfl rfl (xb_in (xb_lit e1 rfl) (by omega) (by decide)) (xb_cl (xb_lit e1 rfl) (by omega)) rfl d_M_hashOf_49 ?_
  refine vp_callSl (W.runS (As := [.long (g_mix (g_mix (g_mix (g_mix (g_mix (g_mix (g_mix (0 : Int64) (σ.2 12 ((6 * e1) + 0))) (σ.2 12 ((6 * e1) + 1))) (σ.2 12 ((6 * e1) + 2))) (σ.2 12 ((6 * e1) + 3))) (σ.2 12 ((6 * e1) + 4))) (σ.2 12 ((6 * e1) + 5))) x2), .long (σ.2 14 e1)]) (rest := []) ⟨hx, hb, hml, hown, hts⟩ (c_M_mix l (g_mix (g_mix (g_mix (g_mix (g_mix (g_mix (g_mix (0 : Int64) (σ.2 12 ((6 * e1) + 0))) (σ.2 12 ((6 * e1) + 1))) (σ.2 12 ((6 * e1) + 2))) (σ.2 12 ((6 * e1) + 3))) (σ.2 12 ((6 * e1) + 4))) (σ.2 12 ((6 * e1) + 5))) x2) (σ.2 14 e1)) (cwS 2 hts (xa_S xw1091 xw1092 xw11 xw1093) rfl rfl rfl (by decide +kernel) ⟨Nat.le_of_ble_eq_true rfl, Nat.le_of_ble_eq_true rfl⟩) preEq rfl rfl hl.1 rfl (lv_room (Nat.le_of_ble_eq_true rfl)) d_M_hashOf_50 ⟨Nat.le_of_ble_eq_true rfl, Nat.le_of_ble_eq_true rfl⟩) (fun r_ e_ => ?_)
  subst e_
  refine lv_lload hx hb d_M_hashOf_53 (lv_at hl 5 rfl) ?_
  refine vp_callSl (W.runS (As := [.long (g_mix (g_mix (g_mix (g_mix (g_mix (g_mix (g_mix (g_mix (0 : Int64) (σ.2 12 ((6 * e1) + 0))) (σ.2 12 ((6 * e1) + 1))) (σ.2 12 ((6 * e1) + 2))) (σ.2 12 ((6 * e1) + 3))) (σ.2 12 ((6 * e1) + 4))) (σ.2 12 ((6 * e1) + 5))) x2) (σ.2 14 e1)), .long x3]) (rest := []) ⟨hx, hb, hml, hown, hts⟩ (c_M_mix l (g_mix (g_mix (g_mix (g_mix (g_mix (g_mix (g_mix (g_mix (0 : Int64) (σ.2 12 ((6 * e1) + 0))) (σ.2 12 ((6 * e1) + 1))) (σ.2 12 ((6 * e1) + 2))) (σ.2 12 ((6 * e1) + 3))) (σ.2 12 ((6 * e1) + 4))) (σ.2 12 ((6 * e1) + 5))) x2) (σ.2 14 e1)) x3) (cwS 2 hts (xa_S xw1091 xw1092 xw11 xw1093) rfl rfl rfl (by decide +kernel) ⟨Nat.le_of_ble_eq_true rfl, Nat.le_of_ble_eq_true rfl⟩) preEq rfl rfl hl.1 rfl (lv_room (Nat.le_of_ble_eq_true rfl)) d_M_hashOf_55 ⟨Nat.le_of_ble_eq_true rfl, Nat.le_of_ble_eq_true rfl⟩) (fun r_ e_ => ?_)
  subst e_
  refine lv_lload hx hb d_M_hashOf_58 (lv_at hl 6 rfl) ?_
  refine vp_callSl (W.runS (As := [.long (g_mix (g_mix (g_mix (g_mix (g_mix (g_mix (g_mix (g_mix (g_mix (0 : Int64) (σ.2 12 ((6 * e1) + 0))) (σ.2 12 ((6 * e1) + 1))) (σ.2 12 ((6 * e1) + 2))) (σ.2 12 ((6 * e1) + 3))) (σ.2 12 ((6 * e1) + 4))) (σ.2 12 ((6 * e1) + 5))) x2) (σ.2 14 e1)) x3), .long x4]) (rest := []) ⟨hx, hb, hml, hown, hts⟩ (c_M_mix l (g_mix (g_mix (g_mix (g_mix (g_mix (g_mix (g_mix (g_mix (g_mix (0 : Int64) (σ.2 12 ((6 * e1) + 0))) (σ.2 12 ((6 * e1) + 1))) (σ.2 12 ((6 * e1) + 2))) (σ.2 12 ((6 * e1) + 3))) (σ.2 12 ((6 * e1) + 4))) (σ.2 12 ((6 * e1) + 5))) x2) (σ.2 14 e1)) x3) x4) (cwS 2 hts (xa_S xw1091 xw1092 xw11 xw1093) rfl rfl rfl (by decide +kernel) ⟨Nat.le_of_ble_eq_true rfl, Nat.le_of_ble_eq_true rfl⟩) preEq rfl rfl hl.1 rfl (lv_room (Nat.le_of_ble_eq_true rfl)) d_M_hashOf_60 ⟨Nat.le_of_ble_eq_true rfl, Nat.le_of_ble_eq_true rfl⟩) (fun r_ e_ => ?_)
  subst e_
  exact W.lret (v := (g_mix (g_mix (g_mix (g_mix (g_mix (g_mix (g_mix (g_mix (g_mix (g_mix (0 : Int64) (σ.2 12 ((6 * e1) + 0))) (σ.2 12 ((6 * e1) + 1))) (σ.2 12 ((6 * e1) + 2))) (σ.2 12 ((6 * e1) + 3))) (σ.2 12 ((6 * e1) + 4))) (σ.2 12 ((6 * e1) + 5))) x2) (σ.2 14 e1)) x3) x4)) hx hb hr (fun t ht_ hW => ⟨⟨(g_mix (g_mix (g_mix (g_mix (g_mix (g_mix (g_mix (g_mix (g_mix (g_mix (0 : Int64) (σ.2 12 ((6 * e1) + 0))) (σ.2 12 ((6 * e1) + 1))) (σ.2 12 ((6 * e1) + 2))) (σ.2 12 ((6 * e1) + 3))) (σ.2 12 ((6 * e1) + 4))) (σ.2 12 ((6 * e1) + 5))) x2) (σ.2 14 e1)) x3) x4), σ, rfl, ⟨rfl, rfl⟩, by rw [sm_B, ht_]; exact hP⟩, hS.F ht_⟩) hS.2.2 d_M_hashOf_63
abbrev b_M_copy : ByteArray := prog_12_method_14_code
def y_M_copy : MethodName := ⟨"SecurePairModel", "copy", "(II)V"⟩
abbrev w_M_copy : List Cond := .code y_M_copy b_M_copy 4 none :: xa
theorem d_M_copy_0 : decode b_M_copy 0 = .ok (.aload_n 0, 1) := by decide +kernel
theorem d_M_copy_1 : decode b_M_copy 1 = .ok (.getfield 90, 3) := by decide +kernel
theorem d_M_copy_4 : decode b_M_copy 4 = .ok (.iload_n 2, 1) := by decide +kernel
theorem d_M_copy_5 : decode b_M_copy 5 = .ok (.aload_n 0, 1) := by decide +kernel
theorem d_M_copy_6 : decode b_M_copy 6 = .ok (.getfield 90, 3) := by decide +kernel
theorem d_M_copy_9 : decode b_M_copy 9 = .ok (.iload_n 1, 1) := by decide +kernel
theorem d_M_copy_10 : decode b_M_copy 10 = .ok (.iaload, 1) := by decide +kernel
theorem d_M_copy_11 : decode b_M_copy 11 = .ok (.iastore, 1) := by decide +kernel
theorem d_M_copy_12 : decode b_M_copy 12 = .ok (.aload_n 0, 1) := by decide +kernel
theorem d_M_copy_13 : decode b_M_copy 13 = .ok (.getfield 96, 3) := by decide +kernel
theorem d_M_copy_16 : decode b_M_copy 16 = .ok (.iload_n 2, 1) := by decide +kernel
theorem d_M_copy_17 : decode b_M_copy 17 = .ok (.aload_n 0, 1) := by decide +kernel
theorem d_M_copy_18 : decode b_M_copy 18 = .ok (.getfield 96, 3) := by decide +kernel
theorem d_M_copy_21 : decode b_M_copy 21 = .ok (.iload_n 1, 1) := by decide +kernel
theorem d_M_copy_22 : decode b_M_copy 22 = .ok (.laload, 1) := by decide +kernel
theorem d_M_copy_23 : decode b_M_copy 23 = .ok (.lastore, 1) := by decide +kernel
theorem d_M_copy_24 : decode b_M_copy 24 = .ok (.iconst 0, 1) := by decide +kernel
theorem d_M_copy_25 : decode b_M_copy 25 = .ok (.istore_n 3, 1) := by decide +kernel
theorem d_M_copy_26 : decode b_M_copy 26 = .ok (.iload_n 3, 1) := by decide +kernel
theorem d_M_copy_27 : decode b_M_copy 27 = .ok (.iconst 4, 1) := by decide +kernel
theorem d_M_copy_28 : decode b_M_copy 28 = .ok (.if_icmp .ge 29, 3) := by decide +kernel
theorem d_M_copy_31 : decode b_M_copy 31 = .ok (.aload_n 0, 1) := by decide +kernel
theorem d_M_copy_32 : decode b_M_copy 32 = .ok (.getfield 93, 3) := by decide +kernel
theorem d_M_copy_35 : decode b_M_copy 35 = .ok (.iconst 4, 1) := by decide +kernel
theorem d_M_copy_36 : decode b_M_copy 36 = .ok (.iload_n 2, 1) := by decide +kernel
theorem d_M_copy_37 : decode b_M_copy 37 = .ok (.imul, 1) := by decide +kernel
theorem d_M_copy_38 : decode b_M_copy 38 = .ok (.iload_n 3, 1) := by decide +kernel
theorem d_M_copy_39 : decode b_M_copy 39 = .ok (.iadd, 1) := by decide +kernel
theorem d_M_copy_40 : decode b_M_copy 40 = .ok (.aload_n 0, 1) := by decide +kernel
theorem d_M_copy_41 : decode b_M_copy 41 = .ok (.getfield 93, 3) := by decide +kernel
theorem d_M_copy_44 : decode b_M_copy 44 = .ok (.iconst 4, 1) := by decide +kernel
theorem d_M_copy_45 : decode b_M_copy 45 = .ok (.iload_n 1, 1) := by decide +kernel
theorem d_M_copy_46 : decode b_M_copy 46 = .ok (.imul, 1) := by decide +kernel
theorem d_M_copy_47 : decode b_M_copy 47 = .ok (.iload_n 3, 1) := by decide +kernel
theorem d_M_copy_48 : decode b_M_copy 48 = .ok (.iadd, 1) := by decide +kernel
theorem d_M_copy_49 : decode b_M_copy 49 = .ok (.laload, 1) := by decide +kernel
theorem d_M_copy_50 : decode b_M_copy 50 = .ok (.lastore, 1) := by decide +kernel
theorem d_M_copy_51 : decode b_M_copy 51 = .ok (.iinc 3 1, 3) := by decide +kernel
theorem d_M_copy_54 : decode b_M_copy 54 = .ok (.goto (-28), 3) := by decide +kernel
theorem d_M_copy_57 : decode b_M_copy 57 = .ok (.return_, 1) := by decide +kernel
theorem xw979 : (Cond.fieldLink "SecurePairModel" (90 : Nat) "SecurePairModel" "kind" "[I") ∈ xa := xa_t 979 (by decide +kernel) (by decide +kernel)
theorem xw980 : (Cond.fieldLink "SecurePairModel" (93 : Nat) "SecurePairModel" "word" "[J") ∈ xa := xa_t 980 (by decide +kernel) (by decide +kernel)
theorem xw981 : (Cond.fieldLink "SecurePairModel" (96 : Nat) "SecurePairModel" "tag" "[J") ∈ xa := xa_t 981 (by decide +kernel) (by decide +kernel)
def q_copy (fr : Nat) (to : Nat) (σ : xb_St) : xb_St := (xb_sl (xb_sl (xb_sl (xb_sl (xb_sl (xb_si σ 25 to (σ.1 25 fr)) 27 to (σ.2 27 fr)) 26 ((4 * to) + 0) (σ.2 26 ((4 * fr) + 0))) 26 ((4 * to) + 1) ((xb_sl (xb_sl (xb_si σ 25 to (σ.1 25 fr)) 27 to (σ.2 27 fr)) 26 ((4 * to) + 0) (σ.2 26 ((4 * fr) + 0))).2 26 ((4 * fr) + 1))) 26 ((4 * to) + 2) ((xb_sl (xb_sl (xb_sl (xb_si σ 25 to (σ.1 25 fr)) 27 to (σ.2 27 fr)) 26 ((4 * to) + 0) (σ.2 26 ((4 * fr) + 0))) 26 ((4 * to) + 1) ((xb_sl (xb_sl (xb_si σ 25 to (σ.1 25 fr)) 27 to (σ.2 27 fr)) 26 ((4 * to) + 0) (σ.2 26 ((4 * fr) + 0))).2 26 ((4 * fr) + 1))).2 26 ((4 * fr) + 2))) 26 ((4 * to) + 3) ((xb_sl (xb_sl (xb_sl (xb_sl (xb_si σ 25 to (σ.1 25 fr)) 27 to (σ.2 27 fr)) 26 ((4 * to) + 0) (σ.2 26 ((4 * fr) + 0))) 26 ((4 * to) + 1) ((xb_sl (xb_sl (xb_si σ 25 to (σ.1 25 fr)) 27 to (σ.2 27 fr)) 26 ((4 * to) + 0) (σ.2 26 ((4 * fr) + 0))).2 26 ((4 * fr) + 1))) 26 ((4 * to) + 2) ((xb_sl (xb_sl (xb_sl (xb_si σ 25 to (σ.1 25 fr)) 27 to (σ.2 27 fr)) 26 ((4 * to) + 0) (σ.2 26 ((4 * fr) + 0))) 26 ((4 * to) + 1) ((xb_sl (xb_sl (xb_si σ 25 to (σ.1 25 fr)) 27 to (σ.2 27 fr)) 26 ((4 * to) + 0) (σ.2 26 ((4 * fr) + 0))).2 26 ((4 * fr) + 1))).2 26 ((4 * fr) + 2))).2 26 ((4 * fr) + 3)))
set_option maxHeartbeats 4000000 in
set_option maxRecDepth 100000 in
theorem c_M_copy (l : Launch) (D : va_G) (α : Nat → Nat) (κ : Nat → ClassId) (hα : xb_inj α 35) (σ : xb_St) (x_fr : Int32) (fr : Nat) (e_fr : x_fr = nI fr) (b_fr : fr < 34) (x_to : Int32) (to : Nat) (e_to : x_to = nI to) (b_to : to < 34) : Met l y_M_copy w_M_copy ({ frames := 0, cells := 0, slots := 0, locals := 0 }) (va_Pc ([.ref (α 0), .int x_fr, .int x_to]) (sm_Pre D α κ σ)) (va_Qv (fun u : xb_St => u = q_copy fr to σ) (sm_B D α κ) (xb_A α 35)) 0 0 (xb_A α 35) := by
  subst e_fr
  subst e_to
  refine Met.ofW (cc := b_M_copy) (maxL := 4) (ret := none) (by decide) rfl ?_
  intro p e s m args below meth c s₁ B_ hml hv
  obtain ⟨rfl, hP, hK, hN⟩ := hv
  have hx := B_.exec
  have hb := B_.bytes
  have hr := B_.returns
  have hts := atoms_spec (ws := w_M_copy) B_.pre
  have ht : ∀ w ∈ xa, w.before _ s = true := fun w h => hts w (List.mem_cons_of_mem _ h)
  have hown : s.vm.findClass "SecurePairModel" = some m.cls := findClass_of_methodNamed B_.named
  have hlocks := B_.notSynchronized
  have hD := sm_D hα κ
  have hS : va_S (xb_A α 35) s.heap s.heap [] := va_S.rf
  have hl := lv_entry ([.ref (α 0), .int (nI fr), .int (nI to)]) (n := 4) (Nat.le_of_ble_eq_true rfl)
  rw [lg_entry_eq]
  generalize (lg_sl ([.ref (α 0), .int (nI fr), .int (nI to)]) ++ List.replicate (4 - (lg_sl ([.ref (α 0), .int (nI fr), .int (nI to)])).length) Slot.unset).toArray = ls at hl ⊢
  have hl : lv_has ls 4 [(0, .ref (α 0)), (1, .int (nI fr)), (2, .int (nI to))] := hl
  refine lv_aload_n hx hb d_M_copy_0 rfl (lv_at hl 0 rfl) ?_
  refine sm_g (v := .ref (α 25)) hx hb ht hown hK hP 27 (by decide) (ht _ xw979) (fun _ h_ => h_) rfl d_M_copy_1 ?_
  refine lv_iload_n hx hb d_M_copy_4 rfl (lv_at hl 2 rfl) ?_
  refine lv_aload_n hx hb d_M_copy_5 rfl (lv_at hl 0 rfl) ?_
  refine sm_g (v := .ref (α 25)) hx hb ht hown hK hP 27 (by decide) (ht _ xw979) (fun _ h_ => h_) rfl d_M_copy_6 ?_
  refine lv_iload_n hx hb d_M_copy_9 rfl (lv_at hl 1 rfl) ?_
  refine sm_gaI (L := 34) (n := fr) (v := (σ.1 25 fr)) hx hb hK hP 25 24 rfl rfl (xb_in (xb_lit fr rfl) (by omega) (by decide)) (xb_cl (xb_lit fr rfl) (by omega)) rfl d_M_copy_10 ?_
  refine sm_paI (L := 34) (n := to) (x := (σ.1 25 fr)) hx hb hK hP 25 24 rfl rfl hD hS (xb_in (xb_lit to rfl) (by omega) (by decide)) (xb_cl (xb_lit to rfl) (by omega)) sm_s_25 d_M_copy_11 (fun H locs hP hS => ?_)
  refine lv_aload_n hx hb d_M_copy_12 rfl (lv_at hl 0 rfl) ?_
  refine sm_g (v := .ref (α 27)) hx hb ht hown hK hP 29 (by decide) (ht _ xw981) (fun _ h_ => h_) rfl d_M_copy_13 ?_
  refine lv_iload_n hx hb d_M_copy_16 rfl (lv_at hl 2 rfl) ?_
  refine lv_aload_n hx hb d_M_copy_17 rfl (lv_at hl 0 rfl) ?_
  refine sm_g (v := .ref (α 27)) hx hb ht hown hK hP 29 (by decide) (ht _ xw981) (fun _ h_ => h_) rfl d_M_copy_18 ?_
  refine lv_iload_n hx hb d_M_copy_21 rfl (lv_at hl 1 rfl) ?_
  refine sm_gaJ (L := 34) (n := fr) (v := (σ.2 27 fr)) hx hb hK hP 27 26 rfl rfl (xb_in (xb_lit fr rfl) (by omega) (by decide)) (xb_cl (xb_lit fr rfl) (by omega)) xb_l_i d_M_copy_22 ?_
  refine sm_paJ (L := 34) (n := to) (x := (σ.2 27 fr)) hx hb hK hP 27 26 rfl rfl hD hS (xb_in (xb_lit to rfl) (by omega) (by decide)) (xb_cl (xb_lit to rfl) (by omega)) sm_s_27 d_M_copy_23 (fun H locs hP hS => ?_)
  refine lv_iconst (v := 0) hx hb d_M_copy_24 (by decide) ?_
  refine lv_istore_n (lv' := [(3, .int (0 : Int32)), (0, .ref (α 0)), (1, .int (nI fr)), (2, .int (nI to))]) hx hb d_M_copy_25 rfl hl (by decide) rfl (fun ls hl => ?_)
  refine lv_iload_n hx hb d_M_copy_26 rfl (lv_at hl 0 rfl) ?_
  refine lv_iconst (v := 4) hx hb d_M_copy_27 (by decide) ?_
  refine lv_icmp_ge (tgt := 57) hx hb d_M_copy_28 (by decide) (fun h_ => absurd h_ (by decide)) (fun _ => ?_)
  refine lv_aload_n hx hb d_M_copy_31 rfl (lv_at hl 1 rfl) ?_
  refine sm_g (v := .ref (α 26)) hx hb ht hown hK hP 28 (by decide) (ht _ xw980) (fun _ h_ => h_) rfl d_M_copy_32 ?_
  refine lv_iconst (v := 4) hx hb d_M_copy_35 (by decide) ?_
  refine lv_iload_n hx hb d_M_copy_36 rfl (lv_at hl 3 rfl) ?_
  refine lv_imul hx hb d_M_copy_37 ?_
  refine lv_iload_n hx hb d_M_copy_38 rfl (lv_at hl 0 rfl) ?_
  refine lv_iadd hx hb d_M_copy_39 ?_
  refine lv_aload_n hx hb d_M_copy_40 rfl (lv_at hl 1 rfl) ?_
  refine sm_g (v := .ref (α 26)) hx hb ht hown hK hP 28 (by decide) (ht _ xw980) (fun _ h_ => h_) rfl d_M_copy_41 ?_
  refine lv_iconst (v := 4) hx hb d_M_copy_44 (by decide) ?_
  refine lv_iload_n hx hb d_M_copy_45 rfl (lv_at hl 2 rfl) ?_
  refine lv_imul hx hb d_M_copy_46 ?_
  refine lv_iload_n hx hb d_M_copy_47 rfl (lv_at hl 0 rfl) ?_
  refine lv_iadd hx hb d_M_copy_48 ?_
  refine sm_gaJ (L := 136) (n := ((4 * fr) + 0)) (v := (σ.2 26 ((4 * fr) + 0))) hx hb hK hP 26 25 rfl rfl (xb_in (xb_na (xb_nm (xb_lit (x := (4 : Int32)) 4 rfl) (xb_lit fr rfl)) (xb_lit (x := (0 : Int32)) 0 rfl)) (by omega) (by decide)) (xb_cl (xb_na (xb_nm (xb_lit (x := (4 : Int32)) 4 rfl) (xb_lit fr rfl)) (xb_lit (x := (0 : Int32)) 0 rfl)) (by omega)) (((xb_l_nk (by decide))).trans (xb_l_i)) d_M_copy_49 ?_
  refine sm_paJ (L := 136) (n := ((4 * to) + 0)) (x := (σ.2 26 ((4 * fr) + 0))) hx hb hK hP 26 25 rfl rfl hD hS (xb_in (xb_na (xb_nm (xb_lit (x := (4 : Int32)) 4 rfl) (xb_lit to rfl)) (xb_lit (x := (0 : Int32)) 0 rfl)) (by omega) (by decide)) (xb_cl (xb_na (xb_nm (xb_lit (x := (4 : Int32)) 4 rfl) (xb_lit to rfl)) (xb_lit (x := (0 : Int32)) 0 rfl)) (by omega)) sm_s_26 d_M_copy_50 (fun H locs hP hS => ?_)
  refine lv_iinc (v := (1 : Int32)) (k := 0) (lv' := [(3, .int (1 : Int32)), (0, .ref (α 0)), (1, .int (nI fr)), (2, .int (nI to))]) hx hb d_M_copy_51 hl rfl (by decide) (by decide) rfl (fun ls hl => ?_)
  refine lv_goto (tgt := 26) hx hb d_M_copy_54 (by decide) ?_
  refine lv_iload_n hx hb d_M_copy_26 rfl (lv_at hl 0 rfl) ?_
  refine lv_iconst (v := 4) hx hb d_M_copy_27 (by decide) ?_
  refine lv_icmp_ge (tgt := 57) hx hb d_M_copy_28 (by decide) (fun h_ => absurd h_ (by decide)) (fun _ => ?_)
  refine lv_aload_n hx hb d_M_copy_31 rfl (lv_at hl 1 rfl) ?_
  refine sm_g (v := .ref (α 26)) hx hb ht hown hK hP 28 (by decide) (ht _ xw980) (fun _ h_ => h_) rfl d_M_copy_32 ?_
  refine lv_iconst (v := 4) hx hb d_M_copy_35 (by decide) ?_
  refine lv_iload_n hx hb d_M_copy_36 rfl (lv_at hl 3 rfl) ?_
  refine lv_imul hx hb d_M_copy_37 ?_
  refine lv_iload_n hx hb d_M_copy_38 rfl (lv_at hl 0 rfl) ?_
  refine lv_iadd hx hb d_M_copy_39 ?_
  refine lv_aload_n hx hb d_M_copy_40 rfl (lv_at hl 1 rfl) ?_
  refine sm_g (v := .ref (α 26)) hx hb ht hown hK hP 28 (by decide) (ht _ xw980) (fun _ h_ => h_) rfl d_M_copy_41 ?_
  refine lv_iconst (v := 4) hx hb d_M_copy_44 (by decide) ?_
  refine lv_iload_n hx hb d_M_copy_45 rfl (lv_at hl 2 rfl) ?_
  refine lv_imul hx hb d_M_copy_46 ?_
  refine lv_iload_n hx hb d_M_copy_47 rfl (lv_at hl 0 rfl) ?_
  refine lv_iadd hx hb d_M_copy_48 ?_
  refine sm_gaJ (L := 136) (n := ((4 * fr) + 1)) (v := ((xb_sl (xb_sl (xb_si σ 25 to (σ.1 25 fr)) 27 to (σ.2 27 fr)) 26 ((4 * to) + 0) (σ.2 26 ((4 * fr) + 0))).2 26 ((4 * fr) + 1))) hx hb hK hP 26 25 rfl rfl (xb_in (xb_na (xb_nm (xb_lit (x := (4 : Int32)) 4 rfl) (xb_lit fr rfl)) (xb_lit (x := (1 : Int32)) 1 rfl)) (by omega) (by decide)) (xb_cl (xb_na (xb_nm (xb_lit (x := (4 : Int32)) 4 rfl) (xb_lit fr rfl)) (xb_lit (x := (1 : Int32)) 1 rfl)) (by omega)) rfl d_M_copy_49 ?_
  refine sm_paJ (L := 136) (n := ((4 * to) + 1)) (x := ((xb_sl (xb_sl (xb_si σ 25 to (σ.1 25 fr)) 27 to (σ.2 27 fr)) 26 ((4 * to) + 0) (σ.2 26 ((4 * fr) + 0))).2 26 ((4 * fr) + 1))) hx hb hK hP 26 25 rfl rfl hD hS (xb_in (xb_na (xb_nm (xb_lit (x := (4 : Int32)) 4 rfl) (xb_lit to rfl)) (xb_lit (x := (1 : Int32)) 1 rfl)) (by omega) (by decide)) (xb_cl (xb_na (xb_nm (xb_lit (x := (4 : Int32)) 4 rfl) (xb_lit to rfl)) (xb_lit (x := (1 : Int32)) 1 rfl)) (by omega)) sm_s_26 d_M_copy_50 (fun H locs hP hS => ?_)
  refine lv_iinc (v := (2 : Int32)) (k := 0) (lv' := [(3, .int (2 : Int32)), (0, .ref (α 0)), (1, .int (nI fr)), (2, .int (nI to))]) hx hb d_M_copy_51 hl rfl (by decide) (by decide) rfl (fun ls hl => ?_)
  refine lv_goto (tgt := 26) hx hb d_M_copy_54 (by decide) ?_
  refine lv_iload_n hx hb d_M_copy_26 rfl (lv_at hl 0 rfl) ?_
  refine lv_iconst (v := 4) hx hb d_M_copy_27 (by decide) ?_
  refine lv_icmp_ge (tgt := 57) hx hb d_M_copy_28 (by decide) (fun h_ => absurd h_ (by decide)) (fun _ => ?_)
  refine lv_aload_n hx hb d_M_copy_31 rfl (lv_at hl 1 rfl) ?_
  refine sm_g (v := .ref (α 26)) hx hb ht hown hK hP 28 (by decide) (ht _ xw980) (fun _ h_ => h_) rfl d_M_copy_32 ?_
  refine lv_iconst (v := 4) hx hb d_M_copy_35 (by decide) ?_
  refine lv_iload_n hx hb d_M_copy_36 rfl (lv_at hl 3 rfl) ?_
  refine lv_imul hx hb d_M_copy_37 ?_
  refine lv_iload_n hx hb d_M_copy_38 rfl (lv_at hl 0 rfl) ?_
  refine lv_iadd hx hb d_M_copy_39 ?_
  refine lv_aload_n hx hb d_M_copy_40 rfl (lv_at hl 1 rfl) ?_
  refine sm_g (v := .ref (α 26)) hx hb ht hown hK hP 28 (by decide) (ht _ xw980) (fun _ h_ => h_) rfl d_M_copy_41 ?_
  refine lv_iconst (v := 4) hx hb d_M_copy_44 (by decide) ?_
  refine lv_iload_n hx hb d_M_copy_45 rfl (lv_at hl 2 rfl) ?_
  refine lv_imul hx hb d_M_copy_46 ?_
  refine lv_iload_n hx hb d_M_copy_47 rfl (lv_at hl 0 rfl) ?_
  refine lv_iadd hx hb d_M_copy_48 ?_
  refine sm_gaJ (L := 136) (n := ((4 * fr) + 2)) (v := ((xb_sl (xb_sl (xb_sl (xb_si σ 25 to (σ.1 25 fr)) 27 to (σ.2 27 fr)) 26 ((4 * to) + 0) (σ.2 26 ((4 * fr) + 0))) 26 ((4 * to) + 1) ((xb_sl (xb_sl (xb_si σ 25 to (σ.1 25 fr)) 27 to (σ.2 27 fr)) 26 ((4 * to) + 0) (σ.2 26 ((4 * fr) + 0))).2 26 ((4 * fr) + 1))).2 26 ((4 * fr) + 2))) hx hb hK hP 26 25 rfl rfl (xb_in (xb_na (xb_nm (xb_lit (x := (4 : Int32)) 4 rfl) (xb_lit fr rfl)) (xb_lit (x := (2 : Int32)) 2 rfl)) (by omega) (by decide)) (xb_cl (xb_na (xb_nm (xb_lit (x := (4 : Int32)) 4 rfl) (xb_lit fr rfl)) (xb_lit (x := (2 : Int32)) 2 rfl)) (by omega)) rfl d_M_copy_49 ?_
  refine sm_paJ (L := 136) (n := ((4 * to) + 2)) (x := ((xb_sl (xb_sl (xb_sl (xb_si σ 25 to (σ.1 25 fr)) 27 to (σ.2 27 fr)) 26 ((4 * to) + 0) (σ.2 26 ((4 * fr) + 0))) 26 ((4 * to) + 1) ((xb_sl (xb_sl (xb_si σ 25 to (σ.1 25 fr)) 27 to (σ.2 27 fr)) 26 ((4 * to) + 0) (σ.2 26 ((4 * fr) + 0))).2 26 ((4 * fr) + 1))).2 26 ((4 * fr) + 2))) hx hb hK hP 26 25 rfl rfl hD hS (xb_in (xb_na (xb_nm (xb_lit (x := (4 : Int32)) 4 rfl) (xb_lit to rfl)) (xb_lit (x := (2 : Int32)) 2 rfl)) (by omega) (by decide)) (xb_cl (xb_na (xb_nm (xb_lit (x := (4 : Int32)) 4 rfl) (xb_lit to rfl)) (xb_lit (x := (2 : Int32)) 2 rfl)) (by omega)) sm_s_26 d_M_copy_50 (fun H locs hP hS => ?_)
  refine lv_iinc (v := (3 : Int32)) (k := 0) (lv' := [(3, .int (3 : Int32)), (0, .ref (α 0)), (1, .int (nI fr)), (2, .int (nI to))]) hx hb d_M_copy_51 hl rfl (by decide) (by decide) rfl (fun ls hl => ?_)
  refine lv_goto (tgt := 26) hx hb d_M_copy_54 (by decide) ?_
  refine lv_iload_n hx hb d_M_copy_26 rfl (lv_at hl 0 rfl) ?_
  refine lv_iconst (v := 4) hx hb d_M_copy_27 (by decide) ?_
  refine lv_icmp_ge (tgt := 57) hx hb d_M_copy_28 (by decide) (fun h_ => absurd h_ (by decide)) (fun _ => ?_)
  refine lv_aload_n hx hb d_M_copy_31 rfl (lv_at hl 1 rfl) ?_
  refine sm_g (v := .ref (α 26)) hx hb ht hown hK hP 28 (by decide) (ht _ xw980) (fun _ h_ => h_) rfl d_M_copy_32 ?_
  refine lv_iconst (v := 4) hx hb d_M_copy_35 (by decide) ?_
  refine lv_iload_n hx hb d_M_copy_36 rfl (lv_at hl 3 rfl) ?_
  refine lv_imul hx hb d_M_copy_37 ?_
  refine lv_iload_n hx hb d_M_copy_38 rfl (lv_at hl 0 rfl) ?_
  refine lv_iadd hx hb d_M_copy_39 ?_
  refine lv_aload_n hx hb d_M_copy_40 rfl (lv_at hl 1 rfl) ?_
  refine sm_g (v := .ref (α 26)) hx hb ht hown hK hP 28 (by decide) (ht _ xw980) (fun _ h_ => h_) rfl d_M_copy_41 ?_
  refine lv_iconst (v := 4) hx hb d_M_copy_44 (by decide) ?_
  refine lv_iload_n hx hb d_M_copy_45 rfl (lv_at hl 2 rfl) ?_
  refine lv_imul hx hb d_M_copy_46 ?_
  refine lv_iload_n hx hb d_M_copy_47 rfl (lv_at hl 0 rfl) ?_
  refine lv_iadd hx hb d_M_copy_48 ?_
  refine sm_gaJ (L := 136) (n := ((4 * fr) + 3)) (v := ((xb_sl (xb_sl (xb_sl (xb_sl (xb_si σ 25 to (σ.1 25 fr)) 27 to (σ.2 27 fr)) 26 ((4 * to) + 0) (σ.2 26 ((4 * fr) + 0))) 26 ((4 * to) + 1) ((xb_sl (xb_sl (xb_si σ 25 to (σ.1 25 fr)) 27 to (σ.2 27 fr)) 26 ((4 * to) + 0) (σ.2 26 ((4 * fr) + 0))).2 26 ((4 * fr) + 1))) 26 ((4 * to) + 2) ((xb_sl (xb_sl (xb_sl (xb_si σ 25 to (σ.1 25 fr)) 27 to (σ.2 27 fr)) 26 ((4 * to) + 0) (σ.2 26 ((4 * fr) + 0))) 26 ((4 * to) + 1) ((xb_sl (xb_sl (xb_si σ 25 to (σ.1 25 fr)) 27 to (σ.2 27 fr)) 26 ((4 * to) + 0) (σ.2 26 ((4 * fr) + 0))).2 26 ((4 * fr) + 1))).2 26 ((4 * fr) + 2))).2 26 ((4 * fr) + 3))) hx hb hK hP 26 25 rfl rfl (xb_in (xb_na (xb_nm (xb_lit (x := (4 : Int32)) 4 rfl) (xb_lit fr rfl)) (xb_lit (x := (3 : Int32)) 3 rfl)) (by omega) (by decide)) (xb_cl (xb_na (xb_nm (xb_lit (x := (4 : Int32)) 4 rfl) (xb_lit fr rfl)) (xb_lit (x := (3 : Int32)) 3 rfl)) (by omega)) rfl d_M_copy_49 ?_
  refine sm_paJ (L := 136) (n := ((4 * to) + 3)) (x := ((xb_sl (xb_sl (xb_sl (xb_sl (xb_si σ 25 to (σ.1 25 fr)) 27 to (σ.2 27 fr)) 26 ((4 * to) + 0) (σ.2 26 ((4 * fr) + 0))) 26 ((4 * to) + 1) ((xb_sl (xb_sl (xb_si σ 25 to (σ.1 25 fr)) 27 to (σ.2 27 fr)) 26 ((4 * to) + 0) (σ.2 26 ((4 * fr) + 0))).2 26 ((4 * fr) + 1))) 26 ((4 * to) + 2) ((xb_sl (xb_sl (xb_sl (xb_si σ 25 to (σ.1 25 fr)) 27 to (σ.2 27 fr)) 26 ((4 * to) + 0) (σ.2 26 ((4 * fr) + 0))) 26 ((4 * to) + 1) ((xb_sl (xb_sl (xb_si σ 25 to (σ.1 25 fr)) 27 to (σ.2 27 fr)) 26 ((4 * to) + 0) (σ.2 26 ((4 * fr) + 0))).2 26 ((4 * fr) + 1))).2 26 ((4 * fr) + 2))).2 26 ((4 * fr) + 3))) hx hb hK hP 26 25 rfl rfl hD hS (xb_in (xb_na (xb_nm (xb_lit (x := (4 : Int32)) 4 rfl) (xb_lit to rfl)) (xb_lit (x := (3 : Int32)) 3 rfl)) (by omega) (by decide)) (xb_cl (xb_na (xb_nm (xb_lit (x := (4 : Int32)) 4 rfl) (xb_lit to rfl)) (xb_lit (x := (3 : Int32)) 3 rfl)) (by omega)) sm_s_26 d_M_copy_50 (fun H locs hP hS => ?_)
  refine lv_iinc (v := (4 : Int32)) (k := 0) (lv' := [(3, .int (4 : Int32)), (0, .ref (α 0)), (1, .int (nI fr)), (2, .int (nI to))]) hx hb d_M_copy_51 hl rfl (by decide) (by decide) rfl (fun ls hl => ?_)
  refine lv_goto (tgt := 26) hx hb d_M_copy_54 (by decide) ?_
  refine lv_iload_n hx hb d_M_copy_26 rfl (lv_at hl 0 rfl) ?_
  refine lv_iconst (v := 4) hx hb d_M_copy_27 (by decide) ?_
  refine lv_icmp_ge (tgt := 57) hx hb d_M_copy_28 (by decide) (fun _ => ?_) (fun h_ => absurd h_ (by decide))
  exact W.vret hx hb hr (fun t ht_ hW => ⟨⟨(xb_sl (xb_sl (xb_sl (xb_sl (xb_sl (xb_si σ 25 to (σ.1 25 fr)) 27 to (σ.2 27 fr)) 26 ((4 * to) + 0) (σ.2 26 ((4 * fr) + 0))) 26 ((4 * to) + 1) ((xb_sl (xb_sl (xb_si σ 25 to (σ.1 25 fr)) 27 to (σ.2 27 fr)) 26 ((4 * to) + 0) (σ.2 26 ((4 * fr) + 0))).2 26 ((4 * fr) + 1))) 26 ((4 * to) + 2) ((xb_sl (xb_sl (xb_sl (xb_si σ 25 to (σ.1 25 fr)) 27 to (σ.2 27 fr)) 26 ((4 * to) + 0) (σ.2 26 ((4 * fr) + 0))) 26 ((4 * to) + 1) ((xb_sl (xb_sl (xb_si σ 25 to (σ.1 25 fr)) 27 to (σ.2 27 fr)) 26 ((4 * to) + 0) (σ.2 26 ((4 * fr) + 0))).2 26 ((4 * fr) + 1))).2 26 ((4 * fr) + 2))) 26 ((4 * to) + 3) ((xb_sl (xb_sl (xb_sl (xb_sl (xb_si σ 25 to (σ.1 25 fr)) 27 to (σ.2 27 fr)) 26 ((4 * to) + 0) (σ.2 26 ((4 * fr) + 0))) 26 ((4 * to) + 1) ((xb_sl (xb_sl (xb_si σ 25 to (σ.1 25 fr)) 27 to (σ.2 27 fr)) 26 ((4 * to) + 0) (σ.2 26 ((4 * fr) + 0))).2 26 ((4 * fr) + 1))) 26 ((4 * to) + 2) ((xb_sl (xb_sl (xb_sl (xb_si σ 25 to (σ.1 25 fr)) 27 to (σ.2 27 fr)) 26 ((4 * to) + 0) (σ.2 26 ((4 * fr) + 0))) 26 ((4 * to) + 1) ((xb_sl (xb_sl (xb_si σ 25 to (σ.1 25 fr)) 27 to (σ.2 27 fr)) 26 ((4 * to) + 0) (σ.2 26 ((4 * fr) + 0))).2 26 ((4 * fr) + 1))).2 26 ((4 * fr) + 2))).2 26 ((4 * fr) + 3))), rfl, rfl, by rw [sm_B, ht_]; exact hP⟩, hS.F ht_⟩) hS.2.2 d_M_copy_57
theorem ok_q_copy {σ : xb_St} (fr : Nat) (to : Nat) (b_fr : fr < 34) (b_to : to < 34) (ok : sm_ok σ) : sm_ok (q_copy fr to σ) := by
  unfold q_copy
  exact (mk_sl (mk_sl (mk_sl (mk_sl (mk_sl (mk_si ok (by decide)))))))
