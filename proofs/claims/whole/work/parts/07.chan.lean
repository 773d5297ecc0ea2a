abbrev b_Channel_empty : ByteArray := prog_2_method_3_code
def y_Channel_empty : MethodName := ⟨"SecurePair$Channel", "empty", "()V"⟩
abbrev w_Channel_empty : List Cond := .code y_Channel_empty b_Channel_empty 1 none :: xa
theorem d_Channel_empty_0 : decode b_Channel_empty 0 = .ok (.aload_n 0, 1) := by decide +kernel
theorem d_Channel_empty_1 : decode b_Channel_empty 1 = .ok (.iconst 0, 1) := by decide +kernel
theorem d_Channel_empty_2 : decode b_Channel_empty 2 = .ok (.putfield 38, 3) := by decide +kernel
theorem d_Channel_empty_5 : decode b_Channel_empty 5 = .ok (.aload_n 0, 1) := by decide +kernel
theorem d_Channel_empty_6 : decode b_Channel_empty 6 = .ok (.iconst 0, 1) := by decide +kernel
theorem d_Channel_empty_7 : decode b_Channel_empty 7 = .ok (.putfield 41, 3) := by decide +kernel
theorem d_Channel_empty_10 : decode b_Channel_empty 10 = .ok (.return_, 1) := by decide +kernel
theorem xw202 : (Cond.fieldLink "SecurePair$Channel" (38 : Nat) "SecurePair$Channel" "first" "I") ∈ xa := xa_t 202 (by decide +kernel) (by decide +kernel)
theorem xw203 : (Cond.fieldLink "SecurePair$Channel" (41 : Nat) "SecurePair$Channel" "held" "I") ∈ xa := xa_t 203 (by decide +kernel) (by decide +kernel)
def p_Ch_empty (C : Nat) (σ : xb_St) : xb_St := (xb_si (xb_si σ C 6 (0 : Int32)) C 7 (0 : Int32))
set_option maxHeartbeats 4000000 in
set_option maxRecDepth 100000 in
theorem c_Channel_empty (l : Launch) (D : va_G) (α : Nat → Nat) (κ : Nat → ClassId) (hα : xb_inj α 35) (σ : xb_St) (C : Nat) (iC : sp_isChannel C) : Met l y_Channel_empty w_Channel_empty ({ frames := 0, cells := 0, slots := 0, locals := 0 }) (va_Pc ([.ref (α C)]) (sp_Pre D α κ σ)) (va_Qv (fun u : xb_St => u = p_Ch_empty C σ) (sp_B D α κ) (xb_A α 35)) 0 0 (xb_A α 35) := by
  refine Met.ofW (cc := b_Channel_empty) (maxL := 1) (ret := none) (by decide) rfl ?_
  intro p e s m args below meth c s₁ B_ hml hv
  obtain ⟨rfl, hP, hK, hN⟩ := hv
  have hx := B_.exec
  have hb := B_.bytes
  have hr := B_.returns
  have hts := atoms_spec (ws := w_Channel_empty) B_.pre
  have ht : ∀ w ∈ xa, w.before _ s = true := fun w h => hts w (List.mem_cons_of_mem _ h)
  have hown : s.vm.findClass "SecurePair$Channel" = some m.cls := findClass_of_methodNamed B_.named
  have hlocks := B_.notSynchronized
  have hD := sp_D hα κ
  have hS : va_S (xb_A α 35) s.heap s.heap [] := va_S.rf
  have hl := lv_entry ([.ref (α C)]) (n := 1) (Nat.le_of_ble_eq_true rfl)
  rw [lg_entry_eq]
  generalize (lg_sl ([.ref (α C)]) ++ List.replicate (1 - (lg_sl ([.ref (α C)])).length) Slot.unset).toArray = ls at hl ⊢
  have hl : lv_has ls 1 [(0, .ref (α C))] := hl
  refine lv_aload_n hx hb d_Channel_empty_0 rfl (lv_at hl 0 rfl) ?_
  refine lv_iconst (v := 0) hx hb d_Channel_empty_1 (by decide) ?_
  refine sp_pi_Channel (x := (0 : Int32)) (ty := .int) hx hb ht hown hK hP iC 6 (by decide) (ht _ xw202) (fun _ h_ => h_) hD hS rfl (by decide +kernel) rfl rfl hf_Channel_6 d_Channel_empty_2 (fun H locs hP hS => ?_)
  refine lv_aload_n hx hb d_Channel_empty_5 rfl (lv_at hl 0 rfl) ?_
  refine lv_iconst (v := 0) hx hb d_Channel_empty_6 (by decide) ?_
  refine sp_pi_Channel (x := (0 : Int32)) (ty := .int) hx hb ht hown hK hP iC 7 (by decide) (ht _ xw203) (fun _ h_ => h_) hD hS rfl (by decide +kernel) rfl rfl hf_Channel_7 d_Channel_empty_7 (fun H locs hP hS => ?_)
  exact W.vret hx hb hr (fun t ht_ hW => ⟨⟨(xb_si (xb_si σ C 6 (0 : Int32)) C 7 (0 : Int32)), rfl, rfl, by rw [sp_B, ht_]; exact hP⟩, hS.F ht_⟩) hS.2.2 d_Channel_empty_10
theorem ok_p_Ch_empty {σ : xb_St} (C : Nat) (iC : sp_isChannel C) (ok : sp_ok σ) : sp_ok (p_Ch_empty C σ) := by
  unfold p_Ch_empty
  exact ok_held (ok_first ok iC ⟨0, by decide, rfl⟩) iC ⟨0, by decide, rfl⟩
abbrev b_Channel_free : ByteArray := prog_2_method_2_code
def y_Channel_free : MethodName := ⟨"SecurePair$Channel", "free", "()V"⟩
abbrev w_Channel_free : List Cond := .code y_Channel_free b_Channel_free 1 none :: xa
theorem d_Channel_free_0 : decode b_Channel_free 0 = .ok (.aload_n 0, 1) := by decide +kernel
theorem d_Channel_free_1 : decode b_Channel_free 1 = .ok (.iconst 0, 1) := by decide +kernel
theorem d_Channel_free_2 : decode b_Channel_free 2 = .ok (.putfield 19, 3) := by decide +kernel
theorem d_Channel_free_5 : decode b_Channel_free 5 = .ok (.aload_n 0, 1) := by decide +kernel
theorem d_Channel_free_6 : decode b_Channel_free 6 = .ok (.lconst 0, 1) := by decide +kernel
theorem d_Channel_free_7 : decode b_Channel_free 7 = .ok (.putfield 22, 3) := by decide +kernel
theorem d_Channel_free_10 : decode b_Channel_free 10 = .ok (.aload_n 0, 1) := by decide +kernel
theorem d_Channel_free_11 : decode b_Channel_free 11 = .ok (.lconst 0, 1) := by decide +kernel
theorem d_Channel_free_12 : decode b_Channel_free 12 = .ok (.putfield 26, 3) := by decide +kernel
theorem d_Channel_free_15 : decode b_Channel_free 15 = .ok (.aload_n 0, 1) := by decide +kernel
theorem d_Channel_free_16 : decode b_Channel_free 16 = .ok (.iconst 0, 1) := by decide +kernel
theorem d_Channel_free_17 : decode b_Channel_free 17 = .ok (.putfield 29, 3) := by decide +kernel
theorem d_Channel_free_20 : decode b_Channel_free 20 = .ok (.aload_n 0, 1) := by decide +kernel
theorem d_Channel_free_21 : decode b_Channel_free 21 = .ok (.iconst 0, 1) := by decide +kernel
theorem d_Channel_free_22 : decode b_Channel_free 22 = .ok (.putfield 32, 3) := by decide +kernel
theorem d_Channel_free_25 : decode b_Channel_free 25 = .ok (.aload_n 0, 1) := by decide +kernel
theorem d_Channel_free_26 : decode b_Channel_free 26 = .ok (.invokevirtual 35, 3) := by decide +kernel
theorem d_Channel_free_29 : decode b_Channel_free 29 = .ok (.return_, 1) := by decide +kernel
theorem xw9 : (Cond.initialized "SecurePair$Channel") ∈ xa := xa_t 9 (by decide +kernel) (by decide +kernel)
theorem xw194 : (Cond.fieldLink "SecurePair$Channel" (19 : Nat) "SecurePair$Channel" "state" "I") ∈ xa := xa_t 194 (by decide +kernel) (by decide +kernel)
theorem xw196 : (Cond.fieldLink "SecurePair$Channel" (22 : Nat) "SecurePair$Channel" "peer" "J") ∈ xa := xa_t 196 (by decide +kernel) (by decide +kernel)
theorem xw198 : (Cond.fieldLink "SecurePair$Channel" (26 : Nat) "SecurePair$Channel" "window" "J") ∈ xa := xa_t 198 (by decide +kernel) (by decide +kernel)
theorem xw200 : (Cond.fieldLink "SecurePair$Channel" (29 : Nat) "SecurePair$Channel" "room" "I") ∈ xa := xa_t 200 (by decide +kernel) (by decide +kernel)
theorem xw205 : (Cond.fieldLink "SecurePair$Channel" (32 : Nat) "SecurePair$Channel" "readSinceWindow" "I") ∈ xa := xa_t 205 (by decide +kernel) (by decide +kernel)
theorem xw802 : (Cond.methodLink "SecurePair$Channel" (35 : Nat) ({ cls := "SecurePair$Channel", name := "empty", desc := "()V" } : MethodName)) ∈ xa := xa_t 802 (by decide +kernel) (by decide +kernel)
theorem xw803 : (Cond.instanceMethod ({ cls := "SecurePair$Channel", name := "empty", desc := "()V" } : MethodName)) ∈ xa := xa_t 803 (by decide +kernel) (by decide +kernel)
theorem xw804 : (Cond.selects "SecurePair$Channel" ({ cls := "SecurePair$Channel", name := "empty", desc := "()V" } : MethodName) ({ cls := "SecurePair$Channel", name := "empty", desc := "()V" } : MethodName)) ∈ xa := xa_t 804 (by decide +kernel) (by decide +kernel)
theorem xw805 : (Cond.code ({ cls := "SecurePair$Channel", name := "empty", desc := "()V" } : MethodName) prog_2_method_3_code (1 : Nat) (Option.none : Option ClassFile.FieldType)) ∈ xa := xa_t 805 (by decide +kernel) (by decide +kernel)
def p_Ch_free (C : Nat) (σ : xb_St) : xb_St := (p_Ch_empty C (xb_si (xb_si (xb_sl (xb_sl (xb_si σ C 2 (0 : Int32)) C 3 (0 : Int64)) C 4 (0 : Int64)) C 5 (0 : Int32)) C 8 (0 : Int32)))
set_option maxHeartbeats 4000000 in
set_option maxRecDepth 100000 in
theorem c_Channel_free (l : Launch) (D : va_G) (α : Nat → Nat) (κ : Nat → ClassId) (hα : xb_inj α 35) (σ : xb_St) (C : Nat) (iC : sp_isChannel C) : Met l y_Channel_free w_Channel_free ({ frames := 1, cells := 0, slots := 0, locals := 20 }) (va_Pc ([.ref (α C)]) (sp_Pre D α κ σ)) (va_Qv (fun u : xb_St => u = p_Ch_free C σ) (sp_B D α κ) (xb_A α 35)) 0 0 (xb_A α 35) := by
  refine Met.ofW (cc := b_Channel_free) (maxL := 1) (ret := none) (by decide) rfl ?_
  intro p e s m args below meth c s₁ B_ hml hv
  obtain ⟨rfl, hP, hK, hN⟩ := hv
  have hx := B_.exec
  have hb := B_.bytes
  have hr := B_.returns
  have hts := atoms_spec (ws := w_Channel_free) B_.pre
  have ht : ∀ w ∈ xa, w.before _ s = true := fun w h => hts w (List.mem_cons_of_mem _ h)
  have hown : s.vm.findClass "SecurePair$Channel" = some m.cls := findClass_of_methodNamed B_.named
  have hlocks := B_.notSynchronized
  have hD := sp_D hα κ
  have hS : va_S (xb_A α 35) s.heap s.heap [] := va_S.rf
  have hl := lv_entry ([.ref (α C)]) (n := 1) (Nat.le_of_ble_eq_true rfl)
  rw [lg_entry_eq]
  generalize (lg_sl ([.ref (α C)]) ++ List.replicate (1 - (lg_sl ([.ref (α C)])).length) Slot.unset).toArray = ls at hl ⊢
  have hl : lv_has ls 1 [(0, .ref (α C))] := hl
  refine lv_aload_n hx hb d_Channel_free_0 rfl (lv_at hl 0 rfl) ?_
  refine lv_iconst (v := 0) hx hb d_Channel_free_1 (by decide) ?_
  refine sp_pi_Channel (x := (0 : Int32)) (ty := .int) hx hb ht hown hK hP iC 2 (by decide) (ht _ xw194) (fun _ h_ => h_) hD hS rfl (by decide +kernel) rfl rfl hf_Channel_2 d_Channel_free_2 (fun H locs hP hS => ?_)
  refine lv_aload_n hx hb d_Channel_free_5 rfl (lv_at hl 0 rfl) ?_
  refine lv_lconst (v := 0) hx hb d_Channel_free_6 (by decide) ?_
  refine sp_pl_Channel (x := (0 : Int64)) (ty := .long) hx hb ht hown hK hP iC 3 (by decide) (ht _ xw196) (fun _ h_ => h_) hD hS rfl (by decide +kernel) rfl rfl hf_Channel_3 d_Channel_free_7 (fun H locs hP hS => ?_)
  refine lv_aload_n hx hb d_Channel_free_10 rfl (lv_at hl 0 rfl) ?_
  refine lv_lconst (v := 0) hx hb d_Channel_free_11 (by decide) ?_
  refine sp_pl_Channel (x := (0 : Int64)) (ty := .long) hx hb ht hown hK hP iC 4 (by decide) (ht _ xw198) (fun _ h_ => h_) hD hS rfl (by decide +kernel) rfl rfl hf_Channel_4 d_Channel_free_12 (fun H locs hP hS => ?_)
  refine lv_aload_n hx hb d_Channel_free_15 rfl (lv_at hl 0 rfl) ?_
  refine lv_iconst (v := 0) hx hb d_Channel_free_16 (by decide) ?_
  refine sp_pi_Channel (x := (0 : Int32)) (ty := .int) hx hb ht hown hK hP iC 5 (by decide) (ht _ xw200) (fun _ h_ => h_) hD hS rfl (by decide +kernel) rfl rfl hf_Channel_5 d_Channel_free_17 (fun H locs hP hS => ?_)
  refine lv_aload_n hx hb d_Channel_free_20 rfl (lv_at hl 0 rfl) ?_
  refine lv_iconst (v := 0) hx hb d_Channel_free_21 (by decide) ?_
  refine sp_pi_Channel (x := (0 : Int32)) (ty := .int) hx hb ht hown hK hP iC 8 (by decide) (ht _ xw205) (fun _ h_ => h_) hD hS rfl (by decide +kernel) rfl rfl hf_Channel_8 d_Channel_free_22 (fun H locs hP hS => ?_)
  refine lv_aload_n hx hb d_Channel_free_25 rfl (lv_at hl 0 rfl) ?_
  refine sp_cv (va_runV (As := []) (rest := []) ⟨hx, hb, hml, hown, hts⟩ (c_Channel_empty l D α κ hα (xb_si (xb_si (xb_sl (xb_sl (xb_si σ C 2 (0 : Int32)) C 3 (0 : Int64)) C 4 (0 : Int64)) C 5 (0 : Int32)) C 8 (0 : Int32)) C iC) (cwV 0 hts (xa_V xw802 xw803 xw804 xw9 xw805) rfl rfl rfl (by decide +kernel) ⟨Nat.le_of_ble_eq_true rfl, Nat.le_of_ble_eq_true rfl⟩) ⟨sp_blind, va_recv hK hP rfl (sp_at_Channel iC), sp_pre hP hK hN _⟩ rfl rfl hl.1 rfl (lv_room (Nat.le_of_ble_eq_true rfl)) d_Channel_free_26 ⟨Nat.le_of_ble_eq_true rfl, Nat.le_of_ble_eq_true rfl⟩) hS (fun _ h_ => h_) (fun H locs hP hS => ?_)
  obtain ⟨τ1, hτ1⟩ : ∃ t_, t_ = (p_Ch_empty C (xb_si (xb_si (xb_sl (xb_sl (xb_si σ C 2 (0 : Int32)) C 3 (0 : Int64)) C 4 (0 : Int64)) C 5 (0 : Int32)) C 8 (0 : Int32))) := ⟨_, rfl⟩
  rw [← hτ1] at hP
  exact W.vret hx hb hr (fun t ht_ hW => ⟨⟨τ1, rfl, (by subst hτ1; exact rfl), by rw [sp_B, ht_]; exact hP⟩, hS.F ht_⟩) hS.2.2 d_Channel_free_29
theorem ok_p_Ch_free {σ : xb_St} (C : Nat) (iC : sp_isChannel C) (ok : sp_ok σ) : sp_ok (p_Ch_free C σ) := by
  unfold p_Ch_free
  exact (ok_p_Ch_empty C iC (ok_si (ok_si (ok_sl (ok_sl (ok_si ok (by omega) (by omega)))) (by omega) (by omega)) (by omega) (by omega)))
abbrev b_Channel_connect : ByteArray := prog_2_method_4_code
def y_Channel_connect : MethodName := ⟨"SecurePair$Channel", "connect", "(JJ)V"⟩
abbrev w_Channel_connect : List Cond := .code y_Channel_connect b_Channel_connect 5 none :: xa
theorem d_Channel_connect_0 : decode b_Channel_connect 0 = .ok (.aload_n 0, 1) := by decide +kernel
theorem d_Channel_connect_1 : decode b_Channel_connect 1 = .ok (.iconst 2, 1) := by decide +kernel
theorem d_Channel_connect_2 : decode b_Channel_connect 2 = .ok (.putfield 19, 3) := by decide +kernel
theorem d_Channel_connect_5 : decode b_Channel_connect 5 = .ok (.aload_n 0, 1) := by decide +kernel
theorem d_Channel_connect_6 : decode b_Channel_connect 6 = .ok (.lload_n 1, 1) := by decide +kernel
theorem d_Channel_connect_7 : decode b_Channel_connect 7 = .ok (.putfield 22, 3) := by decide +kernel
theorem d_Channel_connect_10 : decode b_Channel_connect 10 = .ok (.aload_n 0, 1) := by decide +kernel
theorem d_Channel_connect_11 : decode b_Channel_connect 11 = .ok (.lload_n 3, 1) := by decide +kernel
theorem d_Channel_connect_12 : decode b_Channel_connect 12 = .ok (.putfield 26, 3) := by decide +kernel
theorem d_Channel_connect_15 : decode b_Channel_connect 15 = .ok (.return_, 1) := by decide +kernel
def p_Ch_connect (C : Nat) (x1 : Int64) (x2 : Int64) (σ : xb_St) : xb_St := (xb_sl (xb_sl (xb_si σ C 2 (2 : Int32)) C 3 x1) C 4 x2)
set_option maxHeartbeats 4000000 in
set_option maxRecDepth 100000 in
theorem c_Channel_connect (l : Launch) (D : va_G) (α : Nat → Nat) (κ : Nat → ClassId) (hα : xb_inj α 35) (σ : xb_St) (C : Nat) (x1 : Int64) (x2 : Int64) (iC : sp_isChannel C) : Met l y_Channel_connect w_Channel_connect ({ frames := 0, cells := 0, slots := 0, locals := 0 }) (va_Pc ([.ref (α C), .long x1, .long x2]) (sp_Pre D α κ σ)) (va_Qv (fun u : xb_St => u = p_Ch_connect C x1 x2 σ) (sp_B D α κ) (xb_A α 35)) 0 0 (xb_A α 35) := by
  refine Met.ofW (cc := b_Channel_connect) (maxL := 5) (ret := none) (by decide) rfl ?_
  intro p e s m args below meth c s₁ B_ hml hv
  obtain ⟨rfl, hP, hK, hN⟩ := hv
  have hx := B_.exec
  have hb := B_.bytes
  have hr := B_.returns
  have hts := atoms_spec (ws := w_Channel_connect) B_.pre
  have ht : ∀ w ∈ xa, w.before _ s = true := fun w h => hts w (List.mem_cons_of_mem _ h)
  have hown : s.vm.findClass "SecurePair$Channel" = some m.cls := findClass_of_methodNamed B_.named
  have hlocks := B_.notSynchronized
  have hD := sp_D hα κ
  have hS : va_S (xb_A α 35) s.heap s.heap [] := va_S.rf
  have hl := lv_entry ([.ref (α C), .long x1, .long x2]) (n := 5) (Nat.le_of_ble_eq_true rfl)
  rw [lg_entry_eq]
  generalize (lg_sl ([.ref (α C), .long x1, .long x2]) ++ List.replicate (5 - (lg_sl ([.ref (α C), .long x1, .long x2])).length) Slot.unset).toArray = ls at hl ⊢
  have hl : lv_has ls 5 [(0, .ref (α C)), (1, .long x1), (3, .long x2)] := hl
  refine lv_aload_n hx hb d_Channel_connect_0 rfl (lv_at hl 0 rfl) ?_
  refine lv_iconst (v := 2) hx hb d_Channel_connect_1 (by decide) ?_
  refine sp_pi_Channel (x := (2 : Int32)) (ty := .int) hx hb ht hown hK hP iC 2 (by decide) (ht _ xw194) (fun _ h_ => h_) hD hS rfl (by decide +kernel) rfl rfl hf_Channel_2 d_Channel_connect_2 (fun H locs hP hS => ?_)
  refine lv_aload_n hx hb d_Channel_connect_5 rfl (lv_at hl 0 rfl) ?_
  refine lv_lload_n hx hb d_Channel_connect_6 rfl (lv_at hl 1 rfl) ?_
  refine sp_pl_Channel (x := x1) (ty := .long) hx hb ht hown hK hP iC 3 (by decide) (ht _ xw196) (fun _ h_ => h_) hD hS rfl (by decide +kernel) rfl rfl hf_Channel_3 d_Channel_connect_7 (fun H locs hP hS => ?_)
  refine lv_aload_n hx hb d_Channel_connect_10 rfl (lv_at hl 0 rfl) ?_
  refine lv_lload_n hx hb d_Channel_connect_11 rfl (lv_at hl 2 rfl) ?_
  refine sp_pl_Channel (x := x2) (ty := .long) hx hb ht hown hK hP iC 4 (by decide) (ht _ xw198) (fun _ h_ => h_) hD hS rfl (by decide +kernel) rfl rfl hf_Channel_4 d_Channel_connect_12 (fun H locs hP hS => ?_)
  exact W.vret hx hb hr (fun t ht_ hW => ⟨⟨(xb_sl (xb_sl (xb_si σ C 2 (2 : Int32)) C 3 x1) C 4 x2), rfl, rfl, by rw [sp_B, ht_]; exact hP⟩, hS.F ht_⟩) hS.2.2 d_Channel_connect_15
theorem ok_p_Ch_connect {σ : xb_St} (C : Nat) (x1 : Int64) (x2 : Int64) (iC : sp_isChannel C) (ok : sp_ok σ) : sp_ok (p_Ch_connect C x1 x2 σ) := by
  unfold p_Ch_connect
  exact (ok_sl (ok_sl (ok_si ok (by omega) (by omega))))
abbrev b_Channel_isConnected : ByteArray := prog_2_method_5_code
def y_Channel_isConnected : MethodName := ⟨"SecurePair$Channel", "isConnected", "()Z"⟩
abbrev w_Channel_isConnected : List Cond := .code y_Channel_isConnected b_Channel_isConnected 1 (some .boolean) :: xa
theorem d_Channel_isConnected_0 : decode b_Channel_isConnected 0 = .ok (.aload_n 0, 1) := by decide +kernel
theorem d_Channel_isConnected_1 : decode b_Channel_isConnected 1 = .ok (.getfield 19, 3) := by decide +kernel
theorem d_Channel_isConnected_4 : decode b_Channel_isConnected 4 = .ok (.iconst 2, 1) := by decide +kernel
theorem d_Channel_isConnected_5 : decode b_Channel_isConnected 5 = .ok (.if_icmp .eq 11, 3) := by decide +kernel
theorem d_Channel_isConnected_8 : decode b_Channel_isConnected 8 = .ok (.aload_n 0, 1) := by decide +kernel
theorem d_Channel_isConnected_9 : decode b_Channel_isConnected 9 = .ok (.getfield 19, 3) := by decide +kernel
theorem d_Channel_isConnected_12 : decode b_Channel_isConnected 12 = .ok (.iconst 3, 1) := by decide +kernel
theorem d_Channel_isConnected_13 : decode b_Channel_isConnected 13 = .ok (.if_icmp .ne 7, 3) := by decide +kernel
theorem d_Channel_isConnected_16 : decode b_Channel_isConnected 16 = .ok (.iconst 1, 1) := by decide +kernel
theorem d_Channel_isConnected_17 : decode b_Channel_isConnected 17 = .ok (.goto 4, 3) := by decide +kernel
theorem d_Channel_isConnected_20 : decode b_Channel_isConnected 20 = .ok (.iconst 0, 1) := by decide +kernel
theorem d_Channel_isConnected_21 : decode b_Channel_isConnected 21 = .ok (.ireturn, 1) := by decide +kernel
def p_Ch_isConn (C : Nat) (σ : xb_St) : Int32 := (if (σ.1 C 2) = (2 : Int32) then (1 : Int32) else (if (σ.1 C 2) = (3 : Int32) then (1 : Int32) else (0 : Int32)))
set_option maxHeartbeats 4000000 in
set_option maxRecDepth 100000 in
theorem c_Channel_isConnected (l : Launch) (D : va_G) (α : Nat → Nat) (κ : Nat → ClassId) (hα : xb_inj α 35) (σ : xb_St) (C : Nat) (iC : sp_isChannel C) : Met l y_Channel_isConnected w_Channel_isConnected ({ frames := 0, cells := 0, slots := 0, locals := 0 }) (va_Pc ([.ref (α C)]) (sp_Pre D α κ σ)) (va_Qi (fun r (u : xb_St) => r = p_Ch_isConn C σ ∧ u = σ) (sp_B D α κ) (xb_A α 35)) 0 0 (xb_A α 35) := by
  refine Met.ofW (cc := b_Channel_isConnected) (maxL := 1) (ret := (some .boolean)) (by decide) rfl ?_
  intro p e s m args below meth c s₁ B_ hml hv
  obtain ⟨rfl, hP, hK, hN⟩ := hv
  have hx := B_.exec
  have hb := B_.bytes
  have hr := B_.returns
  have hts := atoms_spec (ws := w_Channel_isConnected) B_.pre
  have ht : ∀ w ∈ xa, w.before _ s = true := fun w h => hts w (List.mem_cons_of_mem _ h)
  have hown : s.vm.findClass "SecurePair$Channel" = some m.cls := findClass_of_methodNamed B_.named
  have hlocks := B_.notSynchronized
  have hD := sp_D hα κ
  have hS : va_S (xb_A α 35) s.heap s.heap [] := va_S.rf
  have hl := lv_entry ([.ref (α C)]) (n := 1) (Nat.le_of_ble_eq_true rfl)
  rw [lg_entry_eq]
  generalize (lg_sl ([.ref (α C)]) ++ List.replicate (1 - (lg_sl ([.ref (α C)])).length) Slot.unset).toArray = ls at hl ⊢
  have hl : lv_has ls 1 [(0, .ref (α C))] := hl
  refine lv_aload_n hx hb d_Channel_isConnected_0 rfl (lv_at hl 0 rfl) ?_
  refine sp_g_Channel (v := .int (σ.1 C 2)) hx hb ht hown hK hP iC 2 (by decide) (ht _ xw194) (fun _ h_ => h_) rfl d_Channel_isConnected_1 ?_
  refine lv_iconst (v := 2) hx hb d_Channel_isConnected_4 (by decide) ?_
  refine lv_icmp_eq (tgt := 16) hx hb d_Channel_isConnected_5 (by decide) (fun c1 => ?_) (fun c1 => ?_)
  · skip
    refine lv_iconst (v := 1) hx hb d_Channel_isConnected_16 (by decide) ?_
    refine lv_goto (tgt := 21) hx hb d_Channel_isConnected_17 (by decide) ?_
    exact W.zret (v := (1 : Int32)) hx hb hr rfl (fun t ht_ hW => ⟨⟨(1 : Int32), σ, rfl, ⟨((if_pos c1)).symm, rfl⟩, by rw [sp_B, ht_]; exact hP⟩, hS.F ht_⟩) hS.2.2 d_Channel_isConnected_21
  · skip
    refine lv_aload_n hx hb d_Channel_isConnected_8 rfl (lv_at hl 0 rfl) ?_
    refine sp_g_Channel (v := .int (σ.1 C 2)) hx hb ht hown hK hP iC 2 (by decide) (ht _ xw194) (fun _ h_ => h_) rfl d_Channel_isConnected_9 ?_
    refine lv_iconst (v := 3) hx hb d_Channel_isConnected_12 (by decide) ?_
    refine lv_icmp_ne (tgt := 20) hx hb d_Channel_isConnected_13 (by decide) (fun c2 => ?_) (fun c2 => ?_)
    · skip
      refine lv_iconst (v := 0) hx hb d_Channel_isConnected_20 (by decide) ?_
      exact W.zret (v := (0 : Int32)) hx hb hr rfl (fun t ht_ hW => ⟨⟨(0 : Int32), σ, rfl, ⟨((if_neg c1).trans ((if_neg c2))).symm, rfl⟩, by rw [sp_B, ht_]; exact hP⟩, hS.F ht_⟩) hS.2.2 d_Channel_isConnected_21
    · skip
      refine lv_iconst (v := 1) hx hb d_Channel_isConnected_16 (by decide) ?_
      refine lv_goto (tgt := 21) hx hb d_Channel_isConnected_17 (by decide) ?_
      exact W.zret (v := (1 : Int32)) hx hb hr rfl (fun t ht_ hW => ⟨⟨(1 : Int32), σ, rfl, ⟨((if_neg c1).trans ((if_pos c2))).symm, rfl⟩, by rw [sp_B, ht_]; exact hP⟩, hS.F ht_⟩) hS.2.2 d_Channel_isConnected_21
abbrev b_Channel_takeConfirm : ByteArray := prog_2_method_6_code
def y_Channel_takeConfirm : MethodName := ⟨"SecurePair$Channel", "takeConfirm", "(JJ)I"⟩
abbrev w_Channel_takeConfirm : List Cond := .code y_Channel_takeConfirm b_Channel_takeConfirm 5 (some .int) :: xa
theorem d_Channel_takeConfirm_0 : decode b_Channel_takeConfirm 0 = .ok (.aload_n 0, 1) := by decide +kernel
theorem d_Channel_takeConfirm_1 : decode b_Channel_takeConfirm 1 = .ok (.getfield 19, 3) := by decide +kernel
theorem d_Channel_takeConfirm_4 : decode b_Channel_takeConfirm 4 = .ok (.iconst 1, 1) := by decide +kernel
theorem d_Channel_takeConfirm_5 : decode b_Channel_takeConfirm 5 = .ok (.if_icmp .eq 6, 3) := by decide +kernel
theorem d_Channel_takeConfirm_8 : decode b_Channel_takeConfirm 8 = .ok (.bipush 7, 2) := by decide +kernel
theorem d_Channel_takeConfirm_10 : decode b_Channel_takeConfirm 10 = .ok (.ireturn, 1) := by decide +kernel
theorem d_Channel_takeConfirm_11 : decode b_Channel_takeConfirm 11 = .ok (.aload_n 0, 1) := by decide +kernel
theorem d_Channel_takeConfirm_12 : decode b_Channel_takeConfirm 12 = .ok (.lload_n 1, 1) := by decide +kernel
theorem d_Channel_takeConfirm_13 : decode b_Channel_takeConfirm 13 = .ok (.lload_n 3, 1) := by decide +kernel
theorem d_Channel_takeConfirm_14 : decode b_Channel_takeConfirm 14 = .ok (.invokevirtual 44, 3) := by decide +kernel
theorem d_Channel_takeConfirm_17 : decode b_Channel_takeConfirm 17 = .ok (.iconst 0, 1) := by decide +kernel
theorem d_Channel_takeConfirm_18 : decode b_Channel_takeConfirm 18 = .ok (.ireturn, 1) := by decide +kernel
theorem xw784 : (Cond.instanceMethod ({ cls := "SecurePair$Channel", name := "connect", desc := "(JJ)V" } : MethodName)) ∈ xa := xa_t 784 (by decide +kernel) (by decide +kernel)
theorem xw785 : (Cond.selects "SecurePair$Channel" ({ cls := "SecurePair$Channel", name := "connect", desc := "(JJ)V" } : MethodName) ({ cls := "SecurePair$Channel", name := "connect", desc := "(JJ)V" } : MethodName)) ∈ xa := xa_t 785 (by decide +kernel) (by decide +kernel)
theorem xw786 : (Cond.code ({ cls := "SecurePair$Channel", name := "connect", desc := "(JJ)V" } : MethodName) prog_2_method_4_code (5 : Nat) (Option.none : Option ClassFile.FieldType)) ∈ xa := xa_t 786 (by decide +kernel) (by decide +kernel)
theorem xw793 : (Cond.methodLink "SecurePair$Channel" (44 : Nat) ({ cls := "SecurePair$Channel", name := "connect", desc := "(JJ)V" } : MethodName)) ∈ xa := xa_t 793 (by decide +kernel) (by decide +kernel)
def p_Ch_confirm (C : Nat) (x1 : Int64) (x2 : Int64) (σ : xb_St) : Int32 × xb_St := (if (σ.1 C 2) = (1 : Int32) then ((0 : Int32), (p_Ch_connect C x1 x2 σ)) else ((7 : Int32), σ))
set_option maxHeartbeats 4000000 in
set_option maxRecDepth 100000 in
theorem c_Channel_takeConfirm (l : Launch) (D : va_G) (α : Nat → Nat) (κ : Nat → ClassId) (hα : xb_inj α 35) (σ : xb_St) (C : Nat) (x1 : Int64) (x2 : Int64) (iC : sp_isChannel C) : Met l y_Channel_takeConfirm w_Channel_takeConfirm ({ frames := 1, cells := 0, slots := 0, locals := 24 }) (va_Pc ([.ref (α C), .long x1, .long x2]) (sp_Pre D α κ σ)) (va_Qi (fun r (u : xb_St) => r = (p_Ch_confirm C x1 x2 σ).1 ∧ u = (p_Ch_confirm C x1 x2 σ).2) (sp_B D α κ) (xb_A α 35)) 0 0 (xb_A α 35) := by
  refine Met.ofW (cc := b_Channel_takeConfirm) (maxL := 5) (ret := (some .int)) (by decide) rfl ?_
  intro p e s m args below meth c s₁ B_ hml hv
  obtain ⟨rfl, hP, hK, hN⟩ := hv
  have hx := B_.exec
  have hb := B_.bytes
  have hr := B_.returns
  have hts := atoms_spec (ws := w_Channel_takeConfirm) B_.pre
  have ht : ∀ w ∈ xa, w.before _ s = true := fun w h => hts w (List.mem_cons_of_mem _ h)
  have hown : s.vm.findClass "SecurePair$Channel" = some m.cls := findClass_of_methodNamed B_.named
  have hlocks := B_.notSynchronized
  have hD := sp_D hα κ
  have hS : va_S (xb_A α 35) s.heap s.heap [] := va_S.rf
  have hl := lv_entry ([.ref (α C), .long x1, .long x2]) (n := 5) (Nat.le_of_ble_eq_true rfl)
  rw [lg_entry_eq]
  generalize (lg_sl ([.ref (α C), .long x1, .long x2]) ++ List.replicate (5 - (lg_sl ([.ref (α C), .long x1, .long x2])).length) Slot.unset).toArray = ls at hl ⊢
  have hl : lv_has ls 5 [(0, .ref (α C)), (1, .long x1), (3, .long x2)] := hl
  refine lv_aload_n hx hb d_Channel_takeConfirm_0 rfl (lv_at hl 0 rfl) ?_
  refine sp_g_Channel (v := .int (σ.1 C 2)) hx hb ht hown hK hP iC 2 (by decide) (ht _ xw194) (fun _ h_ => h_) rfl d_Channel_takeConfirm_1 ?_
  refine lv_iconst (v := 1) hx hb d_Channel_takeConfirm_4 (by decide) ?_
  refine lv_icmp_eq (tgt := 11) hx hb d_Channel_takeConfirm_5 (by decide) (fun c1 => ?_) (fun c1 => ?_)
  · skip
    refine lv_aload_n hx hb d_Channel_takeConfirm_11 rfl (lv_at hl 0 rfl) ?_
    refine lv_lload_n hx hb d_Channel_takeConfirm_12 rfl (lv_at hl 1 rfl) ?_
    refine lv_lload_n hx hb d_Channel_takeConfirm_13 rfl (lv_at hl 2 rfl) ?_
    refine sp_cv (va_runV (As := [.long x1, .long x2]) (rest := []) ⟨hx, hb, hml, hown, hts⟩ (c_Channel_connect l D α κ hα σ C x1 x2 iC) (cwV 2 hts (xa_V xw793 xw784 xw785 xw9 xw786) rfl rfl rfl (by decide +kernel) ⟨Nat.le_of_ble_eq_true rfl, Nat.le_of_ble_eq_true rfl⟩) ⟨sp_blind, va_recv hK hP rfl (sp_at_Channel iC), sp_pre hP hK hN _⟩ rfl rfl hl.1 rfl (lv_room (Nat.le_of_ble_eq_true rfl)) d_Channel_takeConfirm_14 ⟨Nat.le_of_ble_eq_true rfl, Nat.le_of_ble_eq_true rfl⟩) hS (fun _ h_ => h_) (fun H locs hP hS => ?_)
    obtain ⟨τ1, hτ1⟩ : ∃ t_, t_ = (p_Ch_connect C x1 x2 σ) := ⟨_, rfl⟩
    rw [← hτ1] at hP
    refine lv_iconst (v := 0) hx hb d_Channel_takeConfirm_17 (by decide) ?_
    exact W.iret (v := (0 : Int32)) hx hb hr (fun t ht_ hW => ⟨⟨(0 : Int32), τ1, rfl, ⟨congrArg Prod.fst (((by subst hτ1; exact ((if_pos c1)).symm)) : ((0 : Int32), τ1) = p_Ch_confirm C x1 x2 σ), congrArg Prod.snd (((by subst hτ1; exact ((if_pos c1)).symm)) : ((0 : Int32), τ1) = p_Ch_confirm C x1 x2 σ)⟩, by rw [sp_B, ht_]; exact hP⟩, hS.F ht_⟩) hS.2.2 d_Channel_takeConfirm_18
  · skip
    refine lv_bipush (v := 7) hx hb d_Channel_takeConfirm_8 (by decide) ?_
    exact W.iret (v := (7 : Int32)) hx hb hr (fun t ht_ hW => ⟨⟨(7 : Int32), σ, rfl, ⟨congrArg Prod.fst ((((if_neg c1)).symm) : ((7 : Int32), σ) = p_Ch_confirm C x1 x2 σ), congrArg Prod.snd ((((if_neg c1)).symm) : ((7 : Int32), σ) = p_Ch_confirm C x1 x2 σ)⟩, by rw [sp_B, ht_]; exact hP⟩, hS.F ht_⟩) hS.2.2 d_Channel_takeConfirm_10
theorem ok_p_Ch_confirm {σ : xb_St} (C : Nat) (x1 : Int64) (x2 : Int64) (iC : sp_isChannel C) (ok : sp_ok σ) : sp_ok (p_Ch_confirm C x1 x2 σ).2 := by
  unfold p_Ch_confirm
  by_cases c1 : (σ.1 C 2) = (1 : Int32)
  · rw [if_pos c1]
    exact (ok_p_Ch_connect C x1 x2 iC ok)
  · rw [if_neg c1]
    exact ok
abbrev b_Channel_takeRefuse : ByteArray := prog_2_method_7_code
def y_Channel_takeRefuse : MethodName := ⟨"SecurePair$Channel", "takeRefuse", "()I"⟩
abbrev w_Channel_takeRefuse : List Cond := .code y_Channel_takeRefuse b_Channel_takeRefuse 1 (some .int) :: xa
theorem d_Channel_takeRefuse_0 : decode b_Channel_takeRefuse 0 = .ok (.aload_n 0, 1) := by decide +kernel
theorem d_Channel_takeRefuse_1 : decode b_Channel_takeRefuse 1 = .ok (.getfield 19, 3) := by decide +kernel
theorem d_Channel_takeRefuse_4 : decode b_Channel_takeRefuse 4 = .ok (.iconst 1, 1) := by decide +kernel
theorem d_Channel_takeRefuse_5 : decode b_Channel_takeRefuse 5 = .ok (.if_icmp .eq 6, 3) := by decide +kernel
theorem d_Channel_takeRefuse_8 : decode b_Channel_takeRefuse 8 = .ok (.bipush 7, 2) := by decide +kernel
theorem d_Channel_takeRefuse_10 : decode b_Channel_takeRefuse 10 = .ok (.ireturn, 1) := by decide +kernel
theorem d_Channel_takeRefuse_11 : decode b_Channel_takeRefuse 11 = .ok (.aload_n 0, 1) := by decide +kernel
theorem d_Channel_takeRefuse_12 : decode b_Channel_takeRefuse 12 = .ok (.invokevirtual 48, 3) := by decide +kernel
theorem d_Channel_takeRefuse_15 : decode b_Channel_takeRefuse 15 = .ok (.iconst 0, 1) := by decide +kernel
theorem d_Channel_takeRefuse_16 : decode b_Channel_takeRefuse 16 = .ok (.ireturn, 1) := by decide +kernel
theorem xw798 : (Cond.methodLink "SecurePair$Channel" (48 : Nat) ({ cls := "SecurePair$Channel", name := "free", desc := "()V" } : MethodName)) ∈ xa := xa_t 798 (by decide +kernel) (by decide +kernel)
theorem xw799 : (Cond.instanceMethod ({ cls := "SecurePair$Channel", name := "free", desc := "()V" } : MethodName)) ∈ xa := xa_t 799 (by decide +kernel) (by decide +kernel)
theorem xw800 : (Cond.selects "SecurePair$Channel" ({ cls := "SecurePair$Channel", name := "free", desc := "()V" } : MethodName) ({ cls := "SecurePair$Channel", name := "free", desc := "()V" } : MethodName)) ∈ xa := xa_t 800 (by decide +kernel) (by decide +kernel)
theorem xw801 : (Cond.code ({ cls := "SecurePair$Channel", name := "free", desc := "()V" } : MethodName) prog_2_method_2_code (1 : Nat) (Option.none : Option ClassFile.FieldType)) ∈ xa := xa_t 801 (by decide +kernel) (by decide +kernel)
def p_Ch_refuse (C : Nat) (σ : xb_St) : Int32 × xb_St := (if (σ.1 C 2) = (1 : Int32) then ((0 : Int32), (p_Ch_free C σ)) else ((7 : Int32), σ))
set_option maxHeartbeats 4000000 in
set_option maxRecDepth 100000 in
theorem c_Channel_takeRefuse (l : Launch) (D : va_G) (α : Nat → Nat) (κ : Nat → ClassId) (hα : xb_inj α 35) (σ : xb_St) (C : Nat) (iC : sp_isChannel C) : Met l y_Channel_takeRefuse w_Channel_takeRefuse ({ frames := 2, cells := 0, slots := 0, locals := 40 }) (va_Pc ([.ref (α C)]) (sp_Pre D α κ σ)) (va_Qi (fun r (u : xb_St) => r = (p_Ch_refuse C σ).1 ∧ u = (p_Ch_refuse C σ).2) (sp_B D α κ) (xb_A α 35)) 0 0 (xb_A α 35) := by
  refine Met.ofW (cc := b_Channel_takeRefuse) (maxL := 1) (ret := (some .int)) (by decide) rfl ?_
  intro p e s m args below meth c s₁ B_ hml hv
  obtain ⟨rfl, hP, hK, hN⟩ := hv
  have hx := B_.exec
  have hb := B_.bytes
  have hr := B_.returns
  have hts := atoms_spec (ws := w_Channel_takeRefuse) B_.pre
  have ht : ∀ w ∈ xa, w.before _ s = true := fun w h => hts w (List.mem_cons_of_mem _ h)
  have hown : s.vm.findClass "SecurePair$Channel" = some m.cls := findClass_of_methodNamed B_.named
  have hlocks := B_.notSynchronized
  have hD := sp_D hα κ
  have hS : va_S (xb_A α 35) s.heap s.heap [] := va_S.rf
  have hl := lv_entry ([.ref (α C)]) (n := 1) (Nat.le_of_ble_eq_true rfl)
  rw [lg_entry_eq]
  generalize (lg_sl ([.ref (α C)]) ++ List.replicate (1 - (lg_sl ([.ref (α C)])).length) Slot.unset).toArray = ls at hl ⊢
  have hl : lv_has ls 1 [(0, .ref (α C))] := hl
  refine lv_aload_n hx hb d_Channel_takeRefuse_0 rfl (lv_at hl 0 rfl) ?_
  refine sp_g_Channel (v := .int (σ.1 C 2)) hx hb ht hown hK hP iC 2 (by decide) (ht _ xw194) (fun _ h_ => h_) rfl d_Channel_takeRefuse_1 ?_
  refine lv_iconst (v := 1) hx hb d_Channel_takeRefuse_4 (by decide) ?_
  refine lv_icmp_eq (tgt := 11) hx hb d_Channel_takeRefuse_5 (by decide) (fun c1 => ?_) (fun c1 => ?_)
  · skip
    refine lv_aload_n hx hb d_Channel_takeRefuse_11 rfl (lv_at hl 0 rfl) ?_
    refine sp_cv (va_runV (As := []) (rest := []) ⟨hx, hb, hml, hown, hts⟩ (c_Channel_free l D α κ hα σ C iC) (cwV 0 hts (xa_V xw798 xw799 xw800 xw9 xw801) rfl rfl rfl (by decide +kernel) ⟨Nat.le_of_ble_eq_true rfl, Nat.le_of_ble_eq_true rfl⟩) ⟨sp_blind, va_recv hK hP rfl (sp_at_Channel iC), sp_pre hP hK hN _⟩ rfl rfl hl.1 rfl (lv_room (Nat.le_of_ble_eq_true rfl)) d_Channel_takeRefuse_12 ⟨Nat.le_of_ble_eq_true rfl, Nat.le_of_ble_eq_true rfl⟩) hS (fun _ h_ => h_) (fun H locs hP hS => ?_)
    obtain ⟨τ1, hτ1⟩ : ∃ t_, t_ = (p_Ch_free C σ) := ⟨_, rfl⟩
    rw [← hτ1] at hP
    refine lv_iconst (v := 0) hx hb d_Channel_takeRefuse_15 (by decide) ?_
    exact W.iret (v := (0 : Int32)) hx hb hr (fun t ht_ hW => ⟨⟨(0 : Int32), τ1, rfl, ⟨congrArg Prod.fst (((by subst hτ1; exact ((if_pos c1)).symm)) : ((0 : Int32), τ1) = p_Ch_refuse C σ), congrArg Prod.snd (((by subst hτ1; exact ((if_pos c1)).symm)) : ((0 : Int32), τ1) = p_Ch_refuse C σ)⟩, by rw [sp_B, ht_]; exact hP⟩, hS.F ht_⟩) hS.2.2 d_Channel_takeRefuse_16
  · skip
    refine lv_bipush (v := 7) hx hb d_Channel_takeRefuse_8 (by decide) ?_
    exact W.iret (v := (7 : Int32)) hx hb hr (fun t ht_ hW => ⟨⟨(7 : Int32), σ, rfl, ⟨congrArg Prod.fst ((((if_neg c1)).symm) : ((7 : Int32), σ) = p_Ch_refuse C σ), congrArg Prod.snd ((((if_neg c1)).symm) : ((7 : Int32), σ) = p_Ch_refuse C σ)⟩, by rw [sp_B, ht_]; exact hP⟩, hS.F ht_⟩) hS.2.2 d_Channel_takeRefuse_10
theorem ok_p_Ch_refuse {σ : xb_St} (C : Nat) (iC : sp_isChannel C) (ok : sp_ok σ) : sp_ok (p_Ch_refuse C σ).2 := by
  unfold p_Ch_refuse
  by_cases c1 : (σ.1 C 2) = (1 : Int32)
  · rw [if_pos c1]
    exact (ok_p_Ch_free C iC ok)
  · rw [if_neg c1]
    exact ok
abbrev b_Channel_takeWindow : ByteArray := prog_2_method_8_code
def y_Channel_takeWindow : MethodName := ⟨"SecurePair$Channel", "takeWindow", "(J)I"⟩
abbrev w_Channel_takeWindow : List Cond := .code y_Channel_takeWindow b_Channel_takeWindow 3 (some .int) :: xa
theorem d_Channel_takeWindow_0 : decode b_Channel_takeWindow 0 = .ok (.aload_n 0, 1) := by decide +kernel
theorem d_Channel_takeWindow_1 : decode b_Channel_takeWindow 1 = .ok (.invokevirtual 51, 3) := by decide +kernel
theorem d_Channel_takeWindow_4 : decode b_Channel_takeWindow 4 = .ok (.ifCond .eq 17, 3) := by decide +kernel
theorem d_Channel_takeWindow_7 : decode b_Channel_takeWindow 7 = .ok (.lload_n 1, 1) := by decide +kernel
theorem d_Channel_takeWindow_8 : decode b_Channel_takeWindow 8 = .ok (.lconst 1, 1) := by decide +kernel
theorem d_Channel_takeWindow_9 : decode b_Channel_takeWindow 9 = .ok (.lcmp, 1) := by decide +kernel
theorem d_Channel_takeWindow_10 : decode b_Channel_takeWindow 10 = .ok (.ifCond .lt 11, 3) := by decide +kernel
theorem d_Channel_takeWindow_13 : decode b_Channel_takeWindow 13 = .ok (.lload_n 1, 1) := by decide +kernel
theorem d_Channel_takeWindow_14 : decode b_Channel_takeWindow 14 = .ok (.ldc2_w 55, 3) := by decide +kernel
theorem d_Channel_takeWindow_17 : decode b_Channel_takeWindow 17 = .ok (.lcmp, 1) := by decide +kernel
theorem d_Channel_takeWindow_18 : decode b_Channel_takeWindow 18 = .ok (.ifCond .le 6, 3) := by decide +kernel
theorem d_Channel_takeWindow_21 : decode b_Channel_takeWindow 21 = .ok (.bipush 7, 2) := by decide +kernel
theorem d_Channel_takeWindow_23 : decode b_Channel_takeWindow 23 = .ok (.ireturn, 1) := by decide +kernel
theorem d_Channel_takeWindow_24 : decode b_Channel_takeWindow 24 = .ok (.aload_n 0, 1) := by decide +kernel
theorem d_Channel_takeWindow_25 : decode b_Channel_takeWindow 25 = .ok (.dup, 1) := by decide +kernel
theorem d_Channel_takeWindow_26 : decode b_Channel_takeWindow 26 = .ok (.getfield 26, 3) := by decide +kernel
theorem d_Channel_takeWindow_29 : decode b_Channel_takeWindow 29 = .ok (.lload_n 1, 1) := by decide +kernel
theorem d_Channel_takeWindow_30 : decode b_Channel_takeWindow 30 = .ok (.ladd, 1) := by decide +kernel
theorem d_Channel_takeWindow_31 : decode b_Channel_takeWindow 31 = .ok (.putfield 26, 3) := by decide +kernel
theorem d_Channel_takeWindow_34 : decode b_Channel_takeWindow 34 = .ok (.iconst 0, 1) := by decide +kernel
theorem d_Channel_takeWindow_35 : decode b_Channel_takeWindow 35 = .ok (.ireturn, 1) := by decide +kernel
theorem xw810 : (Cond.methodLink "SecurePair$Channel" (51 : Nat) ({ cls := "SecurePair$Channel", name := "isConnected", desc := "()Z" } : MethodName)) ∈ xa := xa_t 810 (by decide +kernel) (by decide +kernel)
theorem xw811 : (Cond.instanceMethod ({ cls := "SecurePair$Channel", name := "isConnected", desc := "()Z" } : MethodName)) ∈ xa := xa_t 811 (by decide +kernel) (by decide +kernel)
theorem xw812 : (Cond.selects "SecurePair$Channel" ({ cls := "SecurePair$Channel", name := "isConnected", desc := "()Z" } : MethodName) ({ cls := "SecurePair$Channel", name := "isConnected", desc := "()Z" } : MethodName)) ∈ xa := xa_t 812 (by decide +kernel) (by decide +kernel)
theorem xw813 : (Cond.code ({ cls := "SecurePair$Channel", name := "isConnected", desc := "()Z" } : MethodName) prog_2_method_5_code (1 : Nat) (Option.some ClassFile.FieldType.boolean)) ∈ xa := xa_t 813 (by decide +kernel) (by decide +kernel)
theorem xw814 : (Cond.constantLong "SecurePair$Channel" (55 : Nat) (1000 : Int64)) ∈ xa := xa_t 814 (by decide +kernel) (by decide +kernel)
def p_Ch_window (C : Nat) (x1 : Int64) (σ : xb_St) : Int32 × xb_St := (if (p_Ch_isConn C σ) = 0 then ((7 : Int32), σ) else (if x1 < (1 : Int64) then ((7 : Int32), σ) else (if x1 ≤ (1000 : Int64) then ((0 : Int32), (xb_sl σ C 4 ((σ.2 C 4) + x1))) else ((7 : Int32), σ))))
set_option maxHeartbeats 4000000 in
set_option maxRecDepth 100000 in
theorem c_Channel_takeWindow (l : Launch) (D : va_G) (α : Nat → Nat) (κ : Nat → ClassId) (hα : xb_inj α 35) (σ : xb_St) (C : Nat) (x1 : Int64) (iC : sp_isChannel C) : Met l y_Channel_takeWindow w_Channel_takeWindow ({ frames := 1, cells := 0, slots := 0, locals := 20 }) (va_Pc ([.ref (α C), .long x1]) (sp_Pre D α κ σ)) (va_Qi (fun r (u : xb_St) => r = (p_Ch_window C x1 σ).1 ∧ u = (p_Ch_window C x1 σ).2) (sp_B D α κ) (xb_A α 35)) 0 0 (xb_A α 35) := by
  refine Met.ofW (cc := b_Channel_takeWindow) (maxL := 3) (ret := (some .int)) (by decide) rfl ?_
  intro p e s m args below meth c s₁ B_ hml hv
  obtain ⟨rfl, hP, hK, hN⟩ := hv
  have hx := B_.exec
  have hb := B_.bytes
  have hr := B_.returns
  have hts := atoms_spec (ws := w_Channel_takeWindow) B_.pre
  have ht : ∀ w ∈ xa, w.before _ s = true := fun w h => hts w (List.mem_cons_of_mem _ h)
  have hown : s.vm.findClass "SecurePair$Channel" = some m.cls := findClass_of_methodNamed B_.named
  have hlocks := B_.notSynchronized
  have hD := sp_D hα κ
  have hS : va_S (xb_A α 35) s.heap s.heap [] := va_S.rf
  have hl := lv_entry ([.ref (α C), .long x1]) (n := 3) (Nat.le_of_ble_eq_true rfl)
  rw [lg_entry_eq]
  generalize (lg_sl ([.ref (α C), .long x1]) ++ List.replicate (3 - (lg_sl ([.ref (α C), .long x1])).length) Slot.unset).toArray = ls at hl ⊢
  have hl : lv_has ls 3 [(0, .ref (α C)), (1, .long x1)] := hl
  refine lv_aload_n hx hb d_Channel_takeWindow_0 rfl (lv_at hl 0 rfl) ?_
  refine sp_ci (va_runV (As := []) (rest := []) ⟨hx, hb, hml, hown, hts⟩ (c_Channel_isConnected l D α κ hα σ C iC) (cwV 0 hts (xa_V xw810 xw811 xw812 xw9 xw813) rfl rfl rfl (by decide +kernel) ⟨Nat.le_of_ble_eq_true rfl, Nat.le_of_ble_eq_true rfl⟩) ⟨sp_blind, va_recv hK hP rfl (sp_at_Channel iC), sp_pre hP hK hN _⟩ rfl rfl hl.1 rfl (lv_room (Nat.le_of_ble_eq_true rfl)) d_Channel_takeWindow_1 ⟨Nat.le_of_ble_eq_true rfl, Nat.le_of_ble_eq_true rfl⟩) hS (fun _ h_ => h_) (fun H locs hP hS => ?_)
  refine lv_if_eq (tgt := 21) hx hb d_Channel_takeWindow_4 (by decide) (fun c1 => ?_) (fun c1 => ?_)
  · skip
    refine lv_bipush (v := 7) hx hb d_Channel_takeWindow_21 (by decide) ?_
    exact W.iret (v := (7 : Int32)) hx hb hr (fun t ht_ hW => ⟨⟨(7 : Int32), σ, rfl, ⟨congrArg Prod.fst ((((if_pos c1)).symm) : ((7 : Int32), σ) = p_Ch_window C x1 σ), congrArg Prod.snd ((((if_pos c1)).symm) : ((7 : Int32), σ) = p_Ch_window C x1 σ)⟩, by rw [sp_B, ht_]; exact hP⟩, hS.F ht_⟩) hS.2.2 d_Channel_takeWindow_23
  · skip
    refine lv_lload_n hx hb d_Channel_takeWindow_7 rfl (lv_at hl 1 rfl) ?_
    refine lv_lconst (v := 1) hx hb d_Channel_takeWindow_8 (by decide) ?_
    refine xb_llt (tgt := 21) hx hb d_Channel_takeWindow_9 d_Channel_takeWindow_10 (by decide) (fun c2 => ?_) (fun c2 => ?_)
    · skip
      refine lv_bipush (v := 7) hx hb d_Channel_takeWindow_21 (by decide) ?_
      exact W.iret (v := (7 : Int32)) hx hb hr (fun t ht_ hW => ⟨⟨(7 : Int32), σ, rfl, ⟨congrArg Prod.fst ((((if_neg c1).trans ((if_pos c2))).symm) : ((7 : Int32), σ) = p_Ch_window C x1 σ), congrArg Prod.snd ((((if_neg c1).trans ((if_pos c2))).symm) : ((7 : Int32), σ) = p_Ch_window C x1 σ)⟩, by rw [sp_B, ht_]; exact hP⟩, hS.F ht_⟩) hS.2.2 d_Channel_takeWindow_23
    · skip
      refine lv_lload_n hx hb d_Channel_takeWindow_13 rfl (lv_at hl 1 rfl) ?_
      refine lv_ldc2 hx hb hown (ht _ xw814) d_Channel_takeWindow_14 ?_
      refine xb_lle (tgt := 24) hx hb d_Channel_takeWindow_17 d_Channel_takeWindow_18 (by decide) (fun c3 => ?_) (fun c3 => ?_)
      · skip
        refine lv_aload_n hx hb d_Channel_takeWindow_24 rfl (lv_at hl 0 rfl) ?_
        refine lv_dup hx hb d_Channel_takeWindow_25 rfl ?_
        refine sp_g_Channel (v := .long (σ.2 C 4)) hx hb ht hown hK hP iC 4 (by decide) (ht _ xw198) (fun _ h_ => h_) rfl d_Channel_takeWindow_26 ?_
        refine lv_lload_n hx hb d_Channel_takeWindow_29 rfl (lv_at hl 1 rfl) ?_
        refine lv_ladd hx hb d_Channel_takeWindow_30 ?_
        refine sp_pl_Channel (x := ((σ.2 C 4) + x1)) (ty := .long) hx hb ht hown hK hP iC 4 (by decide) (ht _ xw198) (fun _ h_ => h_) hD hS rfl (by decide +kernel) rfl rfl hf_Channel_4 d_Channel_takeWindow_31 (fun H locs hP hS => ?_)
        refine lv_iconst (v := 0) hx hb d_Channel_takeWindow_34 (by decide) ?_
        exact W.iret (v := (0 : Int32)) hx hb hr (fun t ht_ hW => ⟨⟨(0 : Int32), (xb_sl σ C 4 ((σ.2 C 4) + x1)), rfl, ⟨congrArg Prod.fst ((((if_neg c1).trans ((if_neg c2).trans ((if_pos c3)))).symm) : ((0 : Int32), (xb_sl σ C 4 ((σ.2 C 4) + x1))) = p_Ch_window C x1 σ), congrArg Prod.snd ((((if_neg c1).trans ((if_neg c2).trans ((if_pos c3)))).symm) : ((0 : Int32), (xb_sl σ C 4 ((σ.2 C 4) + x1))) = p_Ch_window C x1 σ)⟩, by rw [sp_B, ht_]; exact hP⟩, hS.F ht_⟩) hS.2.2 d_Channel_takeWindow_35
      · skip
        refine lv_bipush (v := 7) hx hb d_Channel_takeWindow_21 (by decide) ?_
        exact W.iret (v := (7 : Int32)) hx hb hr (fun t ht_ hW => ⟨⟨(7 : Int32), σ, rfl, ⟨congrArg Prod.fst ((((if_neg c1).trans ((if_neg c2).trans ((if_neg c3)))).symm) : ((7 : Int32), σ) = p_Ch_window C x1 σ), congrArg Prod.snd ((((if_neg c1).trans ((if_neg c2).trans ((if_neg c3)))).symm) : ((7 : Int32), σ) = p_Ch_window C x1 σ)⟩, by rw [sp_B, ht_]; exact hP⟩, hS.F ht_⟩) hS.2.2 d_Channel_takeWindow_23
theorem ok_p_Ch_window {σ : xb_St} (C : Nat) (x1 : Int64) (iC : sp_isChannel C) (ok : sp_ok σ) : sp_ok (p_Ch_window C x1 σ).2 := by
  unfold p_Ch_window
  by_cases c1 : (p_Ch_isConn C σ) = 0
  · rw [if_pos c1]
    exact ok
  · rw [if_neg c1]
    by_cases c2 : x1 < (1 : Int64)
    · rw [if_pos c2]
      exact ok
    · rw [if_neg c2]
      by_cases c3 : x1 ≤ (1000 : Int64)
      · rw [if_pos c3]
        exact (ok_sl ok)
      · rw [if_neg c3]
        exact ok
abbrev b_Channel_summary : ByteArray := prog_2_method_12_code
def y_Channel_summary : MethodName := ⟨"SecurePair$Channel", "summary", "()J"⟩
abbrev w_Channel_summary : List Cond := .code y_Channel_summary b_Channel_summary 1 (some .long) :: xa
theorem d_Channel_summary_0 : decode b_Channel_summary 0 = .ok (.aload_n 0, 1) := by decide +kernel
theorem d_Channel_summary_1 : decode b_Channel_summary 1 = .ok (.getfield 19, 3) := by decide +kernel
theorem d_Channel_summary_4 : decode b_Channel_summary 4 = .ok (.i2l, 1) := by decide +kernel
theorem d_Channel_summary_5 : decode b_Channel_summary 5 = .ok (.ldc2_w 65, 3) := by decide +kernel
theorem d_Channel_summary_8 : decode b_Channel_summary 8 = .ok (.aload_n 0, 1) := by decide +kernel
theorem d_Channel_summary_9 : decode b_Channel_summary 9 = .ok (.getfield 22, 3) := by decide +kernel
theorem d_Channel_summary_12 : decode b_Channel_summary 12 = .ok (.lmul, 1) := by decide +kernel
theorem d_Channel_summary_13 : decode b_Channel_summary 13 = .ok (.ladd, 1) := by decide +kernel
theorem d_Channel_summary_14 : decode b_Channel_summary 14 = .ok (.ldc2_w 67, 3) := by decide +kernel
theorem d_Channel_summary_17 : decode b_Channel_summary 17 = .ok (.aload_n 0, 1) := by decide +kernel
theorem d_Channel_summary_18 : decode b_Channel_summary 18 = .ok (.getfield 41, 3) := by decide +kernel
theorem d_Channel_summary_21 : decode b_Channel_summary 21 = .ok (.i2l, 1) := by decide +kernel
theorem d_Channel_summary_22 : decode b_Channel_summary 22 = .ok (.lmul, 1) := by decide +kernel
theorem d_Channel_summary_23 : decode b_Channel_summary 23 = .ok (.ladd, 1) := by decide +kernel
theorem d_Channel_summary_24 : decode b_Channel_summary 24 = .ok (.ldc2_w 69, 3) := by decide +kernel
theorem d_Channel_summary_27 : decode b_Channel_summary 27 = .ok (.aload_n 0, 1) := by decide +kernel
theorem d_Channel_summary_28 : decode b_Channel_summary 28 = .ok (.getfield 29, 3) := by decide +kernel
theorem d_Channel_summary_31 : decode b_Channel_summary 31 = .ok (.i2l, 1) := by decide +kernel
theorem d_Channel_summary_32 : decode b_Channel_summary 32 = .ok (.lmul, 1) := by decide +kernel
theorem d_Channel_summary_33 : decode b_Channel_summary 33 = .ok (.ladd, 1) := by decide +kernel
theorem d_Channel_summary_34 : decode b_Channel_summary 34 = .ok (.ldc2_w 71, 3) := by decide +kernel
theorem d_Channel_summary_37 : decode b_Channel_summary 37 = .ok (.aload_n 0, 1) := by decide +kernel
theorem d_Channel_summary_38 : decode b_Channel_summary 38 = .ok (.getfield 26, 3) := by decide +kernel
theorem d_Channel_summary_41 : decode b_Channel_summary 41 = .ok (.lmul, 1) := by decide +kernel
theorem d_Channel_summary_42 : decode b_Channel_summary 42 = .ok (.ladd, 1) := by decide +kernel
theorem d_Channel_summary_43 : decode b_Channel_summary 43 = .ok (.lreturn, 1) := by decide +kernel
theorem xw488 : (Cond.constantLong "SecurePair$Channel" (65 : Nat) (4 : Int64)) ∈ xa := xa_t 488 (by decide +kernel) (by decide +kernel)
theorem xw489 : (Cond.constantLong "SecurePair$Channel" (67 : Nat) (16 : Int64)) ∈ xa := xa_t 489 (by decide +kernel) (by decide +kernel)
theorem xw490 : (Cond.constantLong "SecurePair$Channel" (69 : Nat) (1024 : Int64)) ∈ xa := xa_t 490 (by decide +kernel) (by decide +kernel)
theorem xw491 : (Cond.constantLong "SecurePair$Channel" (71 : Nat) (65536 : Int64)) ∈ xa := xa_t 491 (by decide +kernel) (by decide +kernel)
def p_Ch_summary (C : Nat) (σ : xb_St) : Int64 := (((((σ.1 C 2).toInt64 + ((4 : Int64) * (σ.2 C 3))) + ((16 : Int64) * (σ.1 C 7).toInt64)) + ((1024 : Int64) * (σ.1 C 5).toInt64)) + ((65536 : Int64) * (σ.2 C 4)))
set_option maxHeartbeats 4000000 in
set_option maxRecDepth 100000 in
theorem c_Channel_summary (l : Launch) (D : va_G) (α : Nat → Nat) (κ : Nat → ClassId) (hα : xb_inj α 35) (σ : xb_St) (C : Nat) (iC : sp_isChannel C) : Met l y_Channel_summary w_Channel_summary ({ frames := 0, cells := 0, slots := 0, locals := 0 }) (va_Pc ([.ref (α C)]) (sp_Pre D α κ σ)) (va_Ql (fun r (u : xb_St) => r = p_Ch_summary C σ ∧ u = σ) (sp_B D α κ) (xb_A α 35)) 0 0 (xb_A α 35) := by
  refine Met.ofW (cc := b_Channel_summary) (maxL := 1) (ret := (some .long)) (by decide) rfl ?_
  intro p e s m args below meth c s₁ B_ hml hv
  obtain ⟨rfl, hP, hK, hN⟩ := hv
  have hx := B_.exec
  have hb := B_.bytes
  have hr := B_.returns
  have hts := atoms_spec (ws := w_Channel_summary) B_.pre
  have ht : ∀ w ∈ xa, w.before _ s = true := fun w h => hts w (List.mem_cons_of_mem _ h)
  have hown : s.vm.findClass "SecurePair$Channel" = some m.cls := findClass_of_methodNamed B_.named
  have hlocks := B_.notSynchronized
  have hD := sp_D hα κ
  have hS : va_S (xb_A α 35) s.heap s.heap [] := va_S.rf
  have hl := lv_entry ([.ref (α C)]) (n := 1) (Nat.le_of_ble_eq_true rfl)
  rw [lg_entry_eq]
  generalize (lg_sl ([.ref (α C)]) ++ List.replicate (1 - (lg_sl ([.ref (α C)])).length) Slot.unset).toArray = ls at hl ⊢
  have hl : lv_has ls 1 [(0, .ref (α C))] := hl
  refine lv_aload_n hx hb d_Channel_summary_0 rfl (lv_at hl 0 rfl) ?_
  refine sp_g_Channel (v := .int (σ.1 C 2)) hx hb ht hown hK hP iC 2 (by decide) (ht _ xw194) (fun _ h_ => h_) rfl d_Channel_summary_1 ?_
  refine lv_i2l (v := (σ.1 C 2).toInt64) hx hb d_Channel_summary_4 (by rfl) ?_
  refine lv_ldc2 hx hb hown (ht _ xw488) d_Channel_summary_5 ?_
  refine lv_aload_n hx hb d_Channel_summary_8 rfl (lv_at hl 0 rfl) ?_
  refine sp_g_Channel (v := .long (σ.2 C 3)) hx hb ht hown hK hP iC 3 (by decide) (ht _ xw196) (fun _ h_ => h_) rfl d_Channel_summary_9 ?_
  refine lv_lmul hx hb d_Channel_summary_12 ?_
  refine lv_ladd hx hb d_Channel_summary_13 ?_
  refine lv_ldc2 hx hb hown (ht _ xw489) d_Channel_summary_14 ?_
  refine lv_aload_n hx hb d_Channel_summary_17 rfl (lv_at hl 0 rfl) ?_
  refine sp_g_Channel (v := .int (σ.1 C 7)) hx hb ht hown hK hP iC 7 (by decide) (ht _ xw203) (fun _ h_ => h_) rfl d_Channel_summary_18 ?_
  refine lv_i2l (v := (σ.1 C 7).toInt64) hx hb d_Channel_summary_21 (by rfl) ?_
  refine lv_lmul hx hb d_Channel_summary_22 ?_
  refine lv_ladd hx hb d_Channel_summary_23 ?_
  refine lv_ldc2 hx hb hown (ht _ xw490) d_Channel_summary_24 ?_
  refine lv_aload_n hx hb d_Channel_summary_27 rfl (lv_at hl 0 rfl) ?_
  refine sp_g_Channel (v := .int (σ.1 C 5)) hx hb ht hown hK hP iC 5 (by decide) (ht _ xw200) (fun _ h_ => h_) rfl d_Channel_summary_28 ?_
  refine lv_i2l (v := (σ.1 C 5).toInt64) hx hb d_Channel_summary_31 (by rfl) ?_
  refine lv_lmul hx hb d_Channel_summary_32 ?_
  refine lv_ladd hx hb d_Channel_summary_33 ?_
  refine lv_ldc2 hx hb hown (ht _ xw491) d_Channel_summary_34 ?_
  refine lv_aload_n hx hb d_Channel_summary_37 rfl (lv_at hl 0 rfl) ?_
  refine sp_g_Channel (v := .long (σ.2 C 4)) hx hb ht hown hK hP iC 4 (by decide) (ht _ xw198) (fun _ h_ => h_) rfl d_Channel_summary_38 ?_
  refine lv_lmul hx hb d_Channel_summary_41 ?_
  refine lv_ladd hx hb d_Channel_summary_42 ?_
  exact W.lret (v := (((((σ.1 C 2).toInt64 + ((4 : Int64) * (σ.2 C 3))) + ((16 : Int64) * (σ.1 C 7).toInt64)) + ((1024 : Int64) * (σ.1 C 5).toInt64)) + ((65536 : Int64) * (σ.2 C 4)))) hx hb hr (fun t ht_ hW => ⟨⟨(((((σ.1 C 2).toInt64 + ((4 : Int64) * (σ.2 C 3))) + ((16 : Int64) * (σ.1 C 7).toInt64)) + ((1024 : Int64) * (σ.1 C 5).toInt64)) + ((65536 : Int64) * (σ.2 C 4))), σ, rfl, ⟨rfl, rfl⟩, by rw [sp_B, ht_]; exact hP⟩, hS.F ht_⟩) hS.2.2 d_Channel_summary_43
abbrev b_Endpoint_mayStart : ByteArray := prog_4_method_5_code
def y_Endpoint_mayStart : MethodName := ⟨"SecurePair$Endpoint", "mayStart", "()Z"⟩
abbrev w_Endpoint_mayStart : List Cond := .code y_Endpoint_mayStart b_Endpoint_mayStart 1 (some .boolean) :: xa
theorem d_Endpoint_mayStart_0 : decode b_Endpoint_mayStart 0 = .ok (.aload_n 0, 1) := by decide +kernel
theorem d_Endpoint_mayStart_1 : decode b_Endpoint_mayStart 1 = .ok (.getfield 44, 3) := by decide +kernel
theorem d_Endpoint_mayStart_4 : decode b_Endpoint_mayStart 4 = .ok (.ifCond .eq 11, 3) := by decide +kernel
theorem d_Endpoint_mayStart_7 : decode b_Endpoint_mayStart 7 = .ok (.aload_n 0, 1) := by decide +kernel
theorem d_Endpoint_mayStart_8 : decode b_Endpoint_mayStart 8 = .ok (.getfield 44, 3) := by decide +kernel
theorem d_Endpoint_mayStart_11 : decode b_Endpoint_mayStart 11 = .ok (.iconst 4, 1) := by decide +kernel
theorem d_Endpoint_mayStart_12 : decode b_Endpoint_mayStart 12 = .ok (.if_icmp .ne 7, 3) := by decide +kernel
theorem d_Endpoint_mayStart_15 : decode b_Endpoint_mayStart 15 = .ok (.iconst 1, 1) := by decide +kernel
theorem d_Endpoint_mayStart_16 : decode b_Endpoint_mayStart 16 = .ok (.goto 4, 3) := by decide +kernel
theorem d_Endpoint_mayStart_19 : decode b_Endpoint_mayStart 19 = .ok (.iconst 0, 1) := by decide +kernel
theorem d_Endpoint_mayStart_20 : decode b_Endpoint_mayStart 20 = .ok (.ireturn, 1) := by decide +kernel
theorem xw245 : (Cond.fieldLink "SecurePair$Endpoint" (44 : Nat) "SecurePair$Endpoint" "phase" "I") ∈ xa := xa_t 245 (by decide +kernel) (by decide +kernel)
def p_mayStart (B : Nat) (σ : xb_St) : Int32 := (if (σ.1 B 9) = 0 then (1 : Int32) else (if (σ.1 B 9) = (4 : Int32) then (1 : Int32) else (0 : Int32)))
set_option maxHeartbeats 4000000 in
set_option maxRecDepth 100000 in
theorem c_Endpoint_mayStart (l : Launch) (D : va_G) (α : Nat → Nat) (κ : Nat → ClassId) (hα : xb_inj α 35) (σ : xb_St) (B : Nat) (iB : sp_isEndpoint B) : Met l y_Endpoint_mayStart w_Endpoint_mayStart ({ frames := 0, cells := 0, slots := 0, locals := 0 }) (va_Pc ([.ref (α B)]) (sp_Pre D α κ σ)) (va_Qi (fun r (u : xb_St) => r = p_mayStart B σ ∧ u = σ) (sp_B D α κ) (xb_A α 35)) 0 0 (xb_A α 35) := by
  refine Met.ofW (cc := b_Endpoint_mayStart) (maxL := 1) (ret := (some .boolean)) (by decide) rfl ?_
  intro p e s m args below meth c s₁ B_ hml hv
  obtain ⟨rfl, hP, hK, hN⟩ := hv
  have hx := B_.exec
  have hb := B_.bytes
  have hr := B_.returns
  have hts := atoms_spec (ws := w_Endpoint_mayStart) B_.pre
  have ht : ∀ w ∈ xa, w.before _ s = true := fun w h => hts w (List.mem_cons_of_mem _ h)
  have hown : s.vm.findClass "SecurePair$Endpoint" = some m.cls := findClass_of_methodNamed B_.named
  have hlocks := B_.notSynchronized
  have hD := sp_D hα κ
  have hS : va_S (xb_A α 35) s.heap s.heap [] := va_S.rf
  have hlA := sp_lnA_is iB
  have hlD := sp_lnD_is iB
  have hln := sp_ln_ne iB
  have hl := lv_entry ([.ref (α B)]) (n := 1) (Nat.le_of_ble_eq_true rfl)
  rw [lg_entry_eq]
  generalize (lg_sl ([.ref (α B)]) ++ List.replicate (1 - (lg_sl ([.ref (α B)])).length) Slot.unset).toArray = ls at hl ⊢
  have hl : lv_has ls 1 [(0, .ref (α B))] := hl
  refine lv_aload_n hx hb d_Endpoint_mayStart_0 rfl (lv_at hl 0 rfl) ?_
  refine sp_g_Endpoint (v := .int (σ.1 B 9)) hx hb ht hown hK hP iB 9 (by decide) (ht _ xw245) (fun _ h_ => h_) rfl d_Endpoint_mayStart_1 ?_
  refine lv_if_eq (tgt := 15) hx hb d_Endpoint_mayStart_4 (by decide) (fun c1 => ?_) (fun c1 => ?_)
  · skip
    refine lv_iconst (v := 1) hx hb d_Endpoint_mayStart_15 (by decide) ?_
    refine lv_goto (tgt := 20) hx hb d_Endpoint_mayStart_16 (by decide) ?_
    exact W.zret (v := (1 : Int32)) hx hb hr rfl (fun t ht_ hW => ⟨⟨(1 : Int32), σ, rfl, ⟨((if_pos c1)).symm, rfl⟩, by rw [sp_B, ht_]; exact hP⟩, hS.F ht_⟩) hS.2.2 d_Endpoint_mayStart_20
  · skip
    refine lv_aload_n hx hb d_Endpoint_mayStart_7 rfl (lv_at hl 0 rfl) ?_
    refine sp_g_Endpoint (v := .int (σ.1 B 9)) hx hb ht hown hK hP iB 9 (by decide) (ht _ xw245) (fun _ h_ => h_) rfl d_Endpoint_mayStart_8 ?_
    refine lv_iconst (v := 4) hx hb d_Endpoint_mayStart_11 (by decide) ?_
    refine lv_icmp_ne (tgt := 19) hx hb d_Endpoint_mayStart_12 (by decide) (fun c2 => ?_) (fun c2 => ?_)
    · skip
      refine lv_iconst (v := 0) hx hb d_Endpoint_mayStart_19 (by decide) ?_
      exact W.zret (v := (0 : Int32)) hx hb hr rfl (fun t ht_ hW => ⟨⟨(0 : Int32), σ, rfl, ⟨((if_neg c1).trans ((if_neg c2))).symm, rfl⟩, by rw [sp_B, ht_]; exact hP⟩, hS.F ht_⟩) hS.2.2 d_Endpoint_mayStart_20
    · skip
      refine lv_iconst (v := 1) hx hb d_Endpoint_mayStart_15 (by decide) ?_
      refine lv_goto (tgt := 20) hx hb d_Endpoint_mayStart_16 (by decide) ?_
      exact W.zret (v := (1 : Int32)) hx hb hr rfl (fun t ht_ hW => ⟨⟨(1 : Int32), σ, rfl, ⟨((if_neg c1).trans ((if_pos c2))).symm, rfl⟩, by rw [sp_B, ht_]; exact hP⟩, hS.F ht_⟩) hS.2.2 d_Endpoint_mayStart_20
abbrev b_Endpoint_ownInit : ByteArray := prog_4_method_7_code
def y_Endpoint_ownInit : MethodName := ⟨"SecurePair$Endpoint", "ownInit", "()LSecurePair$Init;"⟩
abbrev w_Endpoint_ownInit : List Cond := .code y_Endpoint_ownInit b_Endpoint_ownInit 1 (some (.object "SecurePair$Init")) :: xa
theorem d_Endpoint_ownInit_0 : decode b_Endpoint_ownInit 0 = .ok (.aload_n 0, 1) := by decide +kernel
theorem d_Endpoint_ownInit_1 : decode b_Endpoint_ownInit 1 = .ok (.getfield 61, 3) := by decide +kernel
theorem d_Endpoint_ownInit_4 : decode b_Endpoint_ownInit 4 = .ok (.iconst 1, 1) := by decide +kernel
theorem d_Endpoint_ownInit_5 : decode b_Endpoint_ownInit 5 = .ok (.if_icmp .ne 13, 3) := by decide +kernel
theorem d_Endpoint_ownInit_8 : decode b_Endpoint_ownInit 8 = .ok (.aload_n 0, 1) := by decide +kernel
theorem d_Endpoint_ownInit_9 : decode b_Endpoint_ownInit 9 = .ok (.getfield 34, 3) := by decide +kernel
theorem d_Endpoint_ownInit_12 : decode b_Endpoint_ownInit 12 = .ok (.getfield 94, 3) := by decide +kernel
theorem d_Endpoint_ownInit_15 : decode b_Endpoint_ownInit 15 = .ok (.goto 10, 3) := by decide +kernel
theorem d_Endpoint_ownInit_18 : decode b_Endpoint_ownInit 18 = .ok (.aload_n 0, 1) := by decide +kernel
theorem d_Endpoint_ownInit_19 : decode b_Endpoint_ownInit 19 = .ok (.getfield 34, 3) := by decide +kernel
theorem d_Endpoint_ownInit_22 : decode b_Endpoint_ownInit 22 = .ok (.getfield 98, 3) := by decide +kernel
theorem d_Endpoint_ownInit_25 : decode b_Endpoint_ownInit 25 = .ok (.areturn, 1) := by decide +kernel
theorem xw152 : (Cond.fieldLink "SecurePair$Endpoint" (94 : Nat) "SecurePair$Exchange" "ofClient" "LSecurePair$Init;") ∈ xa := xa_t 152 (by decide +kernel) (by decide +kernel)
theorem xw154 : (Cond.fieldLink "SecurePair$Endpoint" (98 : Nat) "SecurePair$Exchange" "ofServer" "LSecurePair$Init;") ∈ xa := xa_t 154 (by decide +kernel) (by decide +kernel)
theorem xw232 : (Cond.fieldLink "SecurePair$Endpoint" (61 : Nat) "SecurePair$Endpoint" "direction" "I") ∈ xa := xa_t 232 (by decide +kernel) (by decide +kernel)
theorem xw239 : (Cond.fieldLink "SecurePair$Endpoint" (34 : Nat) "SecurePair$Endpoint" "exchange" "LSecurePair$Exchange;") ∈ xa := xa_t 239 (by decide +kernel) (by decide +kernel)
def p_ownInit (B : Nat) (σ : xb_St) : Option Nat := (if (σ.1 B 2) = (1 : Int32) then (some (B + 5 + 1)) else (some (B + 5 + 2)))
set_option maxHeartbeats 4000000 in
set_option maxRecDepth 100000 in
theorem c_Endpoint_ownInit (l : Launch) (D : va_G) (α : Nat → Nat) (κ : Nat → ClassId) (hα : xb_inj α 35) (σ : xb_St) (B : Nat) (iB : sp_isEndpoint B) : Met l y_Endpoint_ownInit w_Endpoint_ownInit ({ frames := 0, cells := 0, slots := 0, locals := 0 }) (va_Pc ([.ref (α B)]) (sp_Pre D α κ σ)) (va_Qq (fun r (u : xb_St) => r = (p_ownInit B σ).map α ∧ u = σ) (sp_B D α κ) (xb_A α 35)) 0 0 (xb_A α 35) := by
  refine Met.ofW (cc := b_Endpoint_ownInit) (maxL := 1) (ret := (some (.object "SecurePair$Init"))) (by decide) rfl ?_
  intro p e s m args below meth c s₁ B_ hml hv
  obtain ⟨rfl, hP, hK, hN⟩ := hv
  have hx := B_.exec
  have hb := B_.bytes
  have hr := B_.returns
  have hts := atoms_spec (ws := w_Endpoint_ownInit) B_.pre
  have ht : ∀ w ∈ xa, w.before _ s = true := fun w h => hts w (List.mem_cons_of_mem _ h)
  have hown : s.vm.findClass "SecurePair$Endpoint" = some m.cls := findClass_of_methodNamed B_.named
  have hlocks := B_.notSynchronized
  have hD := sp_D hα κ
  have hS : va_S (xb_A α 35) s.heap s.heap [] := va_S.rf
  have hlA := sp_lnA_is iB
  have hlD := sp_lnD_is iB
  have hln := sp_ln_ne iB
  have hl := lv_entry ([.ref (α B)]) (n := 1) (Nat.le_of_ble_eq_true rfl)
  rw [lg_entry_eq]
  generalize (lg_sl ([.ref (α B)]) ++ List.replicate (1 - (lg_sl ([.ref (α B)])).length) Slot.unset).toArray = ls at hl ⊢
  have hl : lv_has ls 1 [(0, .ref (α B))] := hl
  refine lv_aload_n hx hb d_Endpoint_ownInit_0 rfl (lv_at hl 0 rfl) ?_
  refine sp_g_Endpoint (v := .int (σ.1 B 2)) hx hb ht hown hK hP iB 2 (by decide) (ht _ xw232) (fun _ h_ => h_) rfl d_Endpoint_ownInit_1 ?_
  refine lv_iconst (v := 1) hx hb d_Endpoint_ownInit_4 (by decide) ?_
  refine lv_icmp_ne (tgt := 18) hx hb d_Endpoint_ownInit_5 (by decide) (fun c1 => ?_) (fun c1 => ?_)
  · skip
    refine lv_aload_n hx hb d_Endpoint_ownInit_18 rfl (lv_at hl 0 rfl) ?_
    refine sp_g_Endpoint (v := .ref (α (B + 5))) hx hb ht hown hK hP iB 7 (by decide) (ht _ xw239) (fun _ h_ => h_) rfl d_Endpoint_ownInit_19 ?_
    refine sp_g_Exchange (v := .ref (α (B + 5 + 2))) hx hb ht hown hK hP (by omega) 1 (by decide) (ht _ xw154) (fun _ h_ => h_) rfl d_Endpoint_ownInit_22 ?_
    exact W.aret (v := .ref (α (B + 5 + 2))) hx hb hr (Or.inl ⟨_, rfl⟩) (Or.inr ⟨_, rfl⟩) (fun t ht_ hW => ⟨⟨some (α (B + 5 + 2)), σ, rfl, ⟨(congrArg (Option.map α) ((((if_neg c1)).symm) : (some (B + 5 + 2)) = p_ownInit B σ)), rfl⟩, by rw [sp_B, ht_]; exact hP⟩, hS.F ht_⟩) hS.2.2 d_Endpoint_ownInit_25
  · skip
    refine lv_aload_n hx hb d_Endpoint_ownInit_8 rfl (lv_at hl 0 rfl) ?_
    refine sp_g_Endpoint (v := .ref (α (B + 5))) hx hb ht hown hK hP iB 7 (by decide) (ht _ xw239) (fun _ h_ => h_) rfl d_Endpoint_ownInit_9 ?_
    refine sp_g_Exchange (v := .ref (α (B + 5 + 1))) hx hb ht hown hK hP (by omega) 0 (by decide) (ht _ xw152) (fun _ h_ => h_) rfl d_Endpoint_ownInit_12 ?_
    refine lv_goto (tgt := 25) hx hb d_Endpoint_ownInit_15 (by decide) ?_
    exact W.aret (v := .ref (α (B + 5 + 1))) hx hb hr (Or.inl ⟨_, rfl⟩) (Or.inr ⟨_, rfl⟩) (fun t ht_ hW => ⟨⟨some (α (B + 5 + 1)), σ, rfl, ⟨(congrArg (Option.map α) ((((if_pos c1)).symm) : (some (B + 5 + 1)) = p_ownInit B σ)), rfl⟩, by rw [sp_B, ht_]; exact hP⟩, hS.F ht_⟩) hS.2.2 d_Endpoint_ownInit_25
abbrev b_Endpoint_peerInit : ByteArray := prog_4_method_8_code
def y_Endpoint_peerInit : MethodName := ⟨"SecurePair$Endpoint", "peerInit", "()LSecurePair$Init;"⟩
abbrev w_Endpoint_peerInit : List Cond := .code y_Endpoint_peerInit b_Endpoint_peerInit 1 (some (.object "SecurePair$Init")) :: xa
theorem d_Endpoint_peerInit_0 : decode b_Endpoint_peerInit 0 = .ok (.aload_n 0, 1) := by decide +kernel
theorem d_Endpoint_peerInit_1 : decode b_Endpoint_peerInit 1 = .ok (.getfield 61, 3) := by decide +kernel
theorem d_Endpoint_peerInit_4 : decode b_Endpoint_peerInit 4 = .ok (.iconst 1, 1) := by decide +kernel
theorem d_Endpoint_peerInit_5 : decode b_Endpoint_peerInit 5 = .ok (.if_icmp .ne 13, 3) := by decide +kernel
theorem d_Endpoint_peerInit_8 : decode b_Endpoint_peerInit 8 = .ok (.aload_n 0, 1) := by decide +kernel
theorem d_Endpoint_peerInit_9 : decode b_Endpoint_peerInit 9 = .ok (.getfield 34, 3) := by decide +kernel
theorem d_Endpoint_peerInit_12 : decode b_Endpoint_peerInit 12 = .ok (.getfield 98, 3) := by decide +kernel
theorem d_Endpoint_peerInit_15 : decode b_Endpoint_peerInit 15 = .ok (.goto 10, 3) := by decide +kernel
theorem d_Endpoint_peerInit_18 : decode b_Endpoint_peerInit 18 = .ok (.aload_n 0, 1) := by decide +kernel
theorem d_Endpoint_peerInit_19 : decode b_Endpoint_peerInit 19 = .ok (.getfield 34, 3) := by decide +kernel
theorem d_Endpoint_peerInit_22 : decode b_Endpoint_peerInit 22 = .ok (.getfield 94, 3) := by decide +kernel
theorem d_Endpoint_peerInit_25 : decode b_Endpoint_peerInit 25 = .ok (.areturn, 1) := by decide +kernel
def p_peerInit (B : Nat) (σ : xb_St) : Option Nat := (if (σ.1 B 2) = (1 : Int32) then (some (B + 5 + 2)) else (some (B + 5 + 1)))
set_option maxHeartbeats 4000000 in
set_option maxRecDepth 100000 in
theorem c_Endpoint_peerInit (l : Launch) (D : va_G) (α : Nat → Nat) (κ : Nat → ClassId) (hα : xb_inj α 35) (σ : xb_St) (B : Nat) (iB : sp_isEndpoint B) : Met l y_Endpoint_peerInit w_Endpoint_peerInit ({ frames := 0, cells := 0, slots := 0, locals := 0 }) (va_Pc ([.ref (α B)]) (sp_Pre D α κ σ)) (va_Qq (fun r (u : xb_St) => r = (p_peerInit B σ).map α ∧ u = σ) (sp_B D α κ) (xb_A α 35)) 0 0 (xb_A α 35) := by
  refine Met.ofW (cc := b_Endpoint_peerInit) (maxL := 1) (ret := (some (.object "SecurePair$Init"))) (by decide) rfl ?_
  intro p e s m args below meth c s₁ B_ hml hv
  obtain ⟨rfl, hP, hK, hN⟩ := hv
  have hx := B_.exec
  have hb := B_.bytes
  have hr := B_.returns
  have hts := atoms_spec (ws := w_Endpoint_peerInit) B_.pre
  have ht : ∀ w ∈ xa, w.before _ s = true := fun w h => hts w (List.mem_cons_of_mem _ h)
  have hown : s.vm.findClass "SecurePair$Endpoint" = some m.cls := findClass_of_methodNamed B_.named
  have hlocks := B_.notSynchronized
  have hD := sp_D hα κ
  have hS : va_S (xb_A α 35) s.heap s.heap [] := va_S.rf
  have hlA := sp_lnA_is iB
  have hlD := sp_lnD_is iB
  have hln := sp_ln_ne iB
  have hl := lv_entry ([.ref (α B)]) (n := 1) (Nat.le_of_ble_eq_true rfl)
  rw [lg_entry_eq]
  generalize (lg_sl ([.ref (α B)]) ++ List.replicate (1 - (lg_sl ([.ref (α B)])).length) Slot.unset).toArray = ls at hl ⊢
  have hl : lv_has ls 1 [(0, .ref (α B))] := hl
  refine lv_aload_n hx hb d_Endpoint_peerInit_0 rfl (lv_at hl 0 rfl) ?_
  refine sp_g_Endpoint (v := .int (σ.1 B 2)) hx hb ht hown hK hP iB 2 (by decide) (ht _ xw232) (fun _ h_ => h_) rfl d_Endpoint_peerInit_1 ?_
  refine lv_iconst (v := 1) hx hb d_Endpoint_peerInit_4 (by decide) ?_
  refine lv_icmp_ne (tgt := 18) hx hb d_Endpoint_peerInit_5 (by decide) (fun c1 => ?_) (fun c1 => ?_)
  · skip
    refine lv_aload_n hx hb d_Endpoint_peerInit_18 rfl (lv_at hl 0 rfl) ?_
    refine sp_g_Endpoint (v := .ref (α (B + 5))) hx hb ht hown hK hP iB 7 (by decide) (ht _ xw239) (fun _ h_ => h_) rfl d_Endpoint_peerInit_19 ?_
    refine sp_g_Exchange (v := .ref (α (B + 5 + 1))) hx hb ht hown hK hP (by omega) 0 (by decide) (ht _ xw152) (fun _ h_ => h_) rfl d_Endpoint_peerInit_22 ?_
    exact W.aret (v := .ref (α (B + 5 + 1))) hx hb hr (Or.inl ⟨_, rfl⟩) (Or.inr ⟨_, rfl⟩) (fun t ht_ hW => ⟨⟨some (α (B + 5 + 1)), σ, rfl, ⟨(congrArg (Option.map α) ((((if_neg c1)).symm) : (some (B + 5 + 1)) = p_peerInit B σ)), rfl⟩, by rw [sp_B, ht_]; exact hP⟩, hS.F ht_⟩) hS.2.2 d_Endpoint_peerInit_25
  · skip
    refine lv_aload_n hx hb d_Endpoint_peerInit_8 rfl (lv_at hl 0 rfl) ?_
    refine sp_g_Endpoint (v := .ref (α (B + 5))) hx hb ht hown hK hP iB 7 (by decide) (ht _ xw239) (fun _ h_ => h_) rfl d_Endpoint_peerInit_9 ?_
    refine sp_g_Exchange (v := .ref (α (B + 5 + 2))) hx hb ht hown hK hP (by omega) 1 (by decide) (ht _ xw154) (fun _ h_ => h_) rfl d_Endpoint_peerInit_12 ?_
    refine lv_goto (tgt := 25) hx hb d_Endpoint_peerInit_15 (by decide) ?_
    exact W.aret (v := .ref (α (B + 5 + 2))) hx hb hr (Or.inl ⟨_, rfl⟩) (Or.inr ⟨_, rfl⟩) (fun t ht_ hW => ⟨⟨some (α (B + 5 + 2)), σ, rfl, ⟨(congrArg (Option.map α) ((((if_pos c1)).symm) : (some (B + 5 + 2)) = p_peerInit B σ)), rfl⟩, by rw [sp_B, ht_]; exact hP⟩, hS.F ht_⟩) hS.2.2 d_Endpoint_peerInit_25
abbrev b_Endpoint_die : ByteArray := prog_4_method_11_code
def y_Endpoint_die : MethodName := ⟨"SecurePair$Endpoint", "die", "(J)V"⟩
abbrev w_Endpoint_die : List Cond := .code y_Endpoint_die b_Endpoint_die 3 none :: xa
theorem d_Endpoint_die_0 : decode b_Endpoint_die 0 = .ok (.aload_n 0, 1) := by decide +kernel
theorem d_Endpoint_die_1 : decode b_Endpoint_die 1 = .ok (.iconst 5, 1) := by decide +kernel
theorem d_Endpoint_die_2 : decode b_Endpoint_die 2 = .ok (.putfield 44, 3) := by decide +kernel
theorem d_Endpoint_die_5 : decode b_Endpoint_die 5 = .ok (.aload_n 0, 1) := by decide +kernel
theorem d_Endpoint_die_6 : decode b_Endpoint_die 6 = .ok (.lload_n 1, 1) := by decide +kernel
theorem d_Endpoint_die_7 : decode b_Endpoint_die 7 = .ok (.putfield 139, 3) := by decide +kernel
theorem d_Endpoint_die_10 : decode b_Endpoint_die 10 = .ok (.return_, 1) := by decide +kernel
theorem xw251 : (Cond.fieldLink "SecurePair$Endpoint" (139 : Nat) "SecurePair$Endpoint" "reason" "J") ∈ xa := xa_t 251 (by decide +kernel) (by decide +kernel)
def p_die (B : Nat) (x1 : Int64) (σ : xb_St) : xb_St := (xb_sl (xb_si σ B 9 (5 : Int32)) B 10 x1)
set_option maxHeartbeats 4000000 in
set_option maxRecDepth 100000 in
theorem c_Endpoint_die (l : Launch) (D : va_G) (α : Nat → Nat) (κ : Nat → ClassId) (hα : xb_inj α 35) (σ : xb_St) (B : Nat) (x1 : Int64) (iB : sp_isEndpoint B) : Met l y_Endpoint_die w_Endpoint_die ({ frames := 0, cells := 0, slots := 0, locals := 0 }) (va_Pc ([.ref (α B), .long x1]) (sp_Pre D α κ σ)) (va_Qv (fun u : xb_St => u = p_die B x1 σ) (sp_B D α κ) (xb_A α 35)) 0 0 (xb_A α 35) := by
  refine Met.ofW (cc := b_Endpoint_die) (maxL := 3) (ret := none) (by decide) rfl ?_
  intro p e s m args below meth c s₁ B_ hml hv
  obtain ⟨rfl, hP, hK, hN⟩ := hv
  have hx := B_.exec
  have hb := B_.bytes
  have hr := B_.returns
  have hts := atoms_spec (ws := w_Endpoint_die) B_.pre
  have ht : ∀ w ∈ xa, w.before _ s = true := fun w h => hts w (List.mem_cons_of_mem _ h)
  have hown : s.vm.findClass "SecurePair$Endpoint" = some m.cls := findClass_of_methodNamed B_.named
  have hlocks := B_.notSynchronized
  have hD := sp_D hα κ
  have hS : va_S (xb_A α 35) s.heap s.heap [] := va_S.rf
  have hlA := sp_lnA_is iB
  have hlD := sp_lnD_is iB
  have hln := sp_ln_ne iB
  have hl := lv_entry ([.ref (α B), .long x1]) (n := 3) (Nat.le_of_ble_eq_true rfl)
  rw [lg_entry_eq]
  generalize (lg_sl ([.ref (α B), .long x1]) ++ List.replicate (3 - (lg_sl ([.ref (α B), .long x1])).length) Slot.unset).toArray = ls at hl ⊢
  have hl : lv_has ls 3 [(0, .ref (α B)), (1, .long x1)] := hl
  refine lv_aload_n hx hb d_Endpoint_die_0 rfl (lv_at hl 0 rfl) ?_
  refine lv_iconst (v := 5) hx hb d_Endpoint_die_1 (by decide) ?_
  refine sp_pi_Endpoint (x := (5 : Int32)) (ty := .int) hx hb ht hown hK hP iB 9 (by decide) (ht _ xw245) (fun _ h_ => h_) hD hS rfl (by decide +kernel) rfl rfl hf_Endpoint_9 d_Endpoint_die_2 (fun H locs hP hS => ?_)
  refine lv_aload_n hx hb d_Endpoint_die_5 rfl (lv_at hl 0 rfl) ?_
  refine lv_lload_n hx hb d_Endpoint_die_6 rfl (lv_at hl 1 rfl) ?_
  refine sp_pl_Endpoint (x := x1) (ty := .long) hx hb ht hown hK hP iB 10 (by decide) (ht _ xw251) (fun _ h_ => h_) hD hS rfl (by decide +kernel) rfl rfl hf_Endpoint_10 d_Endpoint_die_7 (fun H locs hP hS => ?_)
  exact W.vret hx hb hr (fun t ht_ hW => ⟨⟨(xb_sl (xb_si σ B 9 (5 : Int32)) B 10 x1), rfl, rfl, by rw [sp_B, ht_]; exact hP⟩, hS.F ht_⟩) hS.2.2 d_Endpoint_die_10
theorem ok_p_die {σ : xb_St} (B : Nat) (x1 : Int64) (iB : sp_isEndpoint B) (ok : sp_ok σ) : sp_ok (p_die B x1 σ) := by
  have hlA := sp_lnA_is iB
  have hlD := sp_lnD_is iB
  have hln := sp_ln_ne iB
  unfold p_die
  exact (ok_sl (ok_si ok (by omega) (by omega)))
abbrev b_Endpoint_mayUse : ByteArray := prog_4_method_22_code
def y_Endpoint_mayUse : MethodName := ⟨"SecurePair$Endpoint", "mayUse", "(LSecurePair$Channel;)Z"⟩
abbrev w_Endpoint_mayUse : List Cond := .code y_Endpoint_mayUse b_Endpoint_mayUse 2 (some .boolean) :: xa
theorem d_Endpoint_mayUse_0 : decode b_Endpoint_mayUse 0 = .ok (.aload_n 0, 1) := by decide +kernel
theorem d_Endpoint_mayUse_1 : decode b_Endpoint_mayUse 1 = .ok (.getfield 44, 3) := by decide +kernel
theorem d_Endpoint_mayUse_4 : decode b_Endpoint_mayUse 4 = .ok (.iconst 4, 1) := by decide +kernel
theorem d_Endpoint_mayUse_5 : decode b_Endpoint_mayUse 5 = .ok (.if_icmp .ne 15, 3) := by decide +kernel
theorem d_Endpoint_mayUse_8 : decode b_Endpoint_mayUse 8 = .ok (.aload_n 1, 1) := by decide +kernel
theorem d_Endpoint_mayUse_9 : decode b_Endpoint_mayUse 9 = .ok (.getfield 249, 3) := by decide +kernel
theorem d_Endpoint_mayUse_12 : decode b_Endpoint_mayUse 12 = .ok (.iconst 2, 1) := by decide +kernel
theorem d_Endpoint_mayUse_13 : decode b_Endpoint_mayUse 13 = .ok (.if_icmp .ne 7, 3) := by decide +kernel
theorem d_Endpoint_mayUse_16 : decode b_Endpoint_mayUse 16 = .ok (.iconst 1, 1) := by decide +kernel
theorem d_Endpoint_mayUse_17 : decode b_Endpoint_mayUse 17 = .ok (.goto 4, 3) := by decide +kernel
theorem d_Endpoint_mayUse_20 : decode b_Endpoint_mayUse 20 = .ok (.iconst 0, 1) := by decide +kernel
theorem d_Endpoint_mayUse_21 : decode b_Endpoint_mayUse 21 = .ok (.ireturn, 1) := by decide +kernel
theorem xw195 : (Cond.fieldLink "SecurePair$Endpoint" (249 : Nat) "SecurePair$Channel" "state" "I") ∈ xa := xa_t 195 (by decide +kernel) (by decide +kernel)
def p_mayUse (B : Nat) (C : Nat) (σ : xb_St) : Int32 := (if (σ.1 B 9) = (4 : Int32) then (if (σ.1 C 2) = (2 : Int32) then (1 : Int32) else (0 : Int32)) else (0 : Int32))
set_option maxHeartbeats 4000000 in
set_option maxRecDepth 100000 in
theorem c_Endpoint_mayUse (l : Launch) (D : va_G) (α : Nat → Nat) (κ : Nat → ClassId) (hα : xb_inj α 35) (σ : xb_St) (B : Nat) (C : Nat) (iB : sp_isEndpoint B) (iC : sp_isChannel C) : Met l y_Endpoint_mayUse w_Endpoint_mayUse ({ frames := 0, cells := 0, slots := 0, locals := 0 }) (va_Pc ([.ref (α B), .ref (α C)]) (sp_Pre D α κ σ)) (va_Qi (fun r (u : xb_St) => r = p_mayUse B C σ ∧ u = σ) (sp_B D α κ) (xb_A α 35)) 0 0 (xb_A α 35) := by
  refine Met.ofW (cc := b_Endpoint_mayUse) (maxL := 2) (ret := (some .boolean)) (by decide) rfl ?_
  intro p e s m args below meth c s₁ B_ hml hv
  obtain ⟨rfl, hP, hK, hN⟩ := hv
  have hx := B_.exec
  have hb := B_.bytes
  have hr := B_.returns
  have hts := atoms_spec (ws := w_Endpoint_mayUse) B_.pre
  have ht : ∀ w ∈ xa, w.before _ s = true := fun w h => hts w (List.mem_cons_of_mem _ h)
  have hown : s.vm.findClass "SecurePair$Endpoint" = some m.cls := findClass_of_methodNamed B_.named
  have hlocks := B_.notSynchronized
  have hD := sp_D hα κ
  have hS : va_S (xb_A α 35) s.heap s.heap [] := va_S.rf
  have hlA := sp_lnA_is iB
  have hlD := sp_lnD_is iB
  have hln := sp_ln_ne iB
  have hl := lv_entry ([.ref (α B), .ref (α C)]) (n := 2) (Nat.le_of_ble_eq_true rfl)
  rw [lg_entry_eq]
  generalize (lg_sl ([.ref (α B), .ref (α C)]) ++ List.replicate (2 - (lg_sl ([.ref (α B), .ref (α C)])).length) Slot.unset).toArray = ls at hl ⊢
  have hl : lv_has ls 2 [(0, .ref (α B)), (1, .ref (α C))] := hl
  refine lv_aload_n hx hb d_Endpoint_mayUse_0 rfl (lv_at hl 0 rfl) ?_
  refine sp_g_Endpoint (v := .int (σ.1 B 9)) hx hb ht hown hK hP iB 9 (by decide) (ht _ xw245) (fun _ h_ => h_) rfl d_Endpoint_mayUse_1 ?_
  refine lv_iconst (v := 4) hx hb d_Endpoint_mayUse_4 (by decide) ?_
  refine lv_icmp_ne (tgt := 20) hx hb d_Endpoint_mayUse_5 (by decide) (fun c1 => ?_) (fun c1 => ?_)
  · skip
    refine lv_iconst (v := 0) hx hb d_Endpoint_mayUse_20 (by decide) ?_
    exact W.zret (v := (0 : Int32)) hx hb hr rfl (fun t ht_ hW => ⟨⟨(0 : Int32), σ, rfl, ⟨((if_neg c1)).symm, rfl⟩, by rw [sp_B, ht_]; exact hP⟩, hS.F ht_⟩) hS.2.2 d_Endpoint_mayUse_21
  · skip
    refine lv_aload_n hx hb d_Endpoint_mayUse_8 rfl (lv_at hl 1 rfl) ?_
    refine sp_g_Channel (v := .int (σ.1 C 2)) hx hb ht hown hK hP iC 2 (by decide) (ht _ xw195) (fun _ h_ => h_) rfl d_Endpoint_mayUse_9 ?_
    refine lv_iconst (v := 2) hx hb d_Endpoint_mayUse_12 (by decide) ?_
    refine lv_icmp_ne (tgt := 20) hx hb d_Endpoint_mayUse_13 (by decide) (fun c2 => ?_) (fun c2 => ?_)
    · skip
      refine lv_iconst (v := 0) hx hb d_Endpoint_mayUse_20 (by decide) ?_
      exact W.zret (v := (0 : Int32)) hx hb hr rfl (fun t ht_ hW => ⟨⟨(0 : Int32), σ, rfl, ⟨((if_pos c1).trans ((if_neg c2))).symm, rfl⟩, by rw [sp_B, ht_]; exact hP⟩, hS.F ht_⟩) hS.2.2 d_Endpoint_mayUse_21
    · skip
      refine lv_iconst (v := 1) hx hb d_Endpoint_mayUse_16 (by decide) ?_
      refine lv_goto (tgt := 21) hx hb d_Endpoint_mayUse_17 (by decide) ?_
      exact W.zret (v := (1 : Int32)) hx hb hr rfl (fun t ht_ hW => ⟨⟨(1 : Int32), σ, rfl, ⟨((if_pos c1).trans ((if_pos c2))).symm, rfl⟩, by rw [sp_B, ht_]; exact hP⟩, hS.F ht_⟩) hS.2.2 d_Endpoint_mayUse_21
