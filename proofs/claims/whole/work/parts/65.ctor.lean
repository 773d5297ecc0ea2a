theorem xw_obj : (Cond.code Lib.objectInit ⟨#[0xb1]⟩ 1 none) ∈ xa := xa_t 28 (by decide +kernel) (by decide +kernel)
abbrev xC_Channel : vw_C := ("SecurePair$Channel", T_Channel, 9)
abbrev b_Packet_init : ByteArray := prog_9_method_1_code
def y_Packet_init : MethodName := ⟨"SecurePair$Packet", "<init>", "()V"⟩
abbrev w_Packet_init : List Cond := .code y_Packet_init b_Packet_init 1 none :: xa
theorem d_Packet_init_0 : decode b_Packet_init 0 = .ok (.aload_n 0, 1) := by decide +kernel
theorem d_Packet_init_1 : decode b_Packet_init 1 = .ok (.invokespecial 1, 3) := by decide +kernel
theorem d_Packet_init_4 : decode b_Packet_init 4 = .ok (.return_, 1) := by decide +kernel
theorem xw27 : (Cond.instanceMethod ({ cls := "java/lang/Object", name := "<init>", desc := "()V" } : MethodName)) ∈ xa := xa_t 27 (by decide +kernel) (by decide +kernel)
theorem xw59 : (Cond.methodLink "SecurePair$Packet" (1 : Nat) ({ cls := "java/lang/Object", name := "<init>", desc := "()V" } : MethodName)) ∈ xa := xa_t 59 (by decide +kernel) (by decide +kernel)
set_option maxHeartbeats 4000000 in
set_option maxRecDepth 100000 in
theorem c_Packet_init (l : Launch) (D : va_G) (h0 : Nat)  (sz : Nat) : Met l y_Packet_init w_Packet_init ({ frames := 1, cells := 0, slots := 0, locals := 20 }) (va_Pc ([.ref h0]) (fun U => U.heap.size = sz ∧ va_P D xC [(h0, .inr (2, [.int 0, .long 0, .long 0, .long 0, .long 0, .long 0]))] U.heap ∧ va_K D xC [] U ∧ va_D (fun _ => True) [(h0, .inr (2, [.int 0, .long 0, .long 0, .long 0, .long 0, .long 0]))] ∧ sp_N U ∧ va_AO "SecurePair$Channel" U)) (va_Qv (fun _ : Unit => True) (fun (_ : Unit) (t : State) => va_P D xC [(h0, .inr (2, [.int 0, .long 0, .long 0, .long 0, .long 0, .long 0]))] t.heap ∧ va_K D xC [] t ∧ va_D (va_A [(h0, .inr (2, [.int 0, .long 0, .long 0, .long 0, .long 0, .long 0]))] sz) [(h0, .inr (2, [.int 0, .long 0, .long 0, .long 0, .long 0, .long 0]))]) (va_A [(h0, .inr (2, [.int 0, .long 0, .long 0, .long 0, .long 0, .long 0]))] sz)) 0 0 (va_A [(h0, .inr (2, [.int 0, .long 0, .long 0, .long 0, .long 0, .long 0]))] sz) := by
  refine Met.ofW (cc := b_Packet_init) (maxL := 1) (ret := none) (by decide) rfl ?_
  intro p e s m args below meth c s₁ B hml hv
  obtain ⟨rfl, hsz, hP, hK, hD0, hN, hO⟩ := hv
  have hx := B.exec
  have hb := B.bytes
  have hr := B.returns
  have hts := atoms_spec (ws := w_Packet_init) B.pre
  have ht : ∀ w ∈ xa, w.before _ s = true := fun w h => hts w (List.mem_cons_of_mem _ h)
  have hown : s.vm.findClass "SecurePair$Packet" = some m.cls := findClass_of_methodNamed B.named
  have hlocks := B.notSynchronized
  have hin : meth.name = "<init>" := (name_of_methodNamed B.named B.method).1
  subst hsz
  have hD := hD0.self (sz := s.heap.size)
  generalize hAe : va_A [(h0, .inr (2, [.int 0, .long 0, .long 0, .long 0, .long 0, .long 0]))] s.heap.size = A at hD ⊢
  have hA : ∀ q : Nat, s.heap.size ≤ q → A q := fun q h => by rw [← hAe]; exact Or.inr h
  have hS : va_S A s.heap s.heap [] := va_S.rf
  have hl := lv_entry ([.ref h0]) (n := 1) (Nat.le_of_ble_eq_true rfl)
  rw [lg_entry_eq]
  generalize (lg_sl ([.ref h0]) ++ List.replicate (1 - (lg_sl ([.ref h0])).length) Slot.unset).toArray = ls at hl ⊢
  have hl : lv_has ls 1 [(0, .ref h0)] := hl
  refine lv_aload_n hx hb d_Packet_init_0 rfl (lv_at hl 0 rfl) ?_
  refine W.objInit hx hb hown (ht _ xw59) (ht _ xw27) (ht _ xw_obj) rfl (by rw [hml]; exact hl.1) rfl d_Packet_init_1 (Nat.le_of_ble_eq_true rfl) (Nat.le_of_ble_eq_true rfl) ?_
  refine W.eq (g2 := F0 m 4 ls []) rfl ?_
  have hP9 := hP.sub (ws' := [(h0, .inr (2, [.int 0, .long 0, .long 0, .long 0, .long 0, .long 0]))]) [0] rfl
  have hD9 := hD.sub (ws' := [(h0, .inr (2, [.int 0, .long 0, .long 0, .long 0, .long 0, .long 0]))]) [0] (by decide) rfl
  have hK9 := hK.sub (tys' := []) [] rfl
  exact W.vret hx hb hr (fun t ht_ hW => ⟨⟨(), rfl, trivial, by rw [ht_]; exact hP9, va_K.moved hW.alike hK9, hD9⟩, hS.F ht_⟩) hS.2.2 d_Packet_init_4
abbrev b_Keys_init : ByteArray := prog_7_method_1_code
def y_Keys_init : MethodName := ⟨"SecurePair$Keys", "<init>", "()V"⟩
abbrev w_Keys_init : List Cond := .code y_Keys_init b_Keys_init 1 none :: xa
theorem d_Keys_init_0 : decode b_Keys_init 0 = .ok (.aload_n 0, 1) := by decide +kernel
theorem d_Keys_init_1 : decode b_Keys_init 1 = .ok (.invokespecial 1, 3) := by decide +kernel
theorem d_Keys_init_4 : decode b_Keys_init 4 = .ok (.return_, 1) := by decide +kernel
theorem xw101 : (Cond.methodLink "SecurePair$Keys" (1 : Nat) ({ cls := "java/lang/Object", name := "<init>", desc := "()V" } : MethodName)) ∈ xa := xa_t 101 (by decide +kernel) (by decide +kernel)
set_option maxHeartbeats 4000000 in
set_option maxRecDepth 100000 in
theorem c_Keys_init (l : Launch) (D : va_G) (h0 : Nat)  (sz : Nat) : Met l y_Keys_init w_Keys_init ({ frames := 1, cells := 0, slots := 0, locals := 20 }) (va_Pc ([.ref h0]) (fun U => U.heap.size = sz ∧ va_P D xC [(h0, .inr (3, [.int 0, .long 0, .long 0, .int 0, .int 0, .int 0]))] U.heap ∧ va_K D xC [] U ∧ va_D (fun _ => True) [(h0, .inr (3, [.int 0, .long 0, .long 0, .int 0, .int 0, .int 0]))] ∧ sp_N U ∧ va_AO "SecurePair$Channel" U)) (va_Qv (fun _ : Unit => True) (fun (_ : Unit) (t : State) => va_P D xC [(h0, .inr (3, [.int 0, .long 0, .long 0, .int 0, .int 0, .int 0]))] t.heap ∧ va_K D xC [] t ∧ va_D (va_A [(h0, .inr (3, [.int 0, .long 0, .long 0, .int 0, .int 0, .int 0]))] sz) [(h0, .inr (3, [.int 0, .long 0, .long 0, .int 0, .int 0, .int 0]))]) (va_A [(h0, .inr (3, [.int 0, .long 0, .long 0, .int 0, .int 0, .int 0]))] sz)) 0 0 (va_A [(h0, .inr (3, [.int 0, .long 0, .long 0, .int 0, .int 0, .int 0]))] sz) := by
  refine Met.ofW (cc := b_Keys_init) (maxL := 1) (ret := none) (by decide) rfl ?_
  intro p e s m args below meth c s₁ B hml hv
  obtain ⟨rfl, hsz, hP, hK, hD0, hN, hO⟩ := hv
  have hx := B.exec
  have hb := B.bytes
  have hr := B.returns
  have hts := atoms_spec (ws := w_Keys_init) B.pre
  have ht : ∀ w ∈ xa, w.before _ s = true := fun w h => hts w (List.mem_cons_of_mem _ h)
  have hown : s.vm.findClass "SecurePair$Keys" = some m.cls := findClass_of_methodNamed B.named
  have hlocks := B.notSynchronized
  have hin : meth.name = "<init>" := (name_of_methodNamed B.named B.method).1
  subst hsz
  have hD := hD0.self (sz := s.heap.size)
  generalize hAe : va_A [(h0, .inr (3, [.int 0, .long 0, .long 0, .int 0, .int 0, .int 0]))] s.heap.size = A at hD ⊢
  have hA : ∀ q : Nat, s.heap.size ≤ q → A q := fun q h => by rw [← hAe]; exact Or.inr h
  have hS : va_S A s.heap s.heap [] := va_S.rf
  have hl := lv_entry ([.ref h0]) (n := 1) (Nat.le_of_ble_eq_true rfl)
  rw [lg_entry_eq]
  generalize (lg_sl ([.ref h0]) ++ List.replicate (1 - (lg_sl ([.ref h0])).length) Slot.unset).toArray = ls at hl ⊢
  have hl : lv_has ls 1 [(0, .ref h0)] := hl
  refine lv_aload_n hx hb d_Keys_init_0 rfl (lv_at hl 0 rfl) ?_
  refine W.objInit hx hb hown (ht _ xw101) (ht _ xw27) (ht _ xw_obj) rfl (by rw [hml]; exact hl.1) rfl d_Keys_init_1 (Nat.le_of_ble_eq_true rfl) (Nat.le_of_ble_eq_true rfl) ?_
  refine W.eq (g2 := F0 m 4 ls []) rfl ?_
  have hP9 := hP.sub (ws' := [(h0, .inr (3, [.int 0, .long 0, .long 0, .int 0, .int 0, .int 0]))]) [0] rfl
  have hD9 := hD.sub (ws' := [(h0, .inr (3, [.int 0, .long 0, .long 0, .int 0, .int 0, .int 0]))]) [0] (by decide) rfl
  have hK9 := hK.sub (tys' := []) [] rfl
  exact W.vret hx hb hr (fun t ht_ hW => ⟨⟨(), rfl, trivial, by rw [ht_]; exact hP9, va_K.moved hW.alike hK9, hD9⟩, hS.F ht_⟩) hS.2.2 d_Keys_init_4
abbrev b_Init_init : ByteArray := prog_6_method_1_code
def y_Init_init : MethodName := ⟨"SecurePair$Init", "<init>", "()V"⟩
abbrev w_Init_init : List Cond := .code y_Init_init b_Init_init 1 none :: xa
theorem d_Init_init_0 : decode b_Init_init 0 = .ok (.aload_n 0, 1) := by decide +kernel
theorem d_Init_init_1 : decode b_Init_init 1 = .ok (.invokespecial 1, 3) := by decide +kernel
theorem d_Init_init_4 : decode b_Init_init 4 = .ok (.return_, 1) := by decide +kernel
theorem xw137 : (Cond.methodLink "SecurePair$Init" (1 : Nat) ({ cls := "java/lang/Object", name := "<init>", desc := "()V" } : MethodName)) ∈ xa := xa_t 137 (by decide +kernel) (by decide +kernel)
set_option maxHeartbeats 4000000 in
set_option maxRecDepth 100000 in
theorem c_Init_init (l : Launch) (D : va_G) (h0 : Nat)  (sz : Nat) : Met l y_Init_init w_Init_init ({ frames := 1, cells := 0, slots := 0, locals := 20 }) (va_Pc ([.ref h0]) (fun U => U.heap.size = sz ∧ va_P D xC [(h0, .inr (4, [.long 0, .long 0, .long 0]))] U.heap ∧ va_K D xC [] U ∧ va_D (fun _ => True) [(h0, .inr (4, [.long 0, .long 0, .long 0]))] ∧ sp_N U ∧ va_AO "SecurePair$Channel" U)) (va_Qv (fun _ : Unit => True) (fun (_ : Unit) (t : State) => va_P D xC [(h0, .inr (4, [.long 0, .long 0, .long 0]))] t.heap ∧ va_K D xC [] t ∧ va_D (va_A [(h0, .inr (4, [.long 0, .long 0, .long 0]))] sz) [(h0, .inr (4, [.long 0, .long 0, .long 0]))]) (va_A [(h0, .inr (4, [.long 0, .long 0, .long 0]))] sz)) 0 0 (va_A [(h0, .inr (4, [.long 0, .long 0, .long 0]))] sz) := by
  refine Met.ofW (cc := b_Init_init) (maxL := 1) (ret := none) (by decide) rfl ?_
  intro p e s m args below meth c s₁ B hml hv
  obtain ⟨rfl, hsz, hP, hK, hD0, hN, hO⟩ := hv
  have hx := B.exec
  have hb := B.bytes
  have hr := B.returns
  have hts := atoms_spec (ws := w_Init_init) B.pre
  have ht : ∀ w ∈ xa, w.before _ s = true := fun w h => hts w (List.mem_cons_of_mem _ h)
  have hown : s.vm.findClass "SecurePair$Init" = some m.cls := findClass_of_methodNamed B.named
  have hlocks := B.notSynchronized
  have hin : meth.name = "<init>" := (name_of_methodNamed B.named B.method).1
  subst hsz
  have hD := hD0.self (sz := s.heap.size)
  generalize hAe : va_A [(h0, .inr (4, [.long 0, .long 0, .long 0]))] s.heap.size = A at hD ⊢
  have hA : ∀ q : Nat, s.heap.size ≤ q → A q := fun q h => by rw [← hAe]; exact Or.inr h
  have hS : va_S A s.heap s.heap [] := va_S.rf
  have hl := lv_entry ([.ref h0]) (n := 1) (Nat.le_of_ble_eq_true rfl)
  rw [lg_entry_eq]
  generalize (lg_sl ([.ref h0]) ++ List.replicate (1 - (lg_sl ([.ref h0])).length) Slot.unset).toArray = ls at hl ⊢
  have hl : lv_has ls 1 [(0, .ref h0)] := hl
  refine lv_aload_n hx hb d_Init_init_0 rfl (lv_at hl 0 rfl) ?_
  refine W.objInit hx hb hown (ht _ xw137) (ht _ xw27) (ht _ xw_obj) rfl (by rw [hml]; exact hl.1) rfl d_Init_init_1 (Nat.le_of_ble_eq_true rfl) (Nat.le_of_ble_eq_true rfl) ?_
  refine W.eq (g2 := F0 m 4 ls []) rfl ?_
  have hP9 := hP.sub (ws' := [(h0, .inr (4, [.long 0, .long 0, .long 0]))]) [0] rfl
  have hD9 := hD.sub (ws' := [(h0, .inr (4, [.long 0, .long 0, .long 0]))]) [0] (by decide) rfl
  have hK9 := hK.sub (tys' := []) [] rfl
  exact W.vret hx hb hr (fun t ht_ hW => ⟨⟨(), rfl, trivial, by rw [ht_]; exact hP9, va_K.moved hW.alike hK9, hD9⟩, hS.F ht_⟩) hS.2.2 d_Init_init_4
abbrev b_Line_init : ByteArray := prog_8_method_1_code
def y_Line_init : MethodName := ⟨"SecurePair$Line", "<init>", "()V"⟩
abbrev w_Line_init : List Cond := .code y_Line_init b_Line_init 1 none :: xa
theorem d_Line_init_0 : decode b_Line_init 0 = .ok (.aload_n 0, 1) := by decide +kernel
theorem d_Line_init_1 : decode b_Line_init 1 = .ok (.invokespecial 3, 3) := by decide +kernel
theorem d_Line_init_4 : decode b_Line_init 4 = .ok (.aload_n 0, 1) := by decide +kernel
theorem d_Line_init_5 : decode b_Line_init 5 = .ok (.bipush 96, 2) := by decide +kernel
theorem d_Line_init_7 : decode b_Line_init 7 = .ok (.newarray .long, 2) := by decide +kernel
theorem d_Line_init_9 : decode b_Line_init 9 = .ok (.putfield 9, 3) := by decide +kernel
theorem d_Line_init_12 : decode b_Line_init 12 = .ok (.return_, 1) := by decide +kernel
theorem xw34 : (Cond.methodLink "SecurePair$Line" (3 : Nat) ({ cls := "java/lang/Object", name := "<init>", desc := "()V" } : MethodName)) ∈ xa := xa_t 34 (by decide +kernel) (by decide +kernel)
theorem xw44 : (Cond.arrayClass ClassFile.FieldType.long) ∈ xa := xa_t 44 (by decide +kernel) (by decide +kernel)
set_option maxHeartbeats 4000000 in
set_option maxRecDepth 100000 in
theorem c_Line_init (l : Launch) (D : va_G) (h0 : Nat)  (sz : Nat) : Met l y_Line_init w_Line_init ({ frames := 1, cells := 1, slots := 96, locals := 20 }) (va_Pc ([.ref h0]) (fun U => U.heap.size = sz ∧ va_P D xC [(h0, .inr (1, [.null, .int 0]))] U.heap ∧ va_K D xC [] U ∧ va_D (fun _ => True) [(h0, .inr (1, [.null, .int 0]))] ∧ sp_N U ∧ va_AO "SecurePair$Channel" U)) (va_Qv (fun _ : Unit => True) (fun (_ : Unit) (t : State) => ∃ (q1 : Nat), ∃ (k1 : ClassId), va_P D xC [(h0, .inr (1, [.ref q1, .int 0])), (q1, .inl (k1, 96, .inr (.inl (fun _ => 0))))] t.heap ∧ va_K D xC [(k1, .long)] t ∧ va_D (va_A [(h0, .inr (1, [.null, .int 0]))] sz) [(h0, .inr (1, [.ref q1, .int 0])), (q1, .inl (k1, 96, .inr (.inl (fun _ => 0))))]) (va_A [(h0, .inr (1, [.null, .int 0]))] sz)) 1 96 (va_A [(h0, .inr (1, [.null, .int 0]))] sz) := by
  refine Met.ofW (cc := b_Line_init) (maxL := 1) (ret := none) (by decide) rfl ?_
  intro p e s m args below meth c s₁ B hml hv
  obtain ⟨rfl, hsz, hP, hK, hD0, hN, hO⟩ := hv
  have hx := B.exec
  have hb := B.bytes
  have hr := B.returns
  have hts := atoms_spec (ws := w_Line_init) B.pre
  have ht : ∀ w ∈ xa, w.before _ s = true := fun w h => hts w (List.mem_cons_of_mem _ h)
  have hown : s.vm.findClass "SecurePair$Line" = some m.cls := findClass_of_methodNamed B.named
  have hlocks := B.notSynchronized
  have hin : meth.name = "<init>" := (name_of_methodNamed B.named B.method).1
  subst hsz
  have hD := hD0.self (sz := s.heap.size)
  generalize hAe : va_A [(h0, .inr (1, [.null, .int 0]))] s.heap.size = A at hD ⊢
  have hA : ∀ q : Nat, s.heap.size ≤ q → A q := fun q h => by rw [← hAe]; exact Or.inr h
  have hS : va_S A s.heap s.heap [] := va_S.rf
  have hl := lv_entry ([.ref h0]) (n := 1) (Nat.le_of_ble_eq_true rfl)
  rw [lg_entry_eq]
  generalize (lg_sl ([.ref h0]) ++ List.replicate (1 - (lg_sl ([.ref h0])).length) Slot.unset).toArray = ls at hl ⊢
  have hl : lv_has ls 1 [(0, .ref h0)] := hl
  refine lv_aload_n hx hb d_Line_init_0 rfl (lv_at hl 0 rfl) ?_
  refine W.objInit hx hb hown (ht _ xw34) (ht _ xw27) (ht _ xw_obj) rfl (by rw [hml]; exact hl.1) rfl d_Line_init_1 (Nat.le_of_ble_eq_true rfl) (Nat.le_of_ble_eq_true rfl) ?_
  refine W.eq (g2 := F0 m 4 ls []) rfl ?_
  refine lv_aload_n hx hb d_Line_init_4 rfl (lv_at hl 0 rfl) ?_
  refine lv_bipush (v := 96) hx hb d_Line_init_5 (by decide) ?_
  refine va_newa (atype := .long) (ty := .long) (a0 := (96, .inr (.inl (fun _ => 0)))) hx hb (ht _ xw44) rfl hK hP hD hS hA (fun _ => rfl) (by decide) rfl (by decide) (Nat.le_of_ble_eq_true rfl) (Nat.le_of_ble_eq_true rfl) d_Line_init_7 (fun q1 k1 H hK hP hD hS => ?_)
  have hK : va_K D xC [(k1, .long)] s := hK
  have hP : va_P D xC [(h0, .inr (1, [.null, .int 0])), (q1, .inl (k1, 96, .inr (.inl (fun _ => 0))))] H := hP
  have hD : va_D A [(h0, .inr (1, [.null, .int 0])), (q1, .inl (k1, 96, .inr (.inl (fun _ => 0))))] := hD
  refine va_putF (D := D) (ci := 1) (v := .ref q1) (ty := .array .long) (C := "SecurePair$Line") (T := T_Line) (N := 2) hx hb ht in_Line t_Line t_Line_ok n_Line hown hK hP hD hS 0 rfl rfl 0 (by decide) (ht _ xw35) (fun _ h9 => h9) rfl hin rfl (by decide +kernel) rfl rfl (Nat.le_of_ble_eq_true rfl) d_Line_init_9 (fun H locs hP hD hS => ?_)
  have hP : va_P D xC [(h0, .inr (1, [.ref q1, .int 0])), (q1, .inl (k1, 96, .inr (.inl (fun _ => 0))))] H := hP
  have hD : va_D A [(h0, .inr (1, [.ref q1, .int 0])), (q1, .inl (k1, 96, .inr (.inl (fun _ => 0))))] := hD
  have hP9 := hP.sub (ws' := [(h0, .inr (1, [.ref q1, .int 0])), (q1, .inl (k1, 96, .inr (.inl (fun _ => 0))))]) [0, 1] rfl
  have hD9 := hD.sub (ws' := [(h0, .inr (1, [.ref q1, .int 0])), (q1, .inl (k1, 96, .inr (.inl (fun _ => 0))))]) [0, 1] (by decide) rfl
  have hK9 := hK.sub (tys' := [(k1, .long)]) [0] rfl
  exact W.vret hx hb hr (fun t ht_ hW => ⟨⟨(), rfl, trivial, q1, k1, by rw [ht_]; exact hP9, va_K.moved hW.alike hK9, hD9⟩, hS.F ht_⟩) hS.2.2 d_Line_init_12
abbrev b_Exchange_init : ByteArray := prog_5_method_1_code
def y_Exchange_init : MethodName := ⟨"SecurePair$Exchange", "<init>", "()V"⟩
abbrev w_Exchange_init : List Cond := .code y_Exchange_init b_Exchange_init 1 none :: xa
theorem d_Exchange_init_0 : decode b_Exchange_init 0 = .ok (.aload_n 0, 1) := by decide +kernel
theorem d_Exchange_init_1 : decode b_Exchange_init 1 = .ok (.invokespecial 3, 3) := by decide +kernel
theorem d_Exchange_init_4 : decode b_Exchange_init 4 = .ok (.aload_n 0, 1) := by decide +kernel
theorem d_Exchange_init_5 : decode b_Exchange_init 5 = .ok (.new 9, 3) := by decide +kernel
theorem d_Exchange_init_8 : decode b_Exchange_init 8 = .ok (.dup, 1) := by decide +kernel
theorem d_Exchange_init_9 : decode b_Exchange_init 9 = .ok (.invokespecial 11, 3) := by decide +kernel
theorem d_Exchange_init_12 : decode b_Exchange_init 12 = .ok (.putfield 12, 3) := by decide +kernel
theorem d_Exchange_init_15 : decode b_Exchange_init 15 = .ok (.aload_n 0, 1) := by decide +kernel
theorem d_Exchange_init_16 : decode b_Exchange_init 16 = .ok (.new 9, 3) := by decide +kernel
theorem d_Exchange_init_19 : decode b_Exchange_init 19 = .ok (.dup, 1) := by decide +kernel
theorem d_Exchange_init_20 : decode b_Exchange_init 20 = .ok (.invokespecial 11, 3) := by decide +kernel
theorem d_Exchange_init_23 : decode b_Exchange_init 23 = .ok (.putfield 18, 3) := by decide +kernel
theorem d_Exchange_init_26 : decode b_Exchange_init 26 = .ok (.return_, 1) := by decide +kernel
theorem xw131 : (Cond.methodLink "SecurePair$Exchange" (3 : Nat) ({ cls := "java/lang/Object", name := "<init>", desc := "()V" } : MethodName)) ∈ xa := xa_t 131 (by decide +kernel) (by decide +kernel)
theorem xw132 : (Cond.classLink "SecurePair$Exchange" (9 : Nat) "SecurePair$Init") ∈ xa := xa_t 132 (by decide +kernel) (by decide +kernel)
theorem xw133 : (Cond.instantiable "SecurePair$Init" (3 : Nat)) ∈ xa := xa_t 133 (by decide +kernel) (by decide +kernel)
theorem xw135 : (Cond.instanceMethod ({ cls := "SecurePair$Init", name := "<init>", desc := "()V" } : MethodName)) ∈ xa := xa_t 135 (by decide +kernel) (by decide +kernel)
theorem xw136 : (Cond.code ({ cls := "SecurePair$Init", name := "<init>", desc := "()V" } : MethodName) prog_6_method_1_code (1 : Nat) (Option.none : Option ClassFile.FieldType)) ∈ xa := xa_t 136 (by decide +kernel) (by decide +kernel)
set_option maxHeartbeats 4000000 in
set_option maxRecDepth 100000 in
theorem c_Exchange_init (l : Launch) (D : va_G) (h0 : Nat)  (sz : Nat) : Met l y_Exchange_init w_Exchange_init ({ frames := 2, cells := 2, slots := 6, locals := 40 }) (va_Pc ([.ref h0]) (fun U => U.heap.size = sz ∧ va_P D xC [(h0, .inr (5, [.null, .null, .long 0, .int 0, .int 0, .long 0, .long 0]))] U.heap ∧ va_K D xC [] U ∧ va_D (fun _ => True) [(h0, .inr (5, [.null, .null, .long 0, .int 0, .int 0, .long 0, .long 0]))] ∧ sp_N U ∧ va_AO "SecurePair$Channel" U)) (va_Qv (fun _ : Unit => True) (fun (_ : Unit) (t : State) => ∃ (q1 q2 : Nat), va_P D xC [(h0, .inr (5, [.ref q1, .ref q2, .long 0, .int 0, .int 0, .long 0, .long 0])), (q1, .inr (4, [.long 0, .long 0, .long 0])), (q2, .inr (4, [.long 0, .long 0, .long 0]))] t.heap ∧ va_K D xC [] t ∧ va_D (va_A [(h0, .inr (5, [.null, .null, .long 0, .int 0, .int 0, .long 0, .long 0]))] sz) [(h0, .inr (5, [.ref q1, .ref q2, .long 0, .int 0, .int 0, .long 0, .long 0])), (q1, .inr (4, [.long 0, .long 0, .long 0])), (q2, .inr (4, [.long 0, .long 0, .long 0]))]) (va_A [(h0, .inr (5, [.null, .null, .long 0, .int 0, .int 0, .long 0, .long 0]))] sz)) 2 6 (va_A [(h0, .inr (5, [.null, .null, .long 0, .int 0, .int 0, .long 0, .long 0]))] sz) := by
  refine Met.ofW (cc := b_Exchange_init) (maxL := 1) (ret := none) (by decide) rfl ?_
  intro p e s m args below meth c s₁ B hml hv
  obtain ⟨rfl, hsz, hP, hK, hD0, hN, hO⟩ := hv
  have hx := B.exec
  have hb := B.bytes
  have hr := B.returns
  have hts := atoms_spec (ws := w_Exchange_init) B.pre
  have ht : ∀ w ∈ xa, w.before _ s = true := fun w h => hts w (List.mem_cons_of_mem _ h)
  have hown : s.vm.findClass "SecurePair$Exchange" = some m.cls := findClass_of_methodNamed B.named
  have hlocks := B.notSynchronized
  have hin : meth.name = "<init>" := (name_of_methodNamed B.named B.method).1
  subst hsz
  have hD := hD0.self (sz := s.heap.size)
  generalize hAe : va_A [(h0, .inr (5, [.null, .null, .long 0, .int 0, .int 0, .long 0, .long 0]))] s.heap.size = A at hD ⊢
  have hA : ∀ q : Nat, s.heap.size ≤ q → A q := fun q h => by rw [← hAe]; exact Or.inr h
  have hS : va_S A s.heap s.heap [] := va_S.rf
  have hl := lv_entry ([.ref h0]) (n := 1) (Nat.le_of_ble_eq_true rfl)
  rw [lg_entry_eq]
  generalize (lg_sl ([.ref h0]) ++ List.replicate (1 - (lg_sl ([.ref h0])).length) Slot.unset).toArray = ls at hl ⊢
  have hl : lv_has ls 1 [(0, .ref h0)] := hl
  refine lv_aload_n hx hb d_Exchange_init_0 rfl (lv_at hl 0 rfl) ?_
  refine W.objInit hx hb hown (ht _ xw131) (ht _ xw27) (ht _ xw_obj) rfl (by rw [hml]; exact hl.1) rfl d_Exchange_init_1 (Nat.le_of_ble_eq_true rfl) (Nat.le_of_ble_eq_true rfl) ?_
  refine W.eq (g2 := F0 m 4 ls []) rfl ?_
  refine lv_aload_n hx hb d_Exchange_init_4 rfl (lv_at hl 0 rfl) ?_
  refine va_new (ci := 4) (fs := [.long 0, .long 0, .long 0]) (C := "SecurePair$Init") (T := T_Init) (N := 3) hx hb ht in_Init t_Init t_Init_ok hown (ht _ xw132) (ht _ xw133) (ht _ xw8) hK hP hD hS hA rfl (fun j hj => by rcases (show j = 0 ∨ j = 1 ∨ j = 2 by omega) with rfl | rfl | rfl <;> rfl) (Nat.le_of_ble_eq_true rfl) (Nat.le_of_ble_eq_true rfl) d_Exchange_init_5 (fun q1 H hP hD hS => ?_)
  have hP : va_P D xC [(h0, .inr (5, [.null, .null, .long 0, .int 0, .int 0, .long 0, .long 0])), (q1, .inr (4, [.long 0, .long 0, .long 0]))] H := hP
  have hD : va_D A [(h0, .inr (5, [.null, .null, .long 0, .int 0, .int 0, .long 0, .long 0])), (q1, .inr (4, [.long 0, .long 0, .long 0]))] := hD
  refine lv_dup hx hb d_Exchange_init_8 rfl ?_
  have hPc := hP.sub (ws' := [(q1, .inr (4, [.long 0, .long 0, .long 0]))]) [1] rfl
  have hDc := hD.sub (ws' := [(q1, .inr (4, [.long 0, .long 0, .long 0]))]) [1] (by decide) rfl
  have hKc := hK.sub (tys' := []) [] rfl
  have hFc := va_free (wc := [(q1, .inr (4, [.long 0, .long 0, .long 0]))]) hD hS hA [1] rfl
  refine va_callv (va_runIN (As := []) (rest := [.ref q1, .ref h0]) ⟨hx, hb, hml, hown, hts⟩ (c_Init_init l D q1 H.size) ⟨va_cnB 0 hts (xa_g xw136) rfl rfl rfl (hN.at 4 rfl) (ht _ xw8) (by decide +kernel) ⟨Nat.le_of_ble_eq_true rfl, Nat.le_of_ble_eq_true rfl⟩, rfl, ht _ xw135⟩ ⟨fun a U g mk q => by obtain ⟨q0, q1, qP, qK, qD, qN, qO⟩ := q; exact ⟨q0, q1, qP, va_K.moved (u := U) (U := U.calling g mk a) (Vm.Alike.refl U.vm) qK, qD, qN.same rfl, va_AO.moved (u := U) (U := U.calling g mk a) (Vm.Alike.refl U.vm) qO⟩, fun U hU hW => ⟨rfl, by rw [hU], by rw [hU]; exact hPc, va_K.moved hW.alike hKc, hDc.weaken (fun _ _ _ _ => trivial), hN.warm hW, va_AO.moved hW.alike hO⟩⟩ rfl rfl hl.1 rfl (lv_room (Nat.le_of_ble_eq_true rfl)) d_Exchange_init_9 ⟨Nat.le_of_ble_eq_true rfl, Nat.le_of_ble_eq_true rfl⟩) hS (fun q _ h => hFc q h) hFc (fun u t H1 locs ht_ hvm hw hB hz1 hk1 hS => ?_)
  obtain ⟨hP1, hK1, hD1⟩ := hB
  rw [ht_] at hP1
  have hK1 := va_K.moved hvm.symm hK1
  obtain ⟨hP, hD⟩ := va_join (wr := [(h0, .inr (5, [.null, .null, .long 0, .int 0, .int 0, .long 0, .long 0]))]) (w1 := [(q1, .inr (4, [.long 0, .long 0, .long 0]))]) hP hD [1] [0] rfl rfl (by decide) (by decide) hk1 hFc hP1 hD1
  have hK := (hK.sub (tys' := []) [] rfl).app hK1
  generalize H1 = H at hP hS ⊢
  have hP : va_P D xC [(h0, .inr (5, [.null, .null, .long 0, .int 0, .int 0, .long 0, .long 0])), (q1, .inr (4, [.long 0, .long 0, .long 0]))] H := hP
  have hD : va_D A [(h0, .inr (5, [.null, .null, .long 0, .int 0, .int 0, .long 0, .long 0])), (q1, .inr (4, [.long 0, .long 0, .long 0]))] := hD
  have hK : va_K D xC [] s := hK
  refine va_putF (D := D) (ci := 5) (v := .ref q1) (ty := .object "SecurePair$Init") (C := "SecurePair$Exchange") (T := T_Exchange) (N := 7) hx hb ht in_Exchange t_Exchange t_Exchange_ok n_Exchange hown hK hP hD hS 0 rfl rfl 0 (by decide) (ht _ xw151) (fun _ h9 => h9) rfl hin rfl (by decide +kernel) rfl rfl (Nat.le_of_ble_eq_true rfl) d_Exchange_init_12 (fun H locs hP hD hS => ?_)
  have hP : va_P D xC [(h0, .inr (5, [.ref q1, .null, .long 0, .int 0, .int 0, .long 0, .long 0])), (q1, .inr (4, [.long 0, .long 0, .long 0]))] H := hP
  have hD : va_D A [(h0, .inr (5, [.ref q1, .null, .long 0, .int 0, .int 0, .long 0, .long 0])), (q1, .inr (4, [.long 0, .long 0, .long 0]))] := hD
  refine lv_aload_n hx hb d_Exchange_init_15 rfl (lv_at hl 0 rfl) ?_
  refine va_new (ci := 4) (fs := [.long 0, .long 0, .long 0]) (C := "SecurePair$Init") (T := T_Init) (N := 3) hx hb ht in_Init t_Init t_Init_ok hown (ht _ xw132) (ht _ xw133) (ht _ xw8) hK hP hD hS hA rfl (fun j hj => by rcases (show j = 0 ∨ j = 1 ∨ j = 2 by omega) with rfl | rfl | rfl <;> rfl) (Nat.le_of_ble_eq_true rfl) (Nat.le_of_ble_eq_true rfl) d_Exchange_init_16 (fun q2 H hP hD hS => ?_)
  have hP : va_P D xC [(h0, .inr (5, [.ref q1, .null, .long 0, .int 0, .int 0, .long 0, .long 0])), (q1, .inr (4, [.long 0, .long 0, .long 0])), (q2, .inr (4, [.long 0, .long 0, .long 0]))] H := hP
  have hD : va_D A [(h0, .inr (5, [.ref q1, .null, .long 0, .int 0, .int 0, .long 0, .long 0])), (q1, .inr (4, [.long 0, .long 0, .long 0])), (q2, .inr (4, [.long 0, .long 0, .long 0]))] := hD
  refine lv_dup hx hb d_Exchange_init_19 rfl ?_
  have hPc := hP.sub (ws' := [(q2, .inr (4, [.long 0, .long 0, .long 0]))]) [2] rfl
  have hDc := hD.sub (ws' := [(q2, .inr (4, [.long 0, .long 0, .long 0]))]) [2] (by decide) rfl
  have hKc := hK.sub (tys' := []) [] rfl
  have hFc := va_free (wc := [(q2, .inr (4, [.long 0, .long 0, .long 0]))]) hD hS hA [2] rfl
  refine va_callv (va_runIN (As := []) (rest := [.ref q2, .ref h0]) ⟨hx, hb, hml, hown, hts⟩ (c_Init_init l D q2 H.size) ⟨va_cnB 0 hts (xa_g xw136) rfl rfl rfl (hN.at 4 rfl) (ht _ xw8) (by decide +kernel) ⟨Nat.le_of_ble_eq_true rfl, Nat.le_of_ble_eq_true rfl⟩, rfl, ht _ xw135⟩ ⟨fun a U g mk q => by obtain ⟨q0, q1, qP, qK, qD, qN, qO⟩ := q; exact ⟨q0, q1, qP, va_K.moved (u := U) (U := U.calling g mk a) (Vm.Alike.refl U.vm) qK, qD, qN.same rfl, va_AO.moved (u := U) (U := U.calling g mk a) (Vm.Alike.refl U.vm) qO⟩, fun U hU hW => ⟨rfl, by rw [hU], by rw [hU]; exact hPc, va_K.moved hW.alike hKc, hDc.weaken (fun _ _ _ _ => trivial), hN.warm hW, va_AO.moved hW.alike hO⟩⟩ rfl rfl hl.1 rfl (lv_room (Nat.le_of_ble_eq_true rfl)) d_Exchange_init_20 ⟨Nat.le_of_ble_eq_true rfl, Nat.le_of_ble_eq_true rfl⟩) hS (fun q _ h => hFc q h) hFc (fun u t H1 locs ht_ hvm hw hB hz1 hk1 hS => ?_)
  obtain ⟨hP1, hK1, hD1⟩ := hB
  rw [ht_] at hP1
  have hK1 := va_K.moved hvm.symm hK1
  obtain ⟨hP, hD⟩ := va_join (wr := [(h0, .inr (5, [.ref q1, .null, .long 0, .int 0, .int 0, .long 0, .long 0])), (q1, .inr (4, [.long 0, .long 0, .long 0]))]) (w1 := [(q2, .inr (4, [.long 0, .long 0, .long 0]))]) hP hD [2] [0, 1] rfl rfl (by decide) (by decide) hk1 hFc hP1 hD1
  have hK := (hK.sub (tys' := []) [] rfl).app hK1
  generalize H1 = H at hP hS ⊢
  have hP : va_P D xC [(h0, .inr (5, [.ref q1, .null, .long 0, .int 0, .int 0, .long 0, .long 0])), (q1, .inr (4, [.long 0, .long 0, .long 0])), (q2, .inr (4, [.long 0, .long 0, .long 0]))] H := hP
  have hD : va_D A [(h0, .inr (5, [.ref q1, .null, .long 0, .int 0, .int 0, .long 0, .long 0])), (q1, .inr (4, [.long 0, .long 0, .long 0])), (q2, .inr (4, [.long 0, .long 0, .long 0]))] := hD
  have hK : va_K D xC [] s := hK
  refine va_putF (D := D) (ci := 5) (v := .ref q2) (ty := .object "SecurePair$Init") (C := "SecurePair$Exchange") (T := T_Exchange) (N := 7) hx hb ht in_Exchange t_Exchange t_Exchange_ok n_Exchange hown hK hP hD hS 0 rfl rfl 1 (by decide) (ht _ xw153) (fun _ h9 => h9) rfl hin rfl (by decide +kernel) rfl rfl (Nat.le_of_ble_eq_true rfl) d_Exchange_init_23 (fun H locs hP hD hS => ?_)
  have hP : va_P D xC [(h0, .inr (5, [.ref q1, .ref q2, .long 0, .int 0, .int 0, .long 0, .long 0])), (q1, .inr (4, [.long 0, .long 0, .long 0])), (q2, .inr (4, [.long 0, .long 0, .long 0]))] H := hP
  have hD : va_D A [(h0, .inr (5, [.ref q1, .ref q2, .long 0, .int 0, .int 0, .long 0, .long 0])), (q1, .inr (4, [.long 0, .long 0, .long 0])), (q2, .inr (4, [.long 0, .long 0, .long 0]))] := hD
  have hP9 := hP.sub (ws' := [(h0, .inr (5, [.ref q1, .ref q2, .long 0, .int 0, .int 0, .long 0, .long 0])), (q1, .inr (4, [.long 0, .long 0, .long 0])), (q2, .inr (4, [.long 0, .long 0, .long 0]))]) [0, 1, 2] rfl
  have hD9 := hD.sub (ws' := [(h0, .inr (5, [.ref q1, .ref q2, .long 0, .int 0, .int 0, .long 0, .long 0])), (q1, .inr (4, [.long 0, .long 0, .long 0])), (q2, .inr (4, [.long 0, .long 0, .long 0]))]) [0, 1, 2] (by decide) rfl
  have hK9 := hK.sub (tys' := []) [] rfl
  exact W.vret hx hb hr (fun t ht_ hW => ⟨⟨(), rfl, trivial, q1, q2, by rw [ht_]; exact hP9, va_K.moved hW.alike hK9, hD9⟩, hS.F ht_⟩) hS.2.2 d_Exchange_init_26
abbrev b_Channel_init : ByteArray := prog_2_method_1_code
def y_Channel_init : MethodName := ⟨"SecurePair$Channel", "<init>", "(I)V"⟩
abbrev w_Channel_init : List Cond := .code y_Channel_init b_Channel_init 2 none :: xa
theorem d_Channel_init_0 : decode b_Channel_init 0 = .ok (.aload_n 0, 1) := by decide +kernel
theorem d_Channel_init_1 : decode b_Channel_init 1 = .ok (.invokespecial 3, 3) := by decide +kernel
theorem d_Channel_init_4 : decode b_Channel_init 4 = .ok (.aload_n 0, 1) := by decide +kernel
theorem d_Channel_init_5 : decode b_Channel_init 5 = .ok (.bipush 24, 2) := by decide +kernel
theorem d_Channel_init_7 : decode b_Channel_init 7 = .ok (.newarray .int, 2) := by decide +kernel
theorem d_Channel_init_9 : decode b_Channel_init 9 = .ok (.putfield 9, 3) := by decide +kernel
theorem d_Channel_init_12 : decode b_Channel_init 12 = .ok (.aload_n 0, 1) := by decide +kernel
theorem d_Channel_init_13 : decode b_Channel_init 13 = .ok (.iload_n 1, 1) := by decide +kernel
theorem d_Channel_init_14 : decode b_Channel_init 14 = .ok (.putfield 15, 3) := by decide +kernel
theorem d_Channel_init_17 : decode b_Channel_init 17 = .ok (.return_, 1) := by decide +kernel
theorem xw189 : (Cond.methodLink "SecurePair$Channel" (3 : Nat) ({ cls := "java/lang/Object", name := "<init>", desc := "()V" } : MethodName)) ∈ xa := xa_t 189 (by decide +kernel) (by decide +kernel)
theorem xw190 : (Cond.fieldLink "SecurePair$Channel" (15 : Nat) "SecurePair$Channel" "index" "I") ∈ xa := xa_t 190 (by decide +kernel) (by decide +kernel)
theorem xw226 : (Cond.arrayClass ClassFile.FieldType.int) ∈ xa := xa_t 226 (by decide +kernel) (by decide +kernel)
set_option maxHeartbeats 4000000 in
set_option maxRecDepth 100000 in
theorem c_Channel_init (l : Launch) (D : va_G) (h0 : Nat) (x1 : Int32) (sz : Nat) : Met l y_Channel_init w_Channel_init ({ frames := 1, cells := 1, slots := 24, locals := 20 }) (va_Pc ([.ref h0, .int x1]) (fun U => U.heap.size = sz ∧ va_P D xC [(h0, .inr (6, [.int 0, .null, .int 0, .long 0, .long 0, .int 0, .int 0, .int 0, .int 0]))] U.heap ∧ va_K D xC [] U ∧ va_D (fun _ => True) [(h0, .inr (6, [.int 0, .null, .int 0, .long 0, .long 0, .int 0, .int 0, .int 0, .int 0]))] ∧ sp_N U ∧ va_AO "SecurePair$Channel" U)) (va_Qv (fun _ : Unit => True) (fun (_ : Unit) (t : State) => ∃ (q1 : Nat), ∃ (k1 : ClassId), va_P D xC [(h0, .inr (6, [.int x1, .ref q1, .int 0, .long 0, .long 0, .int 0, .int 0, .int 0, .int 0])), (q1, .inl (k1, 24, .inl (fun _ => 0)))] t.heap ∧ va_K D xC [(k1, .int)] t ∧ va_D (va_A [(h0, .inr (6, [.int 0, .null, .int 0, .long 0, .long 0, .int 0, .int 0, .int 0, .int 0]))] sz) [(h0, .inr (6, [.int x1, .ref q1, .int 0, .long 0, .long 0, .int 0, .int 0, .int 0, .int 0])), (q1, .inl (k1, 24, .inl (fun _ => 0)))]) (va_A [(h0, .inr (6, [.int 0, .null, .int 0, .long 0, .long 0, .int 0, .int 0, .int 0, .int 0]))] sz)) 1 24 (va_A [(h0, .inr (6, [.int 0, .null, .int 0, .long 0, .long 0, .int 0, .int 0, .int 0, .int 0]))] sz) := by
  refine Met.ofW (cc := b_Channel_init) (maxL := 2) (ret := none) (by decide) rfl ?_
  intro p e s m args below meth c s₁ B hml hv
  obtain ⟨rfl, hsz, hP, hK, hD0, hN, hO⟩ := hv
  have hx := B.exec
  have hb := B.bytes
  have hr := B.returns
  have hts := atoms_spec (ws := w_Channel_init) B.pre
  have ht : ∀ w ∈ xa, w.before _ s = true := fun w h => hts w (List.mem_cons_of_mem _ h)
  have hown : s.vm.findClass "SecurePair$Channel" = some m.cls := findClass_of_methodNamed B.named
  have hlocks := B.notSynchronized
  have hin : meth.name = "<init>" := (name_of_methodNamed B.named B.method).1
  subst hsz
  have hD := hD0.self (sz := s.heap.size)
  generalize hAe : va_A [(h0, .inr (6, [.int 0, .null, .int 0, .long 0, .long 0, .int 0, .int 0, .int 0, .int 0]))] s.heap.size = A at hD ⊢
  have hA : ∀ q : Nat, s.heap.size ≤ q → A q := fun q h => by rw [← hAe]; exact Or.inr h
  have hS : va_S A s.heap s.heap [] := va_S.rf
  have hl := lv_entry ([.ref h0, .int x1]) (n := 2) (Nat.le_of_ble_eq_true rfl)
  rw [lg_entry_eq]
  generalize (lg_sl ([.ref h0, .int x1]) ++ List.replicate (2 - (lg_sl ([.ref h0, .int x1])).length) Slot.unset).toArray = ls at hl ⊢
  have hl : lv_has ls 2 [(0, .ref h0), (1, .int x1)] := hl
  refine lv_aload_n hx hb d_Channel_init_0 rfl (lv_at hl 0 rfl) ?_
  refine W.objInit hx hb hown (ht _ xw189) (ht _ xw27) (ht _ xw_obj) rfl (by rw [hml]; exact hl.1) rfl d_Channel_init_1 (Nat.le_of_ble_eq_true rfl) (Nat.le_of_ble_eq_true rfl) ?_
  refine W.eq (g2 := F0 m 4 ls []) rfl ?_
  refine lv_aload_n hx hb d_Channel_init_4 rfl (lv_at hl 0 rfl) ?_
  refine lv_bipush (v := 24) hx hb d_Channel_init_5 (by decide) ?_
  refine va_newa (atype := .int) (ty := .int) (a0 := (24, .inl (fun _ => 0))) hx hb (ht _ xw226) rfl hK hP hD hS hA (fun _ => rfl) (by decide) rfl (by decide) (Nat.le_of_ble_eq_true rfl) (Nat.le_of_ble_eq_true rfl) d_Channel_init_7 (fun q1 k1 H hK hP hD hS => ?_)
  have hK : va_K D xC [(k1, .int)] s := hK
  have hP : va_P D xC [(h0, .inr (6, [.int 0, .null, .int 0, .long 0, .long 0, .int 0, .int 0, .int 0, .int 0])), (q1, .inl (k1, 24, .inl (fun _ => 0)))] H := hP
  have hD : va_D A [(h0, .inr (6, [.int 0, .null, .int 0, .long 0, .long 0, .int 0, .int 0, .int 0, .int 0])), (q1, .inl (k1, 24, .inl (fun _ => 0)))] := hD
  refine va_putF (D := D) (ci := 6) (v := .ref q1) (ty := .array .int) (C := "SecurePair$Channel") (T := T_Channel) (N := 9) hx hb ht in_Channel t_Channel t_Channel_ok n_Channel hown hK hP hD hS 0 rfl rfl 1 (by decide) (ht _ xw193) (fun _ h9 => h9) rfl hin rfl (by decide +kernel) rfl rfl (Nat.le_of_ble_eq_true rfl) d_Channel_init_9 (fun H locs hP hD hS => ?_)
  have hP : va_P D xC [(h0, .inr (6, [.int 0, .ref q1, .int 0, .long 0, .long 0, .int 0, .int 0, .int 0, .int 0])), (q1, .inl (k1, 24, .inl (fun _ => 0)))] H := hP
  have hD : va_D A [(h0, .inr (6, [.int 0, .ref q1, .int 0, .long 0, .long 0, .int 0, .int 0, .int 0, .int 0])), (q1, .inl (k1, 24, .inl (fun _ => 0)))] := hD
  refine lv_aload_n hx hb d_Channel_init_12 rfl (lv_at hl 0 rfl) ?_
  refine lv_iload_n hx hb d_Channel_init_13 rfl (lv_at hl 1 rfl) ?_
  refine va_putF (D := D) (ci := 6) (v := .int x1) (ty := .int) (C := "SecurePair$Channel") (T := T_Channel) (N := 9) hx hb ht in_Channel t_Channel t_Channel_ok n_Channel hown hK hP hD hS 0 rfl rfl 0 (by decide) (ht _ xw190) (fun _ h9 => h9) rfl hin rfl (by decide +kernel) rfl rfl (Nat.le_of_ble_eq_true rfl) d_Channel_init_14 (fun H locs hP hD hS => ?_)
  have hP : va_P D xC [(h0, .inr (6, [.int x1, .ref q1, .int 0, .long 0, .long 0, .int 0, .int 0, .int 0, .int 0])), (q1, .inl (k1, 24, .inl (fun _ => 0)))] H := hP
  have hD : va_D A [(h0, .inr (6, [.int x1, .ref q1, .int 0, .long 0, .long 0, .int 0, .int 0, .int 0, .int 0])), (q1, .inl (k1, 24, .inl (fun _ => 0)))] := hD
  have hP9 := hP.sub (ws' := [(h0, .inr (6, [.int x1, .ref q1, .int 0, .long 0, .long 0, .int 0, .int 0, .int 0, .int 0])), (q1, .inl (k1, 24, .inl (fun _ => 0)))]) [0, 1] rfl
  have hD9 := hD.sub (ws' := [(h0, .inr (6, [.int x1, .ref q1, .int 0, .long 0, .long 0, .int 0, .int 0, .int 0, .int 0])), (q1, .inl (k1, 24, .inl (fun _ => 0)))]) [0, 1] (by decide) rfl
  have hK9 := hK.sub (tys' := [(k1, .int)]) [0] rfl
  exact W.vret hx hb hr (fun t ht_ hW => ⟨⟨(), rfl, trivial, q1, k1, by rw [ht_]; exact hP9, va_K.moved hW.alike hK9, hD9⟩, hS.F ht_⟩) hS.2.2 d_Channel_init_17
