theorem p_ownInit_nn {B : Nat} {σ : xb_St} (_ : sp_isEndpoint B) : p_ownInit B σ ≠ none := by
  unfold p_ownInit
  split <;> exact nofun
theorem p_ownInit_is {B K : Nat} {σ : xb_St} (iB : sp_isEndpoint B) (h : p_ownInit B σ = some K) : sp_isInit K := by
  unfold p_ownInit at h
  split at h <;> (have e := Option.some.inj h; omega)
theorem p_peerInit_nn {B : Nat} {σ : xb_St} (_ : sp_isEndpoint B) : p_peerInit B σ ≠ none := by
  unfold p_peerInit
  split <;> exact nofun
theorem p_peerInit_is {B K : Nat} {σ : xb_St} (iB : sp_isEndpoint B) (h : p_peerInit B σ = some K) : sp_isInit K := by
  unfold p_peerInit at h
  split at h <;> (have e := Option.some.inj h; omega)
abbrev b_Endpoint_send : ByteArray := prog_4_method_9_code
def y_Endpoint_send : MethodName := ⟨"SecurePair$Endpoint", "send", "(IJJJJ)V"⟩
abbrev w_Endpoint_send : List Cond := .code y_Endpoint_send b_Endpoint_send 10 none :: xa
theorem d_Endpoint_send_0 : decode b_Endpoint_send 0 = .ok (.aload_n 0, 1) := by decide +kernel
theorem d_Endpoint_send_1 : decode b_Endpoint_send 1 = .ok (.getfield 18, 3) := by decide +kernel
theorem d_Endpoint_send_4 : decode b_Endpoint_send 4 = .ok (.iload_n 1, 1) := by decide +kernel
theorem d_Endpoint_send_5 : decode b_Endpoint_send 5 = .ok (.putfield 101, 3) := by decide +kernel
theorem d_Endpoint_send_8 : decode b_Endpoint_send 8 = .ok (.aload_n 0, 1) := by decide +kernel
theorem d_Endpoint_send_9 : decode b_Endpoint_send 9 = .ok (.getfield 18, 3) := by decide +kernel
theorem d_Endpoint_send_12 : decode b_Endpoint_send 12 = .ok (.lload_n 2, 1) := by decide +kernel
theorem d_Endpoint_send_13 : decode b_Endpoint_send 13 = .ok (.putfield 104, 3) := by decide +kernel
theorem d_Endpoint_send_16 : decode b_Endpoint_send 16 = .ok (.aload_n 0, 1) := by decide +kernel
theorem d_Endpoint_send_17 : decode b_Endpoint_send 17 = .ok (.getfield 18, 3) := by decide +kernel
theorem d_Endpoint_send_20 : decode b_Endpoint_send 20 = .ok (.lload 4, 2) := by decide +kernel
theorem d_Endpoint_send_22 : decode b_Endpoint_send 22 = .ok (.putfield 107, 3) := by decide +kernel
theorem d_Endpoint_send_25 : decode b_Endpoint_send 25 = .ok (.aload_n 0, 1) := by decide +kernel
theorem d_Endpoint_send_26 : decode b_Endpoint_send 26 = .ok (.getfield 18, 3) := by decide +kernel
theorem d_Endpoint_send_29 : decode b_Endpoint_send 29 = .ok (.lload 6, 2) := by decide +kernel
theorem d_Endpoint_send_31 : decode b_Endpoint_send 31 = .ok (.putfield 110, 3) := by decide +kernel
theorem d_Endpoint_send_34 : decode b_Endpoint_send 34 = .ok (.aload_n 0, 1) := by decide +kernel
theorem d_Endpoint_send_35 : decode b_Endpoint_send 35 = .ok (.getfield 18, 3) := by decide +kernel
theorem d_Endpoint_send_38 : decode b_Endpoint_send 38 = .ok (.lload 8, 2) := by decide +kernel
theorem d_Endpoint_send_40 : decode b_Endpoint_send 40 = .ok (.putfield 113, 3) := by decide +kernel
theorem d_Endpoint_send_43 : decode b_Endpoint_send 43 = .ok (.aload_n 0, 1) := by decide +kernel
theorem d_Endpoint_send_44 : decode b_Endpoint_send 44 = .ok (.getfield 18, 3) := by decide +kernel
theorem d_Endpoint_send_47 : decode b_Endpoint_send 47 = .ok (.aload_n 0, 1) := by decide +kernel
theorem d_Endpoint_send_48 : decode b_Endpoint_send 48 = .ok (.getfield 28, 3) := by decide +kernel
theorem d_Endpoint_send_51 : decode b_Endpoint_send 51 = .ok (.aload_n 0, 1) := by decide +kernel
theorem d_Endpoint_send_52 : decode b_Endpoint_send 52 = .ok (.getfield 18, 3) := by decide +kernel
theorem d_Endpoint_send_55 : decode b_Endpoint_send 55 = .ok (.invokevirtual 116, 3) := by decide +kernel
theorem d_Endpoint_send_58 : decode b_Endpoint_send 58 = .ok (.putfield 120, 3) := by decide +kernel
theorem d_Endpoint_send_61 : decode b_Endpoint_send 61 = .ok (.aload_n 0, 1) := by decide +kernel
theorem d_Endpoint_send_62 : decode b_Endpoint_send 62 = .ok (.getfield 28, 3) := by decide +kernel
theorem d_Endpoint_send_65 : decode b_Endpoint_send 65 = .ok (.aload_n 0, 1) := by decide +kernel
theorem d_Endpoint_send_66 : decode b_Endpoint_send 66 = .ok (.getfield 18, 3) := by decide +kernel
theorem d_Endpoint_send_69 : decode b_Endpoint_send 69 = .ok (.invokevirtual 123, 3) := by decide +kernel
theorem d_Endpoint_send_72 : decode b_Endpoint_send 72 = .ok (.aload_n 0, 1) := by decide +kernel
theorem d_Endpoint_send_73 : decode b_Endpoint_send 73 = .ok (.getfield 28, 3) := by decide +kernel
theorem d_Endpoint_send_76 : decode b_Endpoint_send 76 = .ok (.dup, 1) := by decide +kernel
theorem d_Endpoint_send_77 : decode b_Endpoint_send 77 = .ok (.getfield 127, 3) := by decide +kernel
theorem d_Endpoint_send_80 : decode b_Endpoint_send 80 = .ok (.iconst 1, 1) := by decide +kernel
theorem d_Endpoint_send_81 : decode b_Endpoint_send 81 = .ok (.iadd, 1) := by decide +kernel
theorem d_Endpoint_send_82 : decode b_Endpoint_send 82 = .ok (.putfield 127, 3) := by decide +kernel
theorem d_Endpoint_send_85 : decode b_Endpoint_send 85 = .ok (.aload_n 0, 1) := by decide +kernel
theorem d_Endpoint_send_86 : decode b_Endpoint_send 86 = .ok (.getfield 58, 3) := by decide +kernel
theorem d_Endpoint_send_89 : decode b_Endpoint_send 89 = .ok (.aload_n 0, 1) := by decide +kernel
theorem d_Endpoint_send_90 : decode b_Endpoint_send 90 = .ok (.getfield 18, 3) := by decide +kernel
theorem d_Endpoint_send_93 : decode b_Endpoint_send 93 = .ok (.invokevirtual 130, 3) := by decide +kernel
theorem d_Endpoint_send_96 : decode b_Endpoint_send 96 = .ok (.return_, 1) := by decide +kernel
theorem xw62 : (Cond.fieldLink "SecurePair$Endpoint" (101 : Nat) "SecurePair$Packet" "kind" "I") ∈ xa := xa_t 62 (by decide +kernel) (by decide +kernel)
theorem xw67 : (Cond.fieldLink "SecurePair$Endpoint" (104 : Nat) "SecurePair$Packet" "w" "J") ∈ xa := xa_t 67 (by decide +kernel) (by decide +kernel)
theorem xw71 : (Cond.fieldLink "SecurePair$Endpoint" (107 : Nat) "SecurePair$Packet" "x" "J") ∈ xa := xa_t 71 (by decide +kernel) (by decide +kernel)
theorem xw75 : (Cond.fieldLink "SecurePair$Endpoint" (110 : Nat) "SecurePair$Packet" "y" "J") ∈ xa := xa_t 75 (by decide +kernel) (by decide +kernel)
theorem xw79 : (Cond.fieldLink "SecurePair$Endpoint" (113 : Nat) "SecurePair$Packet" "z" "J") ∈ xa := xa_t 79 (by decide +kernel) (by decide +kernel)
theorem xw82 : (Cond.fieldLink "SecurePair$Endpoint" (120 : Nat) "SecurePair$Packet" "tag" "J") ∈ xa := xa_t 82 (by decide +kernel) (by decide +kernel)
theorem xw111 : (Cond.fieldLink "SecurePair$Endpoint" (127 : Nat) "SecurePair$Keys" "number" "I") ∈ xa := xa_t 111 (by decide +kernel) (by decide +kernel)
theorem xw231 : (Cond.fieldLink "SecurePair$Endpoint" (58 : Nat) "SecurePair$Endpoint" "departing" "LSecurePair$Line;") ∈ xa := xa_t 231 (by decide +kernel) (by decide +kernel)
theorem xw234 : (Cond.fieldLink "SecurePair$Endpoint" (18 : Nat) "SecurePair$Endpoint" "made" "LSecurePair$Packet;") ∈ xa := xa_t 234 (by decide +kernel) (by decide +kernel)
theorem xw237 : (Cond.fieldLink "SecurePair$Endpoint" (28 : Nat) "SecurePair$Endpoint" "outgoing" "LSecurePair$Keys;") ∈ xa := xa_t 237 (by decide +kernel) (by decide +kernel)
theorem xw385 : (Cond.methodLink "SecurePair$Endpoint" (116 : Nat) ({ cls := "SecurePair$Keys", name := "tagOf", desc := "(LSecurePair$Packet;)J" } : MethodName)) ∈ xa := xa_t 385 (by decide +kernel) (by decide +kernel)
theorem xw395 : (Cond.methodLink "SecurePair$Endpoint" (123 : Nat) ({ cls := "SecurePair$Keys", name := "cover", desc := "(LSecurePair$Packet;)V" } : MethodName)) ∈ xa := xa_t 395 (by decide +kernel) (by decide +kernel)
theorem xw396 : (Cond.instanceMethod ({ cls := "SecurePair$Keys", name := "cover", desc := "(LSecurePair$Packet;)V" } : MethodName)) ∈ xa := xa_t 396 (by decide +kernel) (by decide +kernel)
theorem xw397 : (Cond.selects "SecurePair$Keys" ({ cls := "SecurePair$Keys", name := "cover", desc := "(LSecurePair$Packet;)V" } : MethodName) ({ cls := "SecurePair$Keys", name := "cover", desc := "(LSecurePair$Packet;)V" } : MethodName)) ∈ xa := xa_t 397 (by decide +kernel) (by decide +kernel)
theorem xw398 : (Cond.code ({ cls := "SecurePair$Keys", name := "cover", desc := "(LSecurePair$Packet;)V" } : MethodName) prog_7_method_5_code (4 : Nat) (Option.none : Option ClassFile.FieldType)) ∈ xa := xa_t 398 (by decide +kernel) (by decide +kernel)
theorem xw402 : (Cond.methodLink "SecurePair$Endpoint" (130 : Nat) ({ cls := "SecurePair$Line", name := "add", desc := "(LSecurePair$Packet;)V" } : MethodName)) ∈ xa := xa_t 402 (by decide +kernel) (by decide +kernel)
theorem xw403 : (Cond.instanceMethod ({ cls := "SecurePair$Line", name := "add", desc := "(LSecurePair$Packet;)V" } : MethodName)) ∈ xa := xa_t 403 (by decide +kernel) (by decide +kernel)
theorem xw404 : (Cond.selects "SecurePair$Line" ({ cls := "SecurePair$Line", name := "add", desc := "(LSecurePair$Packet;)V" } : MethodName) ({ cls := "SecurePair$Line", name := "add", desc := "(LSecurePair$Packet;)V" } : MethodName)) ∈ xa := xa_t 404 (by decide +kernel) (by decide +kernel)
theorem xw405 : (Cond.code ({ cls := "SecurePair$Line", name := "add", desc := "(LSecurePair$Packet;)V" } : MethodName) prog_8_method_2_code (3 : Nat) (Option.none : Option ClassFile.FieldType)) ∈ xa := xa_t 405 (by decide +kernel) (by decide +kernel)
def p_send (B : Nat) (x1 : Int32) (x2 : Int64) (x3 : Int64) (x4 : Int64) (x5 : Int64) (σ : xb_St) : xb_St := (p_Line_add (sp_lnD B) (B + 2) (xb_si (p_Keys_cover (B + 4) (B + 2) (xb_sl (xb_sl (xb_sl (xb_sl (xb_sl (xb_si σ (B + 2) 0 x1) (B + 2) 1 x2) (B + 2) 2 x3) (B + 2) 3 x4) (B + 2) 4 x5) (B + 2) 5 (p_Keys_tagOf (B + 4) (B + 2) (xb_sl (xb_sl (xb_sl (xb_sl (xb_si σ (B + 2) 0 x1) (B + 2) 1 x2) (B + 2) 2 x3) (B + 2) 3 x4) (B + 2) 4 x5)))) (B + 4) 5 (((p_Keys_cover (B + 4) (B + 2) (xb_sl (xb_sl (xb_sl (xb_sl (xb_sl (xb_si σ (B + 2) 0 x1) (B + 2) 1 x2) (B + 2) 2 x3) (B + 2) 3 x4) (B + 2) 4 x5) (B + 2) 5 (p_Keys_tagOf (B + 4) (B + 2) (xb_sl (xb_sl (xb_sl (xb_sl (xb_si σ (B + 2) 0 x1) (B + 2) 1 x2) (B + 2) 2 x3) (B + 2) 3 x4) (B + 2) 4 x5)))).1 (B + 4) 5) + (1 : Int32))))
set_option maxHeartbeats 4000000 in
set_option maxRecDepth 100000 in
theorem c_Endpoint_send (l : Launch) (D : va_G) (α : Nat → Nat) (κ : Nat → ClassId) (hα : xb_inj α 35) (σ : xb_St) (B : Nat) (x1 : Int32) (x2 : Int64) (x3 : Int64) (x4 : Int64) (x5 : Int64) (iB : sp_isEndpoint B) (ok : sp_ok σ) : Met l y_Endpoint_send w_Endpoint_send ({ frames := 2, cells := 0, slots := 0, locals := 48 }) (va_Pc ([.ref (α B), .int x1, .long x2, .long x3, .long x4, .long x5]) (sp_Pre D α κ σ)) (va_Qv (fun u : xb_St => u = p_send B x1 x2 x3 x4 x5 σ) (sp_B D α κ) (xb_A α 35)) 0 0 (xb_A α 35) := by
  refine Met.ofW (cc := b_Endpoint_send) (maxL := 10) (ret := none) (by decide) rfl ?_
  intro p e s m args below meth c s₁ B_ hml hv
  obtain ⟨rfl, hP, hK, hN⟩ := hv
  have hx := B_.exec
  have hb := B_.bytes
  have hr := B_.returns
  have hts := atoms_spec (ws := w_Endpoint_send) B_.pre
  have ht : ∀ w ∈ xa, w.before _ s = true := fun w h => hts w (List.mem_cons_of_mem _ h)
  have hown : s.vm.findClass "SecurePair$Endpoint" = some m.cls := findClass_of_methodNamed B_.named
  have hlocks := B_.notSynchronized
  have hD := sp_D hα κ
  have hS : va_S (xb_A α 35) s.heap s.heap [] := va_S.rf
  have hlA := sp_lnA_is iB
  have hlD := sp_lnD_is iB
  have hln := sp_ln_ne iB
  have hl := lv_entry ([.ref (α B), .int x1, .long x2, .long x3, .long x4, .long x5]) (n := 10) (Nat.le_of_ble_eq_true rfl)
  rw [lg_entry_eq]
  generalize (lg_sl ([.ref (α B), .int x1, .long x2, .long x3, .long x4, .long x5]) ++ List.replicate (10 - (lg_sl ([.ref (α B), .int x1, .long x2, .long x3, .long x4, .long x5])).length) Slot.unset).toArray = ls at hl ⊢
  have hl : lv_has ls 10 [(0, .ref (α B)), (1, .int x1), (2, .long x2), (4, .long x3), (6, .long x4), (8, .long x5)] := hl
  refine lv_aload_n hx hb d_Endpoint_send_0 rfl (lv_at hl 0 rfl) ?_
  refine sp_g_Endpoint (v := .ref (α (B + 2))) hx hb ht hown hK hP iB 4 (by decide) (ht _ xw234) (fun _ h_ => h_) rfl d_Endpoint_send_1 ?_
  refine lv_iload_n hx hb d_Endpoint_send_4 rfl (lv_at hl 1 rfl) ?_
  refine sp_pi_Packet (x := x1) (ty := .int) hx hb ht hown hK hP (by omega) 0 (by decide) (ht _ xw62) (fun _ h_ => h_) hD hS rfl (by decide +kernel) rfl rfl hf_Packet_0 d_Endpoint_send_5 (fun H locs hP hS => ?_)
  refine lv_aload_n hx hb d_Endpoint_send_8 rfl (lv_at hl 0 rfl) ?_
  refine sp_g_Endpoint (v := .ref (α (B + 2))) hx hb ht hown hK hP iB 4 (by decide) (ht _ xw234) (fun _ h_ => h_) rfl d_Endpoint_send_9 ?_
  refine lv_lload_n hx hb d_Endpoint_send_12 rfl (lv_at hl 2 rfl) ?_
  refine sp_pl_Packet (x := x2) (ty := .long) hx hb ht hown hK hP (by omega) 1 (by decide) (ht _ xw67) (fun _ h_ => h_) hD hS rfl (by decide +kernel) rfl rfl hf_Packet_1 d_Endpoint_send_13 (fun H locs hP hS => ?_)
  refine lv_aload_n hx hb d_Endpoint_send_16 rfl (lv_at hl 0 rfl) ?_
  refine sp_g_Endpoint (v := .ref (α (B + 2))) hx hb ht hown hK hP iB 4 (by decide) (ht _ xw234) (fun _ h_ => h_) rfl d_Endpoint_send_17 ?_
  refine lv_lload hx hb d_Endpoint_send_20 (lv_at hl 3 rfl) ?_
  refine sp_pl_Packet (x := x3) (ty := .long) hx hb ht hown hK hP (by omega) 2 (by decide) (ht _ xw71) (fun _ h_ => h_) hD hS rfl (by decide +kernel) rfl rfl hf_Packet_2 d_Endpoint_send_22 (fun H locs hP hS => ?_)
  refine lv_aload_n hx hb d_Endpoint_send_25 rfl (lv_at hl 0 rfl) ?_
  refine sp_g_Endpoint (v := .ref (α (B + 2))) hx hb ht hown hK hP iB 4 (by decide) (ht _ xw234) (fun _ h_ => h_) rfl d_Endpoint_send_26 ?_
  refine lv_lload hx hb d_Endpoint_send_29 (lv_at hl 4 rfl) ?_
  refine sp_pl_Packet (x := x4) (ty := .long) hx hb ht hown hK hP (by omega) 3 (by decide) (ht _ xw75) (fun _ h_ => h_) hD hS rfl (by decide +kernel) rfl rfl hf_Packet_3 d_Endpoint_send_31 (fun H locs hP hS => ?_)
  refine lv_aload_n hx hb d_Endpoint_send_34 rfl (lv_at hl 0 rfl) ?_
  refine sp_g_Endpoint (v := .ref (α (B + 2))) hx hb ht hown hK hP iB 4 (by decide) (ht _ xw234) (fun _ h_ => h_) rfl d_Endpoint_send_35 ?_
  refine lv_lload hx hb d_Endpoint_send_38 (lv_at hl 5 rfl) ?_
  refine sp_pl_Packet (x := x5) (ty := .long) hx hb ht hown hK hP (by omega) 4 (by decide) (ht _ xw79) (fun _ h_ => h_) hD hS rfl (by decide +kernel) rfl rfl hf_Packet_4 d_Endpoint_send_40 (fun H locs hP hS => ?_)
  refine lv_aload_n hx hb d_Endpoint_send_43 rfl (lv_at hl 0 rfl) ?_
  refine sp_g_Endpoint (v := .ref (α (B + 2))) hx hb ht hown hK hP iB 4 (by decide) (ht _ xw234) (fun _ h_ => h_) rfl d_Endpoint_send_44 ?_
  refine lv_aload_n hx hb d_Endpoint_send_47 rfl (lv_at hl 0 rfl) ?_
  refine sp_g_Endpoint (v := .ref (α (B + 4))) hx hb ht hown hK hP iB 6 (by decide) (ht _ xw237) (fun _ h_ => h_) rfl d_Endpoint_send_48 ?_
  refine lv_aload_n hx hb d_Endpoint_send_51 rfl (lv_at hl 0 rfl) ?_
  refine sp_g_Endpoint (v := .ref (α (B + 2))) hx hb ht hown hK hP iB 4 (by decide) (ht _ xw234) (fun _ h_ => h_) rfl d_Endpoint_send_52 ?_
  refine sp_cl (va_runV (As := [.ref (α (B + 2))]) (rest := [.ref (α (B + 2))]) ⟨hx, hb, hml, hown, hts⟩ (c_Keys_tagOf l D α κ hα (xb_sl (xb_sl (xb_sl (xb_sl (xb_si σ (B + 2) 0 x1) (B + 2) 1 x2) (B + 2) 2 x3) (B + 2) 3 x4) (B + 2) 4 x5) (B + 4) (B + 2) (by omega) (by omega)) (cwV 1 hts (xa_V xw385 xw386 xw387 xw6 xw388) rfl rfl rfl (by decide +kernel) ⟨Nat.le_of_ble_eq_true rfl, Nat.le_of_ble_eq_true rfl⟩) ⟨sp_blind, va_recv hK hP rfl (sp_at_Keys (by omega)), sp_pre hP hK hN _⟩ rfl rfl hl.1 rfl (lv_room (Nat.le_of_ble_eq_true rfl)) d_Endpoint_send_55 ⟨Nat.le_of_ble_eq_true rfl, Nat.le_of_ble_eq_true rfl⟩) hS (fun _ h_ => h_) (fun H locs hP hS => ?_)
  refine sp_pl_Packet (x := (p_Keys_tagOf (B + 4) (B + 2) (xb_sl (xb_sl (xb_sl (xb_sl (xb_si σ (B + 2) 0 x1) (B + 2) 1 x2) (B + 2) 2 x3) (B + 2) 3 x4) (B + 2) 4 x5))) (ty := .long) hx hb ht hown hK hP (by omega) 5 (by decide) (ht _ xw82) (fun _ h_ => h_) hD hS rfl (by decide +kernel) rfl rfl hf_Packet_5 d_Endpoint_send_58 (fun H locs hP hS => ?_)
  refine lv_aload_n hx hb d_Endpoint_send_61 rfl (lv_at hl 0 rfl) ?_
  refine sp_g_Endpoint (v := .ref (α (B + 4))) hx hb ht hown hK hP iB 6 (by decide) (ht _ xw237) (fun _ h_ => h_) rfl d_Endpoint_send_62 ?_
  refine lv_aload_n hx hb d_Endpoint_send_65 rfl (lv_at hl 0 rfl) ?_
  refine sp_g_Endpoint (v := .ref (α (B + 2))) hx hb ht hown hK hP iB 4 (by decide) (ht _ xw234) (fun _ h_ => h_) rfl d_Endpoint_send_66 ?_
  refine sp_cv (va_runV (As := [.ref (α (B + 2))]) (rest := []) ⟨hx, hb, hml, hown, hts⟩ (c_Keys_cover l D α κ hα (xb_sl (xb_sl (xb_sl (xb_sl (xb_sl (xb_si σ (B + 2) 0 x1) (B + 2) 1 x2) (B + 2) 2 x3) (B + 2) 3 x4) (B + 2) 4 x5) (B + 2) 5 (p_Keys_tagOf (B + 4) (B + 2) (xb_sl (xb_sl (xb_sl (xb_sl (xb_si σ (B + 2) 0 x1) (B + 2) 1 x2) (B + 2) 2 x3) (B + 2) 3 x4) (B + 2) 4 x5))) (B + 4) (B + 2) (by omega) (by omega)) (cwV 1 hts (xa_V xw395 xw396 xw397 xw6 xw398) rfl rfl rfl (by decide +kernel) ⟨Nat.le_of_ble_eq_true rfl, Nat.le_of_ble_eq_true rfl⟩) ⟨sp_blind, va_recv hK hP rfl (sp_at_Keys (by omega)), sp_pre hP hK hN _⟩ rfl rfl hl.1 rfl (lv_room (Nat.le_of_ble_eq_true rfl)) d_Endpoint_send_69 ⟨Nat.le_of_ble_eq_true rfl, Nat.le_of_ble_eq_true rfl⟩) hS (fun _ h_ => h_) (fun H locs hP hS => ?_)
  obtain ⟨τ1, hτ1⟩ : ∃ t_, t_ = (p_Keys_cover (B + 4) (B + 2) (xb_sl (xb_sl (xb_sl (xb_sl (xb_sl (xb_si σ (B + 2) 0 x1) (B + 2) 1 x2) (B + 2) 2 x3) (B + 2) 3 x4) (B + 2) 4 x5) (B + 2) 5 (p_Keys_tagOf (B + 4) (B + 2) (xb_sl (xb_sl (xb_sl (xb_sl (xb_si σ (B + 2) 0 x1) (B + 2) 1 x2) (B + 2) 2 x3) (B + 2) 3 x4) (B + 2) 4 x5)))) := ⟨_, rfl⟩
  rw [← hτ1] at hP
  have okτ1 : sp_ok τ1 := by rw [hτ1]; exact (ok_p_Keys_cover (B + 4) (B + 2) (by omega) (by omega) (ok_sl (ok_sl (ok_sl (ok_sl (ok_sl (ok_si ok (by omega) (by omega))))))))
  refine lv_aload_n hx hb d_Endpoint_send_72 rfl (lv_at hl 0 rfl) ?_
  refine sp_g_Endpoint (v := .ref (α (B + 4))) hx hb ht hown hK hP iB 6 (by decide) (ht _ xw237) (fun _ h_ => h_) rfl d_Endpoint_send_73 ?_
  refine lv_dup hx hb d_Endpoint_send_76 rfl ?_
  refine sp_g_Keys (v := .int (τ1.1 (B + 4) 5)) hx hb ht hown hK hP (by omega) 5 (by decide) (ht _ xw111) (fun _ h_ => h_) rfl d_Endpoint_send_77 ?_
  refine lv_iconst (v := 1) hx hb d_Endpoint_send_80 (by decide) ?_
  refine lv_iadd hx hb d_Endpoint_send_81 ?_
  refine sp_pi_Keys (x := ((τ1.1 (B + 4) 5) + (1 : Int32))) (ty := .int) hx hb ht hown hK hP (by omega) 5 (by decide) (ht _ xw111) (fun _ h_ => h_) hD hS rfl (by decide +kernel) rfl rfl hf_Keys_5 d_Endpoint_send_82 (fun H locs hP hS => ?_)
  refine lv_aload_n hx hb d_Endpoint_send_85 rfl (lv_at hl 0 rfl) ?_
  refine sp_g_Endpoint (v := .ref (α (sp_lnD B))) hx hb ht hown hK hP iB 1 (by decide) (ht _ xw231) (fun _ h_ => h_) rfl d_Endpoint_send_86 ?_
  refine lv_aload_n hx hb d_Endpoint_send_89 rfl (lv_at hl 0 rfl) ?_
  refine sp_g_Endpoint (v := .ref (α (B + 2))) hx hb ht hown hK hP iB 4 (by decide) (ht _ xw234) (fun _ h_ => h_) rfl d_Endpoint_send_90 ?_
  refine sp_cv (va_runV (As := [.ref (α (B + 2))]) (rest := []) ⟨hx, hb, hml, hown, hts⟩ (c_Line_add l D α κ hα (xb_si τ1 (B + 4) 5 ((τ1.1 (B + 4) 5) + (1 : Int32))) (sp_lnD B) (B + 2) (sp_lnD_is iB) (by omega) (ok_si okτ1 (by omega) (by omega))) (cwV 1 hts (xa_V xw402 xw403 xw404 xw2 xw405) rfl rfl rfl (by decide +kernel) ⟨Nat.le_of_ble_eq_true rfl, Nat.le_of_ble_eq_true rfl⟩) ⟨sp_blind, va_recv hK hP rfl (sp_at_Line (sp_lnD_is iB)), sp_pre hP hK hN _⟩ rfl rfl hl.1 rfl (lv_room (Nat.le_of_ble_eq_true rfl)) d_Endpoint_send_93 ⟨Nat.le_of_ble_eq_true rfl, Nat.le_of_ble_eq_true rfl⟩) hS (fun _ h_ => h_) (fun H locs hP hS => ?_)
  obtain ⟨τ2, hτ2⟩ : ∃ t_, t_ = (p_Line_add (sp_lnD B) (B + 2) (xb_si τ1 (B + 4) 5 ((τ1.1 (B + 4) 5) + (1 : Int32)))) := ⟨_, rfl⟩
  rw [← hτ2] at hP
  have okτ2 : sp_ok τ2 := by rw [hτ2]; exact (ok_p_Line_add (sp_lnD B) (B + 2) (sp_lnD_is iB) (by omega) (ok_si okτ1 (by omega) (by omega)))
  exact W.vret hx hb hr (fun t ht_ hW => ⟨⟨τ2, rfl, (by subst hτ2; subst hτ1; exact rfl), by rw [sp_B, ht_]; exact hP⟩, hS.F ht_⟩) hS.2.2 d_Endpoint_send_96
theorem ok_p_send {σ : xb_St} (B : Nat) (x1 : Int32) (x2 : Int64) (x3 : Int64) (x4 : Int64) (x5 : Int64) (iB : sp_isEndpoint B) (ok : sp_ok σ) : sp_ok (p_send B x1 x2 x3 x4 x5 σ) := by
  have hlA := sp_lnA_is iB
  have hlD := sp_lnD_is iB
  have hln := sp_ln_ne iB
  unfold p_send
  exact (ok_p_Line_add (sp_lnD B) (B + 2) (sp_lnD_is iB) (by omega) (ok_si (ok_p_Keys_cover (B + 4) (B + 2) (by omega) (by omega) (ok_sl (ok_sl (ok_sl (ok_sl (ok_sl (ok_si ok (by omega) (by omega)))))))) (by omega) (by omega)))
abbrev b_Endpoint_fail : ByteArray := prog_4_method_10_code
def y_Endpoint_fail : MethodName := ⟨"SecurePair$Endpoint", "fail", "(J)V"⟩
abbrev w_Endpoint_fail : List Cond := .code y_Endpoint_fail b_Endpoint_fail 3 none :: xa
theorem d_Endpoint_fail_0 : decode b_Endpoint_fail 0 = .ok (.aload_n 0, 1) := by decide +kernel
theorem d_Endpoint_fail_1 : decode b_Endpoint_fail 1 = .ok (.iconst 1, 1) := by decide +kernel
theorem d_Endpoint_fail_2 : decode b_Endpoint_fail 2 = .ok (.lload_n 1, 1) := by decide +kernel
theorem d_Endpoint_fail_3 : decode b_Endpoint_fail 3 = .ok (.lconst 0, 1) := by decide +kernel
theorem d_Endpoint_fail_4 : decode b_Endpoint_fail 4 = .ok (.lconst 0, 1) := by decide +kernel
theorem d_Endpoint_fail_5 : decode b_Endpoint_fail 5 = .ok (.lconst 0, 1) := by decide +kernel
theorem d_Endpoint_fail_6 : decode b_Endpoint_fail 6 = .ok (.invokevirtual 90, 3) := by decide +kernel
theorem d_Endpoint_fail_9 : decode b_Endpoint_fail 9 = .ok (.aload_n 0, 1) := by decide +kernel
theorem d_Endpoint_fail_10 : decode b_Endpoint_fail 10 = .ok (.lload_n 1, 1) := by decide +kernel
theorem d_Endpoint_fail_11 : decode b_Endpoint_fail 11 = .ok (.invokevirtual 135, 3) := by decide +kernel
theorem d_Endpoint_fail_14 : decode b_Endpoint_fail 14 = .ok (.return_, 1) := by decide +kernel
theorem xw3 : (Cond.initialized "SecurePair$Endpoint") ∈ xa := xa_t 3 (by decide +kernel) (by decide +kernel)
theorem xw379 : (Cond.methodLink "SecurePair$Endpoint" (90 : Nat) ({ cls := "SecurePair$Endpoint", name := "send", desc := "(IJJJJ)V" } : MethodName)) ∈ xa := xa_t 379 (by decide +kernel) (by decide +kernel)
theorem xw380 : (Cond.instanceMethod ({ cls := "SecurePair$Endpoint", name := "send", desc := "(IJJJJ)V" } : MethodName)) ∈ xa := xa_t 380 (by decide +kernel) (by decide +kernel)
theorem xw381 : (Cond.sameMethod "SecurePair$Endpoint" "SecurePair$Endpoint" "send" "(IJJJJ)V") ∈ xa := xa_t 381 (by decide +kernel) (by decide +kernel)
theorem xw382 : (Cond.selects "SecurePair$Client" ({ cls := "SecurePair$Endpoint", name := "send", desc := "(IJJJJ)V" } : MethodName) ({ cls := "SecurePair$Endpoint", name := "send", desc := "(IJJJJ)V" } : MethodName)) ∈ xa := xa_t 382 (by decide +kernel) (by decide +kernel)
theorem xw383 : (Cond.selects "SecurePair$Server" ({ cls := "SecurePair$Endpoint", name := "send", desc := "(IJJJJ)V" } : MethodName) ({ cls := "SecurePair$Endpoint", name := "send", desc := "(IJJJJ)V" } : MethodName)) ∈ xa := xa_t 383 (by decide +kernel) (by decide +kernel)
theorem xw384 : (Cond.code ({ cls := "SecurePair$Endpoint", name := "send", desc := "(IJJJJ)V" } : MethodName) prog_4_method_9_code (10 : Nat) (Option.none : Option ClassFile.FieldType)) ∈ xa := xa_t 384 (by decide +kernel) (by decide +kernel)
theorem xw406 : (Cond.methodLink "SecurePair$Endpoint" (135 : Nat) ({ cls := "SecurePair$Endpoint", name := "die", desc := "(J)V" } : MethodName)) ∈ xa := xa_t 406 (by decide +kernel) (by decide +kernel)
theorem xw407 : (Cond.instanceMethod ({ cls := "SecurePair$Endpoint", name := "die", desc := "(J)V" } : MethodName)) ∈ xa := xa_t 407 (by decide +kernel) (by decide +kernel)
theorem xw408 : (Cond.sameMethod "SecurePair$Endpoint" "SecurePair$Endpoint" "die" "(J)V") ∈ xa := xa_t 408 (by decide +kernel) (by decide +kernel)
theorem xw409 : (Cond.selects "SecurePair$Client" ({ cls := "SecurePair$Endpoint", name := "die", desc := "(J)V" } : MethodName) ({ cls := "SecurePair$Endpoint", name := "die", desc := "(J)V" } : MethodName)) ∈ xa := xa_t 409 (by decide +kernel) (by decide +kernel)
theorem xw410 : (Cond.selects "SecurePair$Server" ({ cls := "SecurePair$Endpoint", name := "die", desc := "(J)V" } : MethodName) ({ cls := "SecurePair$Endpoint", name := "die", desc := "(J)V" } : MethodName)) ∈ xa := xa_t 410 (by decide +kernel) (by decide +kernel)
theorem xw411 : (Cond.code ({ cls := "SecurePair$Endpoint", name := "die", desc := "(J)V" } : MethodName) prog_4_method_11_code (3 : Nat) (Option.none : Option ClassFile.FieldType)) ∈ xa := xa_t 411 (by decide +kernel) (by decide +kernel)
def p_fail (B : Nat) (x1 : Int64) (σ : xb_St) : xb_St := (p_die B x1 (p_send B (1 : Int32) x1 (0 : Int64) (0 : Int64) (0 : Int64) σ))
set_option maxHeartbeats 4000000 in
set_option maxRecDepth 100000 in
theorem c_Endpoint_fail (l : Launch) (D : va_G) (α : Nat → Nat) (κ : Nat → ClassId) (hα : xb_inj α 35) (σ : xb_St) (B : Nat) (x1 : Int64) (iB : sp_isEndpoint B) (ok : sp_ok σ) : Met l y_Endpoint_fail w_Endpoint_fail ({ frames := 3, cells := 0, slots := 0, locals := 77 }) (va_Pc ([.ref (α B), .long x1]) (sp_Pre D α κ σ)) (va_Qv (fun u : xb_St => u = p_fail B x1 σ) (sp_B D α κ) (xb_A α 35)) 0 0 (xb_A α 35) := by
  refine Met.ofW (cc := b_Endpoint_fail) (maxL := 3) (ret := none) (by decide) rfl ?_
  intro p e s m args below meth c s₁ B_ hml hv
  obtain ⟨rfl, hP, hK, hN⟩ := hv
  have hx := B_.exec
  have hb := B_.bytes
  have hr := B_.returns
  have hts := atoms_spec (ws := w_Endpoint_fail) B_.pre
  have ht : ∀ w ∈ xa, w.before _ s = true := fun w h => hts w (List.mem_cons_of_mem _ h)
  have hown : s.vm.findClass "SecurePair$Endpoint" = some m.cls := findClass_of_methodNamed B_.named
  have hlocks := B_.notSynchronized
  have hD := sp_D hα κ
  have hS : va_S (xb_A α 35) s.heap s.heap [] := va_S.rf
  have hlA := sp_lnA_is iB
  have hlD := sp_lnD_is iB
  have hln := sp_ln_ne iB
  have hl := lv_entry ([.ref (α B), .long x1]) (n := 3) (Nat.le_of_ble_eq_true rfl)
  rw [lg_entry_eq]
  generalize (lg_sl ([.ref (α B), .long x1]) ++ List.replicate (3 - (lg_sl ([.ref (α B), .long x1])).length) Slot.unset).toArray = ls at hl ⊢
  have hl : lv_has ls 3 [(0, .ref (α B)), (1, .long x1)] := hl
  refine lv_aload_n hx hb d_Endpoint_fail_0 rfl (lv_at hl 0 rfl) ?_
  refine lv_iconst (v := 1) hx hb d_Endpoint_fail_1 (by decide) ?_
  refine lv_lload_n hx hb d_Endpoint_fail_2 rfl (lv_at hl 1 rfl) ?_
  refine lv_lconst (v := 0) hx hb d_Endpoint_fail_3 (by decide) ?_
  refine lv_lconst (v := 0) hx hb d_Endpoint_fail_4 (by decide) ?_
  refine lv_lconst (v := 0) hx hb d_Endpoint_fail_5 (by decide) ?_
  refine sp_cv (sp_runE (n := 5) (As := [.int (1 : Int32), .long x1, .long (0 : Int64), .long (0 : Int64), .long (0 : Int64)]) (rest := []) ⟨hx, hb, hml, hown, hts⟩ (c_Endpoint_send l D α κ hα σ B (1 : Int32) x1 (0 : Int64) (0 : Int64) (0 : Int64) iB ok) iB xw379 xw381 xw382 xw383 xw380 xw3 xw384 rfl rfl rfl (by decide +kernel) ⟨Nat.le_of_ble_eq_true rfl, Nat.le_of_ble_eq_true rfl⟩ hP hK hN rfl rfl hl.1 rfl (lv_room (Nat.le_of_ble_eq_true rfl)) d_Endpoint_fail_6 ⟨Nat.le_of_ble_eq_true rfl, Nat.le_of_ble_eq_true rfl⟩) hS (fun _ h_ => h_) (fun H locs hP hS => ?_)
  obtain ⟨τ1, hτ1⟩ : ∃ t_, t_ = (p_send B (1 : Int32) x1 (0 : Int64) (0 : Int64) (0 : Int64) σ) := ⟨_, rfl⟩
  rw [← hτ1] at hP
  have okτ1 : sp_ok τ1 := by rw [hτ1]; exact (ok_p_send B (1 : Int32) x1 (0 : Int64) (0 : Int64) (0 : Int64) iB ok)
  refine lv_aload_n hx hb d_Endpoint_fail_9 rfl (lv_at hl 0 rfl) ?_
  refine lv_lload_n hx hb d_Endpoint_fail_10 rfl (lv_at hl 1 rfl) ?_
  refine sp_cv (sp_runE (n := 1) (As := [.long x1]) (rest := []) ⟨hx, hb, hml, hown, hts⟩ (c_Endpoint_die l D α κ hα τ1 B x1 iB) iB xw406 xw408 xw409 xw410 xw407 xw3 xw411 rfl rfl rfl (by decide +kernel) ⟨Nat.le_of_ble_eq_true rfl, Nat.le_of_ble_eq_true rfl⟩ hP hK hN rfl rfl hl.1 rfl (lv_room (Nat.le_of_ble_eq_true rfl)) d_Endpoint_fail_11 ⟨Nat.le_of_ble_eq_true rfl, Nat.le_of_ble_eq_true rfl⟩) hS (fun _ h_ => h_) (fun H locs hP hS => ?_)
  obtain ⟨τ2, hτ2⟩ : ∃ t_, t_ = (p_die B x1 τ1) := ⟨_, rfl⟩
  rw [← hτ2] at hP
  have okτ2 : sp_ok τ2 := by rw [hτ2]; exact (ok_p_die B x1 iB okτ1)
  exact W.vret hx hb hr (fun t ht_ hW => ⟨⟨τ2, rfl, (by subst hτ2; subst hτ1; exact rfl), by rw [sp_B, ht_]; exact hP⟩, hS.F ht_⟩) hS.2.2 d_Endpoint_fail_14
theorem ok_p_fail {σ : xb_St} (B : Nat) (x1 : Int64) (iB : sp_isEndpoint B) (ok : sp_ok σ) : sp_ok (p_fail B x1 σ) := by
  have hlA := sp_lnA_is iB
  have hlD := sp_lnD_is iB
  have hln := sp_ln_ne iB
  unfold p_fail
  exact (ok_p_die B x1 iB (ok_p_send B (1 : Int32) x1 (0 : Int64) (0 : Int64) (0 : Int64) iB ok))
abbrev b_Endpoint_start : ByteArray := prog_4_method_6_code
def y_Endpoint_start : MethodName := ⟨"SecurePair$Endpoint", "start", "()V"⟩
abbrev w_Endpoint_start : List Cond := .code y_Endpoint_start b_Endpoint_start 1 none :: xa
theorem d_Endpoint_start_0 : decode b_Endpoint_start 0 = .ok (.aload_n 0, 1) := by decide +kernel
theorem d_Endpoint_start_1 : decode b_Endpoint_start 1 = .ok (.getfield 34, 3) := by decide +kernel
theorem d_Endpoint_start_4 : decode b_Endpoint_start 4 = .ok (.aload_n 0, 1) := by decide +kernel
theorem d_Endpoint_start_5 : decode b_Endpoint_start 5 = .ok (.getfield 64, 3) := by decide +kernel
theorem d_Endpoint_start_8 : decode b_Endpoint_start 8 = .ok (.i2l, 1) := by decide +kernel
theorem d_Endpoint_start_9 : decode b_Endpoint_start 9 = .ok (.putfield 70, 3) := by decide +kernel
theorem d_Endpoint_start_12 : decode b_Endpoint_start 12 = .ok (.aload_n 0, 1) := by decide +kernel
theorem d_Endpoint_start_13 : decode b_Endpoint_start 13 = .ok (.invokevirtual 74, 3) := by decide +kernel
theorem d_Endpoint_start_16 : decode b_Endpoint_start 16 = .ok (.aload_n 0, 1) := by decide +kernel
theorem d_Endpoint_start_17 : decode b_Endpoint_start 17 = .ok (.getfield 78, 3) := by decide +kernel
theorem d_Endpoint_start_20 : decode b_Endpoint_start 20 = .ok (.i2l, 1) := by decide +kernel
theorem d_Endpoint_start_21 : decode b_Endpoint_start 21 = .ok (.aload_n 0, 1) := by decide +kernel
theorem d_Endpoint_start_22 : decode b_Endpoint_start 22 = .ok (.getfield 48, 3) := by decide +kernel
theorem d_Endpoint_start_25 : decode b_Endpoint_start 25 = .ok (.i2l, 1) := by decide +kernel
theorem d_Endpoint_start_26 : decode b_Endpoint_start 26 = .ok (.aload_n 0, 1) := by decide +kernel
theorem d_Endpoint_start_27 : decode b_Endpoint_start 27 = .ok (.getfield 51, 3) := by decide +kernel
theorem d_Endpoint_start_30 : decode b_Endpoint_start 30 = .ok (.i2l, 1) := by decide +kernel
theorem d_Endpoint_start_31 : decode b_Endpoint_start 31 = .ok (.invokevirtual 81, 3) := by decide +kernel
theorem d_Endpoint_start_34 : decode b_Endpoint_start 34 = .ok (.aload_n 0, 1) := by decide +kernel
theorem d_Endpoint_start_35 : decode b_Endpoint_start 35 = .ok (.dup, 1) := by decide +kernel
theorem d_Endpoint_start_36 : decode b_Endpoint_start 36 = .ok (.getfield 78, 3) := by decide +kernel
theorem d_Endpoint_start_39 : decode b_Endpoint_start 39 = .ok (.iconst 1, 1) := by decide +kernel
theorem d_Endpoint_start_40 : decode b_Endpoint_start 40 = .ok (.iadd, 1) := by decide +kernel
theorem d_Endpoint_start_41 : decode b_Endpoint_start 41 = .ok (.putfield 78, 3) := by decide +kernel
theorem d_Endpoint_start_44 : decode b_Endpoint_start 44 = .ok (.aload_n 0, 1) := by decide +kernel
theorem d_Endpoint_start_45 : decode b_Endpoint_start 45 = .ok (.iconst 1, 1) := by decide +kernel
theorem d_Endpoint_start_46 : decode b_Endpoint_start 46 = .ok (.putfield 44, 3) := by decide +kernel
theorem d_Endpoint_start_49 : decode b_Endpoint_start 49 = .ok (.aload_n 0, 1) := by decide +kernel
theorem d_Endpoint_start_50 : decode b_Endpoint_start 50 = .ok (.bipush 20, 2) := by decide +kernel
theorem d_Endpoint_start_52 : decode b_Endpoint_start 52 = .ok (.aload_n 0, 1) := by decide +kernel
theorem d_Endpoint_start_53 : decode b_Endpoint_start 53 = .ok (.invokevirtual 74, 3) := by decide +kernel
theorem d_Endpoint_start_56 : decode b_Endpoint_start 56 = .ok (.getfield 87, 3) := by decide +kernel
theorem d_Endpoint_start_59 : decode b_Endpoint_start 59 = .ok (.aload_n 0, 1) := by decide +kernel
theorem d_Endpoint_start_60 : decode b_Endpoint_start 60 = .ok (.getfield 48, 3) := by decide +kernel
theorem d_Endpoint_start_63 : decode b_Endpoint_start 63 = .ok (.i2l, 1) := by decide +kernel
theorem d_Endpoint_start_64 : decode b_Endpoint_start 64 = .ok (.aload_n 0, 1) := by decide +kernel
theorem d_Endpoint_start_65 : decode b_Endpoint_start 65 = .ok (.getfield 51, 3) := by decide +kernel
theorem d_Endpoint_start_68 : decode b_Endpoint_start 68 = .ok (.i2l, 1) := by decide +kernel
theorem d_Endpoint_start_69 : decode b_Endpoint_start 69 = .ok (.lconst 0, 1) := by decide +kernel
theorem d_Endpoint_start_70 : decode b_Endpoint_start 70 = .ok (.invokevirtual 90, 3) := by decide +kernel
theorem d_Endpoint_start_73 : decode b_Endpoint_start 73 = .ok (.return_, 1) := by decide +kernel
theorem xw139 : (Cond.fieldLink "SecurePair$Endpoint" (87 : Nat) "SecurePair$Init" "count" "J") ∈ xa := xa_t 139 (by decide +kernel) (by decide +kernel)
theorem xw156 : (Cond.fieldLink "SecurePair$Endpoint" (70 : Nat) "SecurePair$Exchange" "secret" "J") ∈ xa := xa_t 156 (by decide +kernel) (by decide +kernel)
theorem xw253 : (Cond.fieldLink "SecurePair$Endpoint" (48 : Nat) "SecurePair$Endpoint" "ciphers" "I") ∈ xa := xa_t 253 (by decide +kernel) (by decide +kernel)
theorem xw255 : (Cond.fieldLink "SecurePair$Endpoint" (51 : Nat) "SecurePair$Endpoint" "tags" "I") ∈ xa := xa_t 255 (by decide +kernel) (by decide +kernel)
theorem xw257 : (Cond.fieldLink "SecurePair$Endpoint" (64 : Nat) "SecurePair$Endpoint" "nextSecret" "I") ∈ xa := xa_t 257 (by decide +kernel) (by decide +kernel)
theorem xw259 : (Cond.fieldLink "SecurePair$Endpoint" (78 : Nat) "SecurePair$Endpoint" "initsSent" "I") ∈ xa := xa_t 259 (by decide +kernel) (by decide +kernel)
theorem xw610 : (Cond.methodLink "SecurePair$Endpoint" (74 : Nat) ({ cls := "SecurePair$Endpoint", name := "ownInit", desc := "()LSecurePair$Init;" } : MethodName)) ∈ xa := xa_t 610 (by decide +kernel) (by decide +kernel)
theorem xw611 : (Cond.instanceMethod ({ cls := "SecurePair$Endpoint", name := "ownInit", desc := "()LSecurePair$Init;" } : MethodName)) ∈ xa := xa_t 611 (by decide +kernel) (by decide +kernel)
theorem xw612 : (Cond.sameMethod "SecurePair$Endpoint" "SecurePair$Endpoint" "ownInit" "()LSecurePair$Init;") ∈ xa := xa_t 612 (by decide +kernel) (by decide +kernel)
theorem xw613 : (Cond.selects "SecurePair$Client" ({ cls := "SecurePair$Endpoint", name := "ownInit", desc := "()LSecurePair$Init;" } : MethodName) ({ cls := "SecurePair$Endpoint", name := "ownInit", desc := "()LSecurePair$Init;" } : MethodName)) ∈ xa := xa_t 613 (by decide +kernel) (by decide +kernel)
theorem xw614 : (Cond.selects "SecurePair$Server" ({ cls := "SecurePair$Endpoint", name := "ownInit", desc := "()LSecurePair$Init;" } : MethodName) ({ cls := "SecurePair$Endpoint", name := "ownInit", desc := "()LSecurePair$Init;" } : MethodName)) ∈ xa := xa_t 614 (by decide +kernel) (by decide +kernel)
theorem xw615 : (Cond.code ({ cls := "SecurePair$Endpoint", name := "ownInit", desc := "()LSecurePair$Init;" } : MethodName) prog_4_method_7_code (1 : Nat) (Option.some (ClassFile.FieldType.object "SecurePair$Init"))) ∈ xa := xa_t 615 (by decide +kernel) (by decide +kernel)
theorem xw616 : (Cond.methodLink "SecurePair$Endpoint" (81 : Nat) ({ cls := "SecurePair$Init", name := "set", desc := "(JJJ)V" } : MethodName)) ∈ xa := xa_t 616 (by decide +kernel) (by decide +kernel)
theorem xw617 : (Cond.instanceMethod ({ cls := "SecurePair$Init", name := "set", desc := "(JJJ)V" } : MethodName)) ∈ xa := xa_t 617 (by decide +kernel) (by decide +kernel)
theorem xw618 : (Cond.selects "SecurePair$Init" ({ cls := "SecurePair$Init", name := "set", desc := "(JJJ)V" } : MethodName) ({ cls := "SecurePair$Init", name := "set", desc := "(JJJ)V" } : MethodName)) ∈ xa := xa_t 618 (by decide +kernel) (by decide +kernel)
theorem xw619 : (Cond.code ({ cls := "SecurePair$Init", name := "set", desc := "(JJJ)V" } : MethodName) prog_6_method_2_code (7 : Nat) (Option.none : Option ClassFile.FieldType)) ∈ xa := xa_t 619 (by decide +kernel) (by decide +kernel)
def p_start (B : Nat) (σ : xb_St) : xb_St := (xb_om (p_ownInit B (xb_sl σ (B + 5) 2 ((σ.1 B 13).toInt64))) (xb_sl σ (B + 5) 2 ((σ.1 B 13).toInt64)) (fun K1 => (xb_om (p_ownInit B (xb_si (xb_si (p_Init_set K1 ((σ.1 B 14).toInt64) ((σ.1 B 11).toInt64) ((σ.1 B 12).toInt64) (xb_sl σ (B + 5) 2 ((σ.1 B 13).toInt64))) B 14 (((p_Init_set K1 ((σ.1 B 14).toInt64) ((σ.1 B 11).toInt64) ((σ.1 B 12).toInt64) (xb_sl σ (B + 5) 2 ((σ.1 B 13).toInt64))).1 B 14) + (1 : Int32))) B 9 (1 : Int32))) (xb_si (xb_si (p_Init_set K1 ((σ.1 B 14).toInt64) ((σ.1 B 11).toInt64) ((σ.1 B 12).toInt64) (xb_sl σ (B + 5) 2 ((σ.1 B 13).toInt64))) B 14 (((p_Init_set K1 ((σ.1 B 14).toInt64) ((σ.1 B 11).toInt64) ((σ.1 B 12).toInt64) (xb_sl σ (B + 5) 2 ((σ.1 B 13).toInt64))).1 B 14) + (1 : Int32))) B 9 (1 : Int32)) (fun K2 => (p_send B (20 : Int32) ((p_Init_set K1 ((σ.1 B 14).toInt64) ((σ.1 B 11).toInt64) ((σ.1 B 12).toInt64) (xb_sl σ (B + 5) 2 ((σ.1 B 13).toInt64))).2 K2 0) (((p_Init_set K1 ((σ.1 B 14).toInt64) ((σ.1 B 11).toInt64) ((σ.1 B 12).toInt64) (xb_sl σ (B + 5) 2 ((σ.1 B 13).toInt64))).1 B 11).toInt64) (((p_Init_set K1 ((σ.1 B 14).toInt64) ((σ.1 B 11).toInt64) ((σ.1 B 12).toInt64) (xb_sl σ (B + 5) 2 ((σ.1 B 13).toInt64))).1 B 12).toInt64) (0 : Int64) (xb_si (xb_si (p_Init_set K1 ((σ.1 B 14).toInt64) ((σ.1 B 11).toInt64) ((σ.1 B 12).toInt64) (xb_sl σ (B + 5) 2 ((σ.1 B 13).toInt64))) B 14 (((p_Init_set K1 ((σ.1 B 14).toInt64) ((σ.1 B 11).toInt64) ((σ.1 B 12).toInt64) (xb_sl σ (B + 5) 2 ((σ.1 B 13).toInt64))).1 B 14) + (1 : Int32))) B 9 (1 : Int32)))))))
set_option maxHeartbeats 4000000 in
set_option maxRecDepth 100000 in
theorem c_Endpoint_start (l : Launch) (D : va_G) (α : Nat → Nat) (κ : Nat → ClassId) (hα : xb_inj α 35) (σ : xb_St) (B : Nat) (iB : sp_isEndpoint B) (ok : sp_ok σ) : Met l y_Endpoint_start w_Endpoint_start ({ frames := 3, cells := 0, slots := 0, locals := 77 }) (va_Pc ([.ref (α B)]) (sp_Pre D α κ σ)) (va_Qv (fun u : xb_St => u = p_start B σ) (sp_B D α κ) (xb_A α 35)) 0 0 (xb_A α 35) := by
  refine Met.ofW (cc := b_Endpoint_start) (maxL := 1) (ret := none) (by decide) rfl ?_
  intro p e s m args below meth c s₁ B_ hml hv
  obtain ⟨rfl, hP, hK, hN⟩ := hv
  have hx := B_.exec
  have hb := B_.bytes
  have hr := B_.returns
  have hts := atoms_spec (ws := w_Endpoint_start) B_.pre
  have ht : ∀ w ∈ xa, w.before _ s = true := fun w h => hts w (List.mem_cons_of_mem _ h)
  have hown : s.vm.findClass "SecurePair$Endpoint" = some m.cls := findClass_of_methodNamed B_.named
  have hlocks := B_.notSynchronized
  have hD := sp_D hα κ
  have hS : va_S (xb_A α 35) s.heap s.heap [] := va_S.rf
  have hlA := sp_lnA_is iB
  have hlD := sp_lnD_is iB
  have hln := sp_ln_ne iB
  have hl := lv_entry ([.ref (α B)]) (n := 1) (Nat.le_of_ble_eq_true rfl)
  rw [lg_entry_eq]
  generalize (lg_sl ([.ref (α B)]) ++ List.replicate (1 - (lg_sl ([.ref (α B)])).length) Slot.unset).toArray = ls at hl ⊢
  have hl : lv_has ls 1 [(0, .ref (α B))] := hl
  refine lv_aload_n hx hb d_Endpoint_start_0 rfl (lv_at hl 0 rfl) ?_
  refine sp_g_Endpoint (v := .ref (α (B + 5))) hx hb ht hown hK hP iB 7 (by decide) (ht _ xw239) (fun _ h_ => h_) rfl d_Endpoint_start_1 ?_
  refine lv_aload_n hx hb d_Endpoint_start_4 rfl (lv_at hl 0 rfl) ?_
  refine sp_g_Endpoint (v := .int (σ.1 B 13)) hx hb ht hown hK hP iB 13 (by decide) (ht _ xw257) (fun _ h_ => h_) rfl d_Endpoint_start_5 ?_
  refine lv_i2l (v := (σ.1 B 13).toInt64) hx hb d_Endpoint_start_8 (by rfl) ?_
  refine sp_pl_Exchange (x := (σ.1 B 13).toInt64) (ty := .long) hx hb ht hown hK hP (by omega) 2 (by decide) (ht _ xw156) (fun _ h_ => h_) hD hS rfl (by decide +kernel) rfl rfl hf_Exchange_2 d_Endpoint_start_9 (fun H locs hP hS => ?_)
  refine lv_aload_n hx hb d_Endpoint_start_12 rfl (lv_at hl 0 rfl) ?_
  refine sp_cq (sp_runE (n := 0) (As := []) (rest := []) ⟨hx, hb, hml, hown, hts⟩ (c_Endpoint_ownInit l D α κ hα (xb_sl σ (B + 5) 2 ((σ.1 B 13).toInt64)) B iB) iB xw610 xw612 xw613 xw614 xw611 xw3 xw615 rfl rfl rfl (by decide +kernel) ⟨Nat.le_of_ble_eq_true rfl, Nat.le_of_ble_eq_true rfl⟩ hP hK hN rfl rfl hl.1 rfl (lv_room (Nat.le_of_ble_eq_true rfl)) d_Endpoint_start_13 ⟨Nat.le_of_ble_eq_true rfl, Nat.le_of_ble_eq_true rfl⟩) hS (fun _ h_ => h_) (fun H locs hP hS => ?_)
  rcases c1 : (p_ownInit B (xb_sl σ (B + 5) 2 ((σ.1 B 13).toInt64))) with _ | K1
  · skip
    exact absurd c1 (p_ownInit_nn iB)
  · skip
    have iK1 := p_ownInit_is iB c1
    refine lv_aload_n hx hb d_Endpoint_start_16 rfl (lv_at hl 0 rfl) ?_
    refine sp_g_Endpoint (v := .int (σ.1 B 14)) hx hb ht hown hK hP iB 14 (by decide) (ht _ xw259) (fun _ h_ => h_) (congrArg (fun z_ => some (Value.int z_)) (xb_i_l)) d_Endpoint_start_17 ?_
    refine lv_i2l (v := (σ.1 B 14).toInt64) hx hb d_Endpoint_start_20 (by rfl) ?_
    refine lv_aload_n hx hb d_Endpoint_start_21 rfl (lv_at hl 0 rfl) ?_
    refine sp_g_Endpoint (v := .int (σ.1 B 11)) hx hb ht hown hK hP iB 11 (by decide) (ht _ xw253) (fun _ h_ => h_) (congrArg (fun z_ => some (Value.int z_)) (xb_i_l)) d_Endpoint_start_22 ?_
    refine lv_i2l (v := (σ.1 B 11).toInt64) hx hb d_Endpoint_start_25 (by rfl) ?_
    refine lv_aload_n hx hb d_Endpoint_start_26 rfl (lv_at hl 0 rfl) ?_
    refine sp_g_Endpoint (v := .int (σ.1 B 12)) hx hb ht hown hK hP iB 12 (by decide) (ht _ xw255) (fun _ h_ => h_) (congrArg (fun z_ => some (Value.int z_)) (xb_i_l)) d_Endpoint_start_27 ?_
    refine lv_i2l (v := (σ.1 B 12).toInt64) hx hb d_Endpoint_start_30 (by rfl) ?_
    refine sp_cv (va_runV (As := [.long ((σ.1 B 14).toInt64), .long ((σ.1 B 11).toInt64), .long ((σ.1 B 12).toInt64)]) (rest := []) ⟨hx, hb, hml, hown, hts⟩ (c_Init_set l D α κ hα (xb_sl σ (B + 5) 2 ((σ.1 B 13).toInt64)) K1 ((σ.1 B 14).toInt64) ((σ.1 B 11).toInt64) ((σ.1 B 12).toInt64) iK1) (cwV 3 hts (xa_V xw616 xw617 xw618 xw8 xw619) rfl rfl rfl (by decide +kernel) ⟨Nat.le_of_ble_eq_true rfl, Nat.le_of_ble_eq_true rfl⟩) ⟨sp_blind, va_recv hK hP rfl (sp_at_Init iK1), sp_pre hP hK hN _⟩ rfl rfl hl.1 rfl (lv_room (Nat.le_of_ble_eq_true rfl)) d_Endpoint_start_31 ⟨Nat.le_of_ble_eq_true rfl, Nat.le_of_ble_eq_true rfl⟩) hS (fun _ h_ => h_) (fun H locs hP hS => ?_)
    obtain ⟨τ1, hτ1⟩ : ∃ t_, t_ = (p_Init_set K1 ((σ.1 B 14).toInt64) ((σ.1 B 11).toInt64) ((σ.1 B 12).toInt64) (xb_sl σ (B + 5) 2 ((σ.1 B 13).toInt64))) := ⟨_, rfl⟩
    rw [← hτ1] at hP
    have okτ1 : sp_ok τ1 := by rw [hτ1]; exact (ok_p_Init_set K1 ((σ.1 B 14).toInt64) ((σ.1 B 11).toInt64) ((σ.1 B 12).toInt64) iK1 (ok_sl ok))
    refine lv_aload_n hx hb d_Endpoint_start_34 rfl (lv_at hl 0 rfl) ?_
    refine lv_dup hx hb d_Endpoint_start_35 rfl ?_
    refine sp_g_Endpoint (v := .int (τ1.1 B 14)) hx hb ht hown hK hP iB 14 (by decide) (ht _ xw259) (fun _ h_ => h_) rfl d_Endpoint_start_36 ?_
    refine lv_iconst (v := 1) hx hb d_Endpoint_start_39 (by decide) ?_
    refine lv_iadd hx hb d_Endpoint_start_40 ?_
    refine sp_pi_Endpoint (x := ((τ1.1 B 14) + (1 : Int32))) (ty := .int) hx hb ht hown hK hP iB 14 (by decide) (ht _ xw259) (fun _ h_ => h_) hD hS rfl (by decide +kernel) rfl rfl hf_Endpoint_14 d_Endpoint_start_41 (fun H locs hP hS => ?_)
    refine lv_aload_n hx hb d_Endpoint_start_44 rfl (lv_at hl 0 rfl) ?_
    refine lv_iconst (v := 1) hx hb d_Endpoint_start_45 (by decide) ?_
    refine sp_pi_Endpoint (x := (1 : Int32)) (ty := .int) hx hb ht hown hK hP iB 9 (by decide) (ht _ xw245) (fun _ h_ => h_) hD hS rfl (by decide +kernel) rfl rfl hf_Endpoint_9 d_Endpoint_start_46 (fun H locs hP hS => ?_)
    refine lv_aload_n hx hb d_Endpoint_start_49 rfl (lv_at hl 0 rfl) ?_
    refine lv_bipush (v := 20) hx hb d_Endpoint_start_50 (by decide) ?_
    refine lv_aload_n hx hb d_Endpoint_start_52 rfl (lv_at hl 0 rfl) ?_
    refine sp_cq (sp_runE (n := 0) (As := []) (rest := [.int (20 : Int32), .ref (α B)]) ⟨hx, hb, hml, hown, hts⟩ (c_Endpoint_ownInit l D α κ hα (xb_si (xb_si τ1 B 14 ((τ1.1 B 14) + (1 : Int32))) B 9 (1 : Int32)) B iB) iB xw610 xw612 xw613 xw614 xw611 xw3 xw615 rfl rfl rfl (by decide +kernel) ⟨Nat.le_of_ble_eq_true rfl, Nat.le_of_ble_eq_true rfl⟩ hP hK hN rfl rfl hl.1 rfl (lv_room (Nat.le_of_ble_eq_true rfl)) d_Endpoint_start_53 ⟨Nat.le_of_ble_eq_true rfl, Nat.le_of_ble_eq_true rfl⟩) hS (fun _ h_ => h_) (fun H locs hP hS => ?_)
    rcases c2 : (p_ownInit B (xb_si (xb_si τ1 B 14 ((τ1.1 B 14) + (1 : Int32))) B 9 (1 : Int32))) with _ | K2
    · skip
      exact absurd c2 (p_ownInit_nn iB)
    · skip
      have iK2 := p_ownInit_is iB c2
      refine sp_g_Init (v := .long (τ1.2 K2 0)) hx hb ht hown hK hP iK2 0 (by decide) (ht _ xw139) (fun _ h_ => h_) (congrArg (fun z_ => some (Value.long z_)) ((xb_l_i).trans (xb_l_i))) d_Endpoint_start_56 ?_
      refine lv_aload_n hx hb d_Endpoint_start_59 rfl (lv_at hl 0 rfl) ?_
      refine sp_g_Endpoint (v := .int (τ1.1 B 11)) hx hb ht hown hK hP iB 11 (by decide) (ht _ xw253) (fun _ h_ => h_) (congrArg (fun z_ => some (Value.int z_)) (((xb_i_nj (by decide))).trans ((xb_i_nj (by decide))))) d_Endpoint_start_60 ?_
      refine lv_i2l (v := (τ1.1 B 11).toInt64) hx hb d_Endpoint_start_63 (by rfl) ?_
      refine lv_aload_n hx hb d_Endpoint_start_64 rfl (lv_at hl 0 rfl) ?_
      refine sp_g_Endpoint (v := .int (τ1.1 B 12)) hx hb ht hown hK hP iB 12 (by decide) (ht _ xw255) (fun _ h_ => h_) (congrArg (fun z_ => some (Value.int z_)) (((xb_i_nj (by decide))).trans ((xb_i_nj (by decide))))) d_Endpoint_start_65 ?_
      refine lv_i2l (v := (τ1.1 B 12).toInt64) hx hb d_Endpoint_start_68 (by rfl) ?_
      refine lv_lconst (v := 0) hx hb d_Endpoint_start_69 (by decide) ?_
      refine sp_cv (sp_runE (n := 5) (As := [.int (20 : Int32), .long (τ1.2 K2 0), .long ((τ1.1 B 11).toInt64), .long ((τ1.1 B 12).toInt64), .long (0 : Int64)]) (rest := []) ⟨hx, hb, hml, hown, hts⟩ (c_Endpoint_send l D α κ hα (xb_si (xb_si τ1 B 14 ((τ1.1 B 14) + (1 : Int32))) B 9 (1 : Int32)) B (20 : Int32) (τ1.2 K2 0) ((τ1.1 B 11).toInt64) ((τ1.1 B 12).toInt64) (0 : Int64) iB (ok_si (ok_si okτ1 (by omega) (by omega)) (by omega) (by omega))) iB xw379 xw381 xw382 xw383 xw380 xw3 xw384 rfl rfl rfl (by decide +kernel) ⟨Nat.le_of_ble_eq_true rfl, Nat.le_of_ble_eq_true rfl⟩ hP hK hN rfl rfl hl.1 rfl (lv_room (Nat.le_of_ble_eq_true rfl)) d_Endpoint_start_70 ⟨Nat.le_of_ble_eq_true rfl, Nat.le_of_ble_eq_true rfl⟩) hS (fun _ h_ => h_) (fun H locs hP hS => ?_)
      obtain ⟨τ2, hτ2⟩ : ∃ t_, t_ = (p_send B (20 : Int32) (τ1.2 K2 0) ((τ1.1 B 11).toInt64) ((τ1.1 B 12).toInt64) (0 : Int64) (xb_si (xb_si τ1 B 14 ((τ1.1 B 14) + (1 : Int32))) B 9 (1 : Int32))) := ⟨_, rfl⟩
      rw [← hτ2] at hP
      have okτ2 : sp_ok τ2 := by rw [hτ2]; exact (ok_p_send B (20 : Int32) (τ1.2 K2 0) ((τ1.1 B 11).toInt64) ((τ1.1 B 12).toInt64) (0 : Int64) iB (ok_si (ok_si okτ1 (by omega) (by omega)) (by omega) (by omega)))
      exact W.vret hx hb hr (fun t ht_ hW => ⟨⟨τ2, rfl, (by subst hτ2; subst hτ1; exact (by unfold p_start; rw [xb_om_some c1, xb_om_some c2])), by rw [sp_B, ht_]; exact hP⟩, hS.F ht_⟩) hS.2.2 d_Endpoint_start_73
theorem ok_p_start {σ : xb_St} (B : Nat) (iB : sp_isEndpoint B) (ok : sp_ok σ) : sp_ok (p_start B σ) := by
  have hlA := sp_lnA_is iB
  have hlD := sp_lnD_is iB
  have hln := sp_ln_ne iB
  unfold p_start
  rcases c1 : (p_ownInit B (xb_sl σ (B + 5) 2 ((σ.1 B 13).toInt64))) with _ | K1
  · dsimp only [xb_om]
    exact absurd c1 (p_ownInit_nn iB)
  · dsimp only [xb_om]
    have iK1 := p_ownInit_is iB c1
    rcases c2 : (p_ownInit B (xb_si (xb_si (p_Init_set K1 ((σ.1 B 14).toInt64) ((σ.1 B 11).toInt64) ((σ.1 B 12).toInt64) (xb_sl σ (B + 5) 2 ((σ.1 B 13).toInt64))) B 14 (((p_Init_set K1 ((σ.1 B 14).toInt64) ((σ.1 B 11).toInt64) ((σ.1 B 12).toInt64) (xb_sl σ (B + 5) 2 ((σ.1 B 13).toInt64))).1 B 14) + (1 : Int32))) B 9 (1 : Int32))) with _ | K2
    · dsimp only [xb_om]
      exact absurd c2 (p_ownInit_nn iB)
    · dsimp only [xb_om]
      have iK2 := p_ownInit_is iB c2
      exact (ok_p_send B (20 : Int32) ((p_Init_set K1 ((σ.1 B 14).toInt64) ((σ.1 B 11).toInt64) ((σ.1 B 12).toInt64) (xb_sl σ (B + 5) 2 ((σ.1 B 13).toInt64))).2 K2 0) (((p_Init_set K1 ((σ.1 B 14).toInt64) ((σ.1 B 11).toInt64) ((σ.1 B 12).toInt64) (xb_sl σ (B + 5) 2 ((σ.1 B 13).toInt64))).1 B 11).toInt64) (((p_Init_set K1 ((σ.1 B 14).toInt64) ((σ.1 B 11).toInt64) ((σ.1 B 12).toInt64) (xb_sl σ (B + 5) 2 ((σ.1 B 13).toInt64))).1 B 12).toInt64) (0 : Int64) iB (ok_si (ok_si (ok_p_Init_set K1 ((σ.1 B 14).toInt64) ((σ.1 B 11).toInt64) ((σ.1 B 12).toInt64) iK1 (ok_sl ok)) (by omega) (by omega)) (by omega) (by omega)))
abbrev b_Endpoint_turn : ByteArray := prog_4_method_15_code
def y_Endpoint_turn : MethodName := ⟨"SecurePair$Endpoint", "turn", "()V"⟩
abbrev w_Endpoint_turn : List Cond := .code y_Endpoint_turn b_Endpoint_turn 1 none :: xa
theorem d_Endpoint_turn_0 : decode b_Endpoint_turn 0 = .ok (.aload_n 0, 1) := by decide +kernel
theorem d_Endpoint_turn_1 : decode b_Endpoint_turn 1 = .ok (.bipush 21, 2) := by decide +kernel
theorem d_Endpoint_turn_3 : decode b_Endpoint_turn 3 = .ok (.lconst 0, 1) := by decide +kernel
theorem d_Endpoint_turn_4 : decode b_Endpoint_turn 4 = .ok (.lconst 0, 1) := by decide +kernel
theorem d_Endpoint_turn_5 : decode b_Endpoint_turn 5 = .ok (.lconst 0, 1) := by decide +kernel
theorem d_Endpoint_turn_6 : decode b_Endpoint_turn 6 = .ok (.lconst 0, 1) := by decide +kernel
theorem d_Endpoint_turn_7 : decode b_Endpoint_turn 7 = .ok (.invokevirtual 90, 3) := by decide +kernel
theorem d_Endpoint_turn_10 : decode b_Endpoint_turn 10 = .ok (.aload_n 0, 1) := by decide +kernel
theorem d_Endpoint_turn_11 : decode b_Endpoint_turn 11 = .ok (.getfield 192, 3) := by decide +kernel
theorem d_Endpoint_turn_14 : decode b_Endpoint_turn 14 = .ok (.ifCond .ne 19, 3) := by decide +kernel
theorem d_Endpoint_turn_17 : decode b_Endpoint_turn 17 = .ok (.aload_n 0, 1) := by decide +kernel
theorem d_Endpoint_turn_18 : decode b_Endpoint_turn 18 = .ok (.iconst 1, 1) := by decide +kernel
theorem d_Endpoint_turn_19 : decode b_Endpoint_turn 19 = .ok (.putfield 192, 3) := by decide +kernel
theorem d_Endpoint_turn_22 : decode b_Endpoint_turn 22 = .ok (.aload_n 0, 1) := by decide +kernel
theorem d_Endpoint_turn_23 : decode b_Endpoint_turn 23 = .ok (.aload_n 0, 1) := by decide +kernel
theorem d_Endpoint_turn_24 : decode b_Endpoint_turn 24 = .ok (.getfield 34, 3) := by decide +kernel
theorem d_Endpoint_turn_27 : decode b_Endpoint_turn 27 = .ok (.getfield 195, 3) := by decide +kernel
theorem d_Endpoint_turn_30 : decode b_Endpoint_turn 30 = .ok (.putfield 198, 3) := by decide +kernel
theorem d_Endpoint_turn_33 : decode b_Endpoint_turn 33 = .ok (.aload_n 0, 1) := by decide +kernel
theorem d_Endpoint_turn_34 : decode b_Endpoint_turn 34 = .ok (.getfield 28, 3) := by decide +kernel
theorem d_Endpoint_turn_37 : decode b_Endpoint_turn 37 = .ok (.aload_n 0, 1) := by decide +kernel
theorem d_Endpoint_turn_38 : decode b_Endpoint_turn 38 = .ok (.getfield 34, 3) := by decide +kernel
theorem d_Endpoint_turn_41 : decode b_Endpoint_turn 41 = .ok (.aload_n 0, 1) := by decide +kernel
theorem d_Endpoint_turn_42 : decode b_Endpoint_turn 42 = .ok (.getfield 198, 3) := by decide +kernel
theorem d_Endpoint_turn_45 : decode b_Endpoint_turn 45 = .ok (.aload_n 0, 1) := by decide +kernel
theorem d_Endpoint_turn_46 : decode b_Endpoint_turn 46 = .ok (.getfield 61, 3) := by decide +kernel
theorem d_Endpoint_turn_49 : decode b_Endpoint_turn 49 = .ok (.invokevirtual 201, 3) := by decide +kernel
theorem d_Endpoint_turn_52 : decode b_Endpoint_turn 52 = .ok (.aload_n 0, 1) := by decide +kernel
theorem d_Endpoint_turn_53 : decode b_Endpoint_turn 53 = .ok (.iconst 3, 1) := by decide +kernel
theorem d_Endpoint_turn_54 : decode b_Endpoint_turn 54 = .ok (.putfield 44, 3) := by decide +kernel
theorem d_Endpoint_turn_57 : decode b_Endpoint_turn 57 = .ok (.return_, 1) := by decide +kernel
theorem xw167 : (Cond.fieldLink "SecurePair$Endpoint" (195 : Nat) "SecurePair$Exchange" "hash" "J") ∈ xa := xa_t 167 (by decide +kernel) (by decide +kernel)
theorem xw261 : (Cond.fieldLink "SecurePair$Endpoint" (192 : Nat) "SecurePair$Endpoint" "hasSession" "Z") ∈ xa := xa_t 261 (by decide +kernel) (by decide +kernel)
theorem xw262 : (Cond.fieldLink "SecurePair$Endpoint" (198 : Nat) "SecurePair$Endpoint" "session" "J") ∈ xa := xa_t 262 (by decide +kernel) (by decide +kernel)
theorem xw734 : (Cond.methodLink "SecurePair$Endpoint" (201 : Nat) ({ cls := "SecurePair$Keys", name := "renew", desc := "(LSecurePair$Exchange;JI)V" } : MethodName)) ∈ xa := xa_t 734 (by decide +kernel) (by decide +kernel)
theorem xw735 : (Cond.instanceMethod ({ cls := "SecurePair$Keys", name := "renew", desc := "(LSecurePair$Exchange;JI)V" } : MethodName)) ∈ xa := xa_t 735 (by decide +kernel) (by decide +kernel)
theorem xw736 : (Cond.selects "SecurePair$Keys" ({ cls := "SecurePair$Keys", name := "renew", desc := "(LSecurePair$Exchange;JI)V" } : MethodName) ({ cls := "SecurePair$Keys", name := "renew", desc := "(LSecurePair$Exchange;JI)V" } : MethodName)) ∈ xa := xa_t 736 (by decide +kernel) (by decide +kernel)
theorem xw737 : (Cond.code ({ cls := "SecurePair$Keys", name := "renew", desc := "(LSecurePair$Exchange;JI)V" } : MethodName) prog_7_method_2_code (7 : Nat) (Option.none : Option ClassFile.FieldType)) ∈ xa := xa_t 737 (by decide +kernel) (by decide +kernel)
def p_turn (B : Nat) (σ : xb_St) : xb_St := (if ((p_send B (21 : Int32) (0 : Int64) (0 : Int64) (0 : Int64) (0 : Int64) σ).1 B 15) = 0 then (xb_si (p_Keys_renew (B + 4) (B + 5) ((p_send B (21 : Int32) (0 : Int64) (0 : Int64) (0 : Int64) (0 : Int64) σ).2 (B + 5) 6) ((p_send B (21 : Int32) (0 : Int64) (0 : Int64) (0 : Int64) (0 : Int64) σ).1 B 2) (xb_sl (xb_si (p_send B (21 : Int32) (0 : Int64) (0 : Int64) (0 : Int64) (0 : Int64) σ) B 15 (1 : Int32)) B 16 ((p_send B (21 : Int32) (0 : Int64) (0 : Int64) (0 : Int64) (0 : Int64) σ).2 (B + 5) 6))) B 9 (3 : Int32)) else (xb_si (p_Keys_renew (B + 4) (B + 5) ((p_send B (21 : Int32) (0 : Int64) (0 : Int64) (0 : Int64) (0 : Int64) σ).2 B 16) ((p_send B (21 : Int32) (0 : Int64) (0 : Int64) (0 : Int64) (0 : Int64) σ).1 B 2) (p_send B (21 : Int32) (0 : Int64) (0 : Int64) (0 : Int64) (0 : Int64) σ)) B 9 (3 : Int32)))
set_option maxHeartbeats 4000000 in
set_option maxRecDepth 100000 in
theorem c_Endpoint_turn (l : Launch) (D : va_G) (α : Nat → Nat) (κ : Nat → ClassId) (hα : xb_inj α 35) (σ : xb_St) (B : Nat) (iB : sp_isEndpoint B) (ok : sp_ok σ) : Met l y_Endpoint_turn w_Endpoint_turn ({ frames := 3, cells := 0, slots := 0, locals := 77 }) (va_Pc ([.ref (α B)]) (sp_Pre D α κ σ)) (va_Qv (fun u : xb_St => u = p_turn B σ) (sp_B D α κ) (xb_A α 35)) 0 0 (xb_A α 35) := by
  refine Met.ofW (cc := b_Endpoint_turn) (maxL := 1) (ret := none) (by decide) rfl ?_
  intro p e s m args below meth c s₁ B_ hml hv
  obtain ⟨rfl, hP, hK, hN⟩ := hv
  have hx := B_.exec
  have hb := B_.bytes
  have hr := B_.returns
  have hts := atoms_spec (ws := w_Endpoint_turn) B_.pre
  have ht : ∀ w ∈ xa, w.before _ s = true := fun w h => hts w (List.mem_cons_of_mem _ h)
  have hown : s.vm.findClass "SecurePair$Endpoint" = some m.cls := findClass_of_methodNamed B_.named
  have hlocks := B_.notSynchronized
  have hD := sp_D hα κ
  have hS : va_S (xb_A α 35) s.heap s.heap [] := va_S.rf
  have hlA := sp_lnA_is iB
  have hlD := sp_lnD_is iB
  have hln := sp_ln_ne iB
  have hl := lv_entry ([.ref (α B)]) (n := 1) (Nat.le_of_ble_eq_true rfl)
  rw [lg_entry_eq]
  generalize (lg_sl ([.ref (α B)]) ++ List.replicate (1 - (lg_sl ([.ref (α B)])).length) Slot.unset).toArray = ls at hl ⊢
  have hl : lv_has ls 1 [(0, .ref (α B))] := hl
  refine lv_aload_n hx hb d_Endpoint_turn_0 rfl (lv_at hl 0 rfl) ?_
  refine lv_bipush (v := 21) hx hb d_Endpoint_turn_1 (by decide) ?_
  refine lv_lconst (v := 0) hx hb d_Endpoint_turn_3 (by decide) ?_
  refine lv_lconst (v := 0) hx hb d_Endpoint_turn_4 (by decide) ?_
  refine lv_lconst (v := 0) hx hb d_Endpoint_turn_5 (by decide) ?_
  refine lv_lconst (v := 0) hx hb d_Endpoint_turn_6 (by decide) ?_
  refine sp_cv (sp_runE (n := 5) (As := [.int (21 : Int32), .long (0 : Int64), .long (0 : Int64), .long (0 : Int64), .long (0 : Int64)]) (rest := []) ⟨hx, hb, hml, hown, hts⟩ (c_Endpoint_send l D α κ hα σ B (21 : Int32) (0 : Int64) (0 : Int64) (0 : Int64) (0 : Int64) iB ok) iB xw379 xw381 xw382 xw383 xw380 xw3 xw384 rfl rfl rfl (by decide +kernel) ⟨Nat.le_of_ble_eq_true rfl, Nat.le_of_ble_eq_true rfl⟩ hP hK hN rfl rfl hl.1 rfl (lv_room (Nat.le_of_ble_eq_true rfl)) d_Endpoint_turn_7 ⟨Nat.le_of_ble_eq_true rfl, Nat.le_of_ble_eq_true rfl⟩) hS (fun _ h_ => h_) (fun H locs hP hS => ?_)
  obtain ⟨τ1, hτ1⟩ : ∃ t_, t_ = (p_send B (21 : Int32) (0 : Int64) (0 : Int64) (0 : Int64) (0 : Int64) σ) := ⟨_, rfl⟩
  rw [← hτ1] at hP
  have okτ1 : sp_ok τ1 := by rw [hτ1]; exact (ok_p_send B (21 : Int32) (0 : Int64) (0 : Int64) (0 : Int64) (0 : Int64) iB ok)
  refine lv_aload_n hx hb d_Endpoint_turn_10 rfl (lv_at hl 0 rfl) ?_
  refine sp_g_Endpoint (v := .int (τ1.1 B 15)) hx hb ht hown hK hP iB 15 (by decide) (ht _ xw261) (fun _ h_ => h_) rfl d_Endpoint_turn_11 ?_
  refine lv_if_ne (tgt := 33) hx hb d_Endpoint_turn_14 (by decide) (fun c1 => ?_) (fun c1 => ?_)
  · skip
    refine lv_aload_n hx hb d_Endpoint_turn_33 rfl (lv_at hl 0 rfl) ?_
    refine sp_g_Endpoint (v := .ref (α (B + 4))) hx hb ht hown hK hP iB 6 (by decide) (ht _ xw237) (fun _ h_ => h_) rfl d_Endpoint_turn_34 ?_
    refine lv_aload_n hx hb d_Endpoint_turn_37 rfl (lv_at hl 0 rfl) ?_
    refine sp_g_Endpoint (v := .ref (α (B + 5))) hx hb ht hown hK hP iB 7 (by decide) (ht _ xw239) (fun _ h_ => h_) rfl d_Endpoint_turn_38 ?_
    refine lv_aload_n hx hb d_Endpoint_turn_41 rfl (lv_at hl 0 rfl) ?_
    refine sp_g_Endpoint (v := .long (τ1.2 B 16)) hx hb ht hown hK hP iB 16 (by decide) (ht _ xw262) (fun _ h_ => h_) rfl d_Endpoint_turn_42 ?_
    refine lv_aload_n hx hb d_Endpoint_turn_45 rfl (lv_at hl 0 rfl) ?_
    refine sp_g_Endpoint (v := .int (τ1.1 B 2)) hx hb ht hown hK hP iB 2 (by decide) (ht _ xw232) (fun _ h_ => h_) rfl d_Endpoint_turn_46 ?_
    refine sp_cv (va_runV (As := [.ref (α (B + 5)), .long (τ1.2 B 16), .int (τ1.1 B 2)]) (rest := []) ⟨hx, hb, hml, hown, hts⟩ (c_Keys_renew l D α κ hα τ1 (B + 4) (B + 5) (τ1.2 B 16) (τ1.1 B 2) (by omega) (by omega)) (cwV 3 hts (xa_V xw734 xw735 xw736 xw6 xw737) rfl rfl rfl (by decide +kernel) ⟨Nat.le_of_ble_eq_true rfl, Nat.le_of_ble_eq_true rfl⟩) ⟨sp_blind, va_recv hK hP rfl (sp_at_Keys (by omega)), sp_pre hP hK hN _⟩ rfl rfl hl.1 rfl (lv_room (Nat.le_of_ble_eq_true rfl)) d_Endpoint_turn_49 ⟨Nat.le_of_ble_eq_true rfl, Nat.le_of_ble_eq_true rfl⟩) hS (fun _ h_ => h_) (fun H locs hP hS => ?_)
    obtain ⟨τ2, hτ2⟩ : ∃ t_, t_ = (p_Keys_renew (B + 4) (B + 5) (τ1.2 B 16) (τ1.1 B 2) τ1) := ⟨_, rfl⟩
    rw [← hτ2] at hP
    have okτ2 : sp_ok τ2 := by rw [hτ2]; exact (ok_p_Keys_renew (B + 4) (B + 5) (τ1.2 B 16) (τ1.1 B 2) (by omega) (by omega) okτ1)
    refine lv_aload_n hx hb d_Endpoint_turn_52 rfl (lv_at hl 0 rfl) ?_
    refine lv_iconst (v := 3) hx hb d_Endpoint_turn_53 (by decide) ?_
    refine sp_pi_Endpoint (x := (3 : Int32)) (ty := .int) hx hb ht hown hK hP iB 9 (by decide) (ht _ xw245) (fun _ h_ => h_) hD hS rfl (by decide +kernel) rfl rfl hf_Endpoint_9 d_Endpoint_turn_54 (fun H locs hP hS => ?_)
    exact W.vret hx hb hr (fun t ht_ hW => ⟨⟨(xb_si τ2 B 9 (3 : Int32)), rfl, (by subst hτ2; subst hτ1; exact ((if_neg c1)).symm), by rw [sp_B, ht_]; exact hP⟩, hS.F ht_⟩) hS.2.2 d_Endpoint_turn_57
  · skip
    refine lv_aload_n hx hb d_Endpoint_turn_17 rfl (lv_at hl 0 rfl) ?_
    refine lv_iconst (v := 1) hx hb d_Endpoint_turn_18 (by decide) ?_
    refine sp_pi_Endpoint (x := (1 : Int32)) (ty := .boolean) hx hb ht hown hK hP iB 15 (by decide) (ht _ xw261) (fun _ h_ => h_) hD hS rfl (by decide +kernel) rfl rfl hf_Endpoint_15 d_Endpoint_turn_19 (fun H locs hP hS => ?_)
    refine lv_aload_n hx hb d_Endpoint_turn_22 rfl (lv_at hl 0 rfl) ?_
    refine lv_aload_n hx hb d_Endpoint_turn_23 rfl (lv_at hl 0 rfl) ?_
    refine sp_g_Endpoint (v := .ref (α (B + 5))) hx hb ht hown hK hP iB 7 (by decide) (ht _ xw239) (fun _ h_ => h_) rfl d_Endpoint_turn_24 ?_
    refine sp_g_Exchange (v := .long (τ1.2 (B + 5) 6)) hx hb ht hown hK hP (by omega) 6 (by decide) (ht _ xw167) (fun _ h_ => h_) (congrArg (fun z_ => some (Value.long z_)) (xb_l_i)) d_Endpoint_turn_27 ?_
    refine sp_pl_Endpoint (x := (τ1.2 (B + 5) 6)) (ty := .long) hx hb ht hown hK hP iB 16 (by decide) (ht _ xw262) (fun _ h_ => h_) hD hS rfl (by decide +kernel) rfl rfl hf_Endpoint_16 d_Endpoint_turn_30 (fun H locs hP hS => ?_)
    refine lv_aload_n hx hb d_Endpoint_turn_33 rfl (lv_at hl 0 rfl) ?_
    refine sp_g_Endpoint (v := .ref (α (B + 4))) hx hb ht hown hK hP iB 6 (by decide) (ht _ xw237) (fun _ h_ => h_) rfl d_Endpoint_turn_34 ?_
    refine lv_aload_n hx hb d_Endpoint_turn_37 rfl (lv_at hl 0 rfl) ?_
    refine sp_g_Endpoint (v := .ref (α (B + 5))) hx hb ht hown hK hP iB 7 (by decide) (ht _ xw239) (fun _ h_ => h_) rfl d_Endpoint_turn_38 ?_
    refine lv_aload_n hx hb d_Endpoint_turn_41 rfl (lv_at hl 0 rfl) ?_
    refine sp_g_Endpoint (v := .long (τ1.2 (B + 5) 6)) hx hb ht hown hK hP iB 16 (by decide) (ht _ xw262) (fun _ h_ => h_) (congrArg (fun z_ => some (Value.long z_)) (xb_l_hit)) d_Endpoint_turn_42 ?_
    refine lv_aload_n hx hb d_Endpoint_turn_45 rfl (lv_at hl 0 rfl) ?_
    refine sp_g_Endpoint (v := .int (τ1.1 B 2)) hx hb ht hown hK hP iB 2 (by decide) (ht _ xw232) (fun _ h_ => h_) (congrArg (fun z_ => some (Value.int z_)) ((xb_i_l).trans ((xb_i_nj (by decide))))) d_Endpoint_turn_46 ?_
    refine sp_cv (va_runV (As := [.ref (α (B + 5)), .long (τ1.2 (B + 5) 6), .int (τ1.1 B 2)]) (rest := []) ⟨hx, hb, hml, hown, hts⟩ (c_Keys_renew l D α κ hα (xb_sl (xb_si τ1 B 15 (1 : Int32)) B 16 (τ1.2 (B + 5) 6)) (B + 4) (B + 5) (τ1.2 (B + 5) 6) (τ1.1 B 2) (by omega) (by omega)) (cwV 3 hts (xa_V xw734 xw735 xw736 xw6 xw737) rfl rfl rfl (by decide +kernel) ⟨Nat.le_of_ble_eq_true rfl, Nat.le_of_ble_eq_true rfl⟩) ⟨sp_blind, va_recv hK hP rfl (sp_at_Keys (by omega)), sp_pre hP hK hN _⟩ rfl rfl hl.1 rfl (lv_room (Nat.le_of_ble_eq_true rfl)) d_Endpoint_turn_49 ⟨Nat.le_of_ble_eq_true rfl, Nat.le_of_ble_eq_true rfl⟩) hS (fun _ h_ => h_) (fun H locs hP hS => ?_)
    obtain ⟨τ3, hτ3⟩ : ∃ t_, t_ = (p_Keys_renew (B + 4) (B + 5) (τ1.2 (B + 5) 6) (τ1.1 B 2) (xb_sl (xb_si τ1 B 15 (1 : Int32)) B 16 (τ1.2 (B + 5) 6))) := ⟨_, rfl⟩
    rw [← hτ3] at hP
    have okτ3 : sp_ok τ3 := by rw [hτ3]; exact (ok_p_Keys_renew (B + 4) (B + 5) (τ1.2 (B + 5) 6) (τ1.1 B 2) (by omega) (by omega) (ok_sl (ok_si okτ1 (by omega) (by omega))))
    refine lv_aload_n hx hb d_Endpoint_turn_52 rfl (lv_at hl 0 rfl) ?_
    refine lv_iconst (v := 3) hx hb d_Endpoint_turn_53 (by decide) ?_
    refine sp_pi_Endpoint (x := (3 : Int32)) (ty := .int) hx hb ht hown hK hP iB 9 (by decide) (ht _ xw245) (fun _ h_ => h_) hD hS rfl (by decide +kernel) rfl rfl hf_Endpoint_9 d_Endpoint_turn_54 (fun H locs hP hS => ?_)
    exact W.vret hx hb hr (fun t ht_ hW => ⟨⟨(xb_si τ3 B 9 (3 : Int32)), rfl, (by subst hτ3; subst hτ1; exact ((if_pos c1)).symm), by rw [sp_B, ht_]; exact hP⟩, hS.F ht_⟩) hS.2.2 d_Endpoint_turn_57
theorem ok_p_turn {σ : xb_St} (B : Nat) (iB : sp_isEndpoint B) (ok : sp_ok σ) : sp_ok (p_turn B σ) := by
  have hlA := sp_lnA_is iB
  have hlD := sp_lnD_is iB
  have hln := sp_ln_ne iB
  unfold p_turn
  by_cases c1 : ((p_send B (21 : Int32) (0 : Int64) (0 : Int64) (0 : Int64) (0 : Int64) σ).1 B 15) = 0
  · rw [if_pos c1]
    exact (ok_si (ok_p_Keys_renew (B + 4) (B + 5) ((p_send B (21 : Int32) (0 : Int64) (0 : Int64) (0 : Int64) (0 : Int64) σ).2 (B + 5) 6) ((p_send B (21 : Int32) (0 : Int64) (0 : Int64) (0 : Int64) (0 : Int64) σ).1 B 2) (by omega) (by omega) (ok_sl (ok_si (ok_p_send B (21 : Int32) (0 : Int64) (0 : Int64) (0 : Int64) (0 : Int64) iB ok) (by omega) (by omega)))) (by omega) (by omega))
  · rw [if_neg c1]
    exact (ok_si (ok_p_Keys_renew (B + 4) (B + 5) ((p_send B (21 : Int32) (0 : Int64) (0 : Int64) (0 : Int64) (0 : Int64) σ).2 B 16) ((p_send B (21 : Int32) (0 : Int64) (0 : Int64) (0 : Int64) (0 : Int64) σ).1 B 2) (by omega) (by omega) (ok_p_send B (21 : Int32) (0 : Int64) (0 : Int64) (0 : Int64) (0 : Int64) iB ok)) (by omega) (by omega))
abbrev b_Endpoint_takeNewKeys : ByteArray := prog_4_method_16_code
def y_Endpoint_takeNewKeys : MethodName := ⟨"SecurePair$Endpoint", "takeNewKeys", "()I"⟩
abbrev w_Endpoint_takeNewKeys : List Cond := .code y_Endpoint_takeNewKeys b_Endpoint_takeNewKeys 1 (some .int) :: xa
theorem d_Endpoint_takeNewKeys_0 : decode b_Endpoint_takeNewKeys 0 = .ok (.aload_n 0, 1) := by decide +kernel
theorem d_Endpoint_takeNewKeys_1 : decode b_Endpoint_takeNewKeys 1 = .ok (.getfield 44, 3) := by decide +kernel
theorem d_Endpoint_takeNewKeys_4 : decode b_Endpoint_takeNewKeys 4 = .ok (.iconst 3, 1) := by decide +kernel
theorem d_Endpoint_takeNewKeys_5 : decode b_Endpoint_takeNewKeys 5 = .ok (.if_icmp .eq 5, 3) := by decide +kernel
theorem d_Endpoint_takeNewKeys_8 : decode b_Endpoint_takeNewKeys 8 = .ok (.iconst 2, 1) := by decide +kernel
theorem d_Endpoint_takeNewKeys_9 : decode b_Endpoint_takeNewKeys 9 = .ok (.ireturn, 1) := by decide +kernel
theorem d_Endpoint_takeNewKeys_10 : decode b_Endpoint_takeNewKeys 10 = .ok (.aload_n 0, 1) := by decide +kernel
theorem d_Endpoint_takeNewKeys_11 : decode b_Endpoint_takeNewKeys 11 = .ok (.getfield 24, 3) := by decide +kernel
theorem d_Endpoint_takeNewKeys_14 : decode b_Endpoint_takeNewKeys 14 = .ok (.aload_n 0, 1) := by decide +kernel
theorem d_Endpoint_takeNewKeys_15 : decode b_Endpoint_takeNewKeys 15 = .ok (.getfield 34, 3) := by decide +kernel
theorem d_Endpoint_takeNewKeys_18 : decode b_Endpoint_takeNewKeys 18 = .ok (.aload_n 0, 1) := by decide +kernel
theorem d_Endpoint_takeNewKeys_19 : decode b_Endpoint_takeNewKeys 19 = .ok (.getfield 198, 3) := by decide +kernel
theorem d_Endpoint_takeNewKeys_22 : decode b_Endpoint_takeNewKeys 22 = .ok (.iconst 3, 1) := by decide +kernel
theorem d_Endpoint_takeNewKeys_23 : decode b_Endpoint_takeNewKeys 23 = .ok (.aload_n 0, 1) := by decide +kernel
theorem d_Endpoint_takeNewKeys_24 : decode b_Endpoint_takeNewKeys 24 = .ok (.getfield 61, 3) := by decide +kernel
theorem d_Endpoint_takeNewKeys_27 : decode b_Endpoint_takeNewKeys 27 = .ok (.isub, 1) := by decide +kernel
theorem d_Endpoint_takeNewKeys_28 : decode b_Endpoint_takeNewKeys 28 = .ok (.invokevirtual 201, 3) := by decide +kernel
theorem d_Endpoint_takeNewKeys_31 : decode b_Endpoint_takeNewKeys 31 = .ok (.aload_n 0, 1) := by decide +kernel
theorem d_Endpoint_takeNewKeys_32 : decode b_Endpoint_takeNewKeys 32 = .ok (.iconst 4, 1) := by decide +kernel
theorem d_Endpoint_takeNewKeys_33 : decode b_Endpoint_takeNewKeys 33 = .ok (.putfield 44, 3) := by decide +kernel
theorem d_Endpoint_takeNewKeys_36 : decode b_Endpoint_takeNewKeys 36 = .ok (.iconst 0, 1) := by decide +kernel
theorem d_Endpoint_takeNewKeys_37 : decode b_Endpoint_takeNewKeys 37 = .ok (.ireturn, 1) := by decide +kernel
theorem xw235 : (Cond.fieldLink "SecurePair$Endpoint" (24 : Nat) "SecurePair$Endpoint" "incoming" "LSecurePair$Keys;") ∈ xa := xa_t 235 (by decide +kernel) (by decide +kernel)
def p_takeNewKeys (B : Nat) (σ : xb_St) : Int32 × xb_St := (if (σ.1 B 9) = (3 : Int32) then ((0 : Int32), (xb_si (p_Keys_renew (B + 3) (B + 5) (σ.2 B 16) ((3 : Int32) - (σ.1 B 2)) σ) B 9 (4 : Int32))) else ((2 : Int32), σ))
set_option maxHeartbeats 4000000 in
set_option maxRecDepth 100000 in
theorem c_Endpoint_takeNewKeys (l : Launch) (D : va_G) (α : Nat → Nat) (κ : Nat → ClassId) (hα : xb_inj α 35) (σ : xb_St) (B : Nat) (iB : sp_isEndpoint B) : Met l y_Endpoint_takeNewKeys w_Endpoint_takeNewKeys ({ frames := 2, cells := 0, slots := 0, locals := 51 }) (va_Pc ([.ref (α B)]) (sp_Pre D α κ σ)) (va_Qi (fun r (u : xb_St) => r = (p_takeNewKeys B σ).1 ∧ u = (p_takeNewKeys B σ).2) (sp_B D α κ) (xb_A α 35)) 0 0 (xb_A α 35) := by
  refine Met.ofW (cc := b_Endpoint_takeNewKeys) (maxL := 1) (ret := (some .int)) (by decide) rfl ?_
  intro p e s m args below meth c s₁ B_ hml hv
  obtain ⟨rfl, hP, hK, hN⟩ := hv
  have hx := B_.exec
  have hb := B_.bytes
  have hr := B_.returns
  have hts := atoms_spec (ws := w_Endpoint_takeNewKeys) B_.pre
  have ht : ∀ w ∈ xa, w.before _ s = true := fun w h => hts w (List.mem_cons_of_mem _ h)
  have hown : s.vm.findClass "SecurePair$Endpoint" = some m.cls := findClass_of_methodNamed B_.named
  have hlocks := B_.notSynchronized
  have hD := sp_D hα κ
  have hS : va_S (xb_A α 35) s.heap s.heap [] := va_S.rf
  have hlA := sp_lnA_is iB
  have hlD := sp_lnD_is iB
  have hln := sp_ln_ne iB
  have hl := lv_entry ([.ref (α B)]) (n := 1) (Nat.le_of_ble_eq_true rfl)
  rw [lg_entry_eq]
  generalize (lg_sl ([.ref (α B)]) ++ List.replicate (1 - (lg_sl ([.ref (α B)])).length) Slot.unset).toArray = ls at hl ⊢
  have hl : lv_has ls 1 [(0, .ref (α B))] := hl
  refine lv_aload_n hx hb d_Endpoint_takeNewKeys_0 rfl (lv_at hl 0 rfl) ?_
  refine sp_g_Endpoint (v := .int (σ.1 B 9)) hx hb ht hown hK hP iB 9 (by decide) (ht _ xw245) (fun _ h_ => h_) rfl d_Endpoint_takeNewKeys_1 ?_
  refine lv_iconst (v := 3) hx hb d_Endpoint_takeNewKeys_4 (by decide) ?_
  refine lv_icmp_eq (tgt := 10) hx hb d_Endpoint_takeNewKeys_5 (by decide) (fun c1 => ?_) (fun c1 => ?_)
  · skip
    refine lv_aload_n hx hb d_Endpoint_takeNewKeys_10 rfl (lv_at hl 0 rfl) ?_
    refine sp_g_Endpoint (v := .ref (α (B + 3))) hx hb ht hown hK hP iB 5 (by decide) (ht _ xw235) (fun _ h_ => h_) rfl d_Endpoint_takeNewKeys_11 ?_
    refine lv_aload_n hx hb d_Endpoint_takeNewKeys_14 rfl (lv_at hl 0 rfl) ?_
    refine sp_g_Endpoint (v := .ref (α (B + 5))) hx hb ht hown hK hP iB 7 (by decide) (ht _ xw239) (fun _ h_ => h_) rfl d_Endpoint_takeNewKeys_15 ?_
    refine lv_aload_n hx hb d_Endpoint_takeNewKeys_18 rfl (lv_at hl 0 rfl) ?_
    refine sp_g_Endpoint (v := .long (σ.2 B 16)) hx hb ht hown hK hP iB 16 (by decide) (ht _ xw262) (fun _ h_ => h_) rfl d_Endpoint_takeNewKeys_19 ?_
    refine lv_iconst (v := 3) hx hb d_Endpoint_takeNewKeys_22 (by decide) ?_
    refine lv_aload_n hx hb d_Endpoint_takeNewKeys_23 rfl (lv_at hl 0 rfl) ?_
    refine sp_g_Endpoint (v := .int (σ.1 B 2)) hx hb ht hown hK hP iB 2 (by decide) (ht _ xw232) (fun _ h_ => h_) rfl d_Endpoint_takeNewKeys_24 ?_
    refine lv_isub hx hb d_Endpoint_takeNewKeys_27 ?_
    refine sp_cv (va_runV (As := [.ref (α (B + 5)), .long (σ.2 B 16), .int ((3 : Int32) - (σ.1 B 2))]) (rest := []) ⟨hx, hb, hml, hown, hts⟩ (c_Keys_renew l D α κ hα σ (B + 3) (B + 5) (σ.2 B 16) ((3 : Int32) - (σ.1 B 2)) (by omega) (by omega)) (cwV 3 hts (xa_V xw734 xw735 xw736 xw6 xw737) rfl rfl rfl (by decide +kernel) ⟨Nat.le_of_ble_eq_true rfl, Nat.le_of_ble_eq_true rfl⟩) ⟨sp_blind, va_recv hK hP rfl (sp_at_Keys (by omega)), sp_pre hP hK hN _⟩ rfl rfl hl.1 rfl (lv_room (Nat.le_of_ble_eq_true rfl)) d_Endpoint_takeNewKeys_28 ⟨Nat.le_of_ble_eq_true rfl, Nat.le_of_ble_eq_true rfl⟩) hS (fun _ h_ => h_) (fun H locs hP hS => ?_)
    obtain ⟨τ1, hτ1⟩ : ∃ t_, t_ = (p_Keys_renew (B + 3) (B + 5) (σ.2 B 16) ((3 : Int32) - (σ.1 B 2)) σ) := ⟨_, rfl⟩
    rw [← hτ1] at hP
    refine lv_aload_n hx hb d_Endpoint_takeNewKeys_31 rfl (lv_at hl 0 rfl) ?_
    refine lv_iconst (v := 4) hx hb d_Endpoint_takeNewKeys_32 (by decide) ?_
    refine sp_pi_Endpoint (x := (4 : Int32)) (ty := .int) hx hb ht hown hK hP iB 9 (by decide) (ht _ xw245) (fun _ h_ => h_) hD hS rfl (by decide +kernel) rfl rfl hf_Endpoint_9 d_Endpoint_takeNewKeys_33 (fun H locs hP hS => ?_)
    refine lv_iconst (v := 0) hx hb d_Endpoint_takeNewKeys_36 (by decide) ?_
    exact W.iret (v := (0 : Int32)) hx hb hr (fun t ht_ hW => ⟨⟨(0 : Int32), (xb_si τ1 B 9 (4 : Int32)), rfl, ⟨congrArg Prod.fst (((by subst hτ1; exact ((if_pos c1)).symm)) : ((0 : Int32), (xb_si τ1 B 9 (4 : Int32))) = p_takeNewKeys B σ), congrArg Prod.snd (((by subst hτ1; exact ((if_pos c1)).symm)) : ((0 : Int32), (xb_si τ1 B 9 (4 : Int32))) = p_takeNewKeys B σ)⟩, by rw [sp_B, ht_]; exact hP⟩, hS.F ht_⟩) hS.2.2 d_Endpoint_takeNewKeys_37
  · skip
    refine lv_iconst (v := 2) hx hb d_Endpoint_takeNewKeys_8 (by decide) ?_
    exact W.iret (v := (2 : Int32)) hx hb hr (fun t ht_ hW => ⟨⟨(2 : Int32), σ, rfl, ⟨congrArg Prod.fst ((((if_neg c1)).symm) : ((2 : Int32), σ) = p_takeNewKeys B σ), congrArg Prod.snd ((((if_neg c1)).symm) : ((2 : Int32), σ) = p_takeNewKeys B σ)⟩, by rw [sp_B, ht_]; exact hP⟩, hS.F ht_⟩) hS.2.2 d_Endpoint_takeNewKeys_9
theorem ok_p_takeNewKeys {σ : xb_St} (B : Nat) (iB : sp_isEndpoint B) (ok : sp_ok σ) : sp_ok (p_takeNewKeys B σ).2 := by
  have hlA := sp_lnA_is iB
  have hlD := sp_lnD_is iB
  have hln := sp_ln_ne iB
  unfold p_takeNewKeys
  by_cases c1 : (σ.1 B 9) = (3 : Int32)
  · rw [if_pos c1]
    exact (ok_si (ok_p_Keys_renew (B + 3) (B + 5) (σ.2 B 16) ((3 : Int32) - (σ.1 B 2)) (by omega) (by omega) ok) (by omega) (by omega))
  · rw [if_neg c1]
    exact ok
abbrev b_Endpoint_takeClose : ByteArray := prog_4_method_19_code
def y_Endpoint_takeClose : MethodName := ⟨"SecurePair$Endpoint", "takeClose", "(LSecurePair$Channel;)I"⟩
abbrev w_Endpoint_takeClose : List Cond := .code y_Endpoint_takeClose b_Endpoint_takeClose 2 (some .int) :: xa
theorem d_Endpoint_takeClose_0 : decode b_Endpoint_takeClose 0 = .ok (.aload_n 1, 1) := by decide +kernel
theorem d_Endpoint_takeClose_1 : decode b_Endpoint_takeClose 1 = .ok (.invokevirtual 246, 3) := by decide +kernel
theorem d_Endpoint_takeClose_4 : decode b_Endpoint_takeClose 4 = .ok (.ifCond .ne 6, 3) := by decide +kernel
theorem d_Endpoint_takeClose_7 : decode b_Endpoint_takeClose 7 = .ok (.bipush 7, 2) := by decide +kernel
theorem d_Endpoint_takeClose_9 : decode b_Endpoint_takeClose 9 = .ok (.ireturn, 1) := by decide +kernel
theorem d_Endpoint_takeClose_10 : decode b_Endpoint_takeClose 10 = .ok (.aload_n 1, 1) := by decide +kernel
theorem d_Endpoint_takeClose_11 : decode b_Endpoint_takeClose 11 = .ok (.getfield 249, 3) := by decide +kernel
theorem d_Endpoint_takeClose_14 : decode b_Endpoint_takeClose 14 = .ok (.iconst 2, 1) := by decide +kernel
theorem d_Endpoint_takeClose_15 : decode b_Endpoint_takeClose 15 = .ok (.if_icmp .ne 16, 3) := by decide +kernel
theorem d_Endpoint_takeClose_18 : decode b_Endpoint_takeClose 18 = .ok (.aload_n 0, 1) := by decide +kernel
theorem d_Endpoint_takeClose_19 : decode b_Endpoint_takeClose 19 = .ok (.bipush 97, 2) := by decide +kernel
theorem d_Endpoint_takeClose_21 : decode b_Endpoint_takeClose 21 = .ok (.aload_n 1, 1) := by decide +kernel
theorem d_Endpoint_takeClose_22 : decode b_Endpoint_takeClose 22 = .ok (.getfield 252, 3) := by decide +kernel
theorem d_Endpoint_takeClose_25 : decode b_Endpoint_takeClose 25 = .ok (.lconst 0, 1) := by decide +kernel
theorem d_Endpoint_takeClose_26 : decode b_Endpoint_takeClose 26 = .ok (.lconst 0, 1) := by decide +kernel
theorem d_Endpoint_takeClose_27 : decode b_Endpoint_takeClose 27 = .ok (.lconst 0, 1) := by decide +kernel
theorem d_Endpoint_takeClose_28 : decode b_Endpoint_takeClose 28 = .ok (.invokevirtual 90, 3) := by decide +kernel
theorem d_Endpoint_takeClose_31 : decode b_Endpoint_takeClose 31 = .ok (.aload_n 1, 1) := by decide +kernel
theorem d_Endpoint_takeClose_32 : decode b_Endpoint_takeClose 32 = .ok (.invokevirtual 255, 3) := by decide +kernel
theorem d_Endpoint_takeClose_35 : decode b_Endpoint_takeClose 35 = .ok (.iconst 0, 1) := by decide +kernel
theorem d_Endpoint_takeClose_36 : decode b_Endpoint_takeClose 36 = .ok (.ireturn, 1) := by decide +kernel
theorem xw197 : (Cond.fieldLink "SecurePair$Endpoint" (252 : Nat) "SecurePair$Channel" "peer" "J") ∈ xa := xa_t 197 (by decide +kernel) (by decide +kernel)
theorem xw831 : (Cond.methodLink "SecurePair$Endpoint" (246 : Nat) ({ cls := "SecurePair$Channel", name := "isConnected", desc := "()Z" } : MethodName)) ∈ xa := xa_t 831 (by decide +kernel) (by decide +kernel)
theorem xw832 : (Cond.methodLink "SecurePair$Endpoint" (255 : Nat) ({ cls := "SecurePair$Channel", name := "free", desc := "()V" } : MethodName)) ∈ xa := xa_t 832 (by decide +kernel) (by decide +kernel)
def p_takeClose (B : Nat) (C : Nat) (σ : xb_St) : Int32 × xb_St := (if (p_Ch_isConn C σ) = 0 then ((7 : Int32), σ) else (if (σ.1 C 2) = (2 : Int32) then ((0 : Int32), (p_Ch_free C (p_send B (97 : Int32) (σ.2 C 3) (0 : Int64) (0 : Int64) (0 : Int64) σ))) else ((0 : Int32), (p_Ch_free C σ))))
set_option maxHeartbeats 4000000 in
set_option maxRecDepth 100000 in
theorem c_Endpoint_takeClose (l : Launch) (D : va_G) (α : Nat → Nat) (κ : Nat → ClassId) (hα : xb_inj α 35) (σ : xb_St) (B : Nat) (C : Nat) (iB : sp_isEndpoint B) (iC : sp_isChannel C) (ok : sp_ok σ) : Met l y_Endpoint_takeClose w_Endpoint_takeClose ({ frames := 3, cells := 0, slots := 0, locals := 77 }) (va_Pc ([.ref (α B), .ref (α C)]) (sp_Pre D α κ σ)) (va_Qi (fun r (u : xb_St) => r = (p_takeClose B C σ).1 ∧ u = (p_takeClose B C σ).2) (sp_B D α κ) (xb_A α 35)) 0 0 (xb_A α 35) := by
  refine Met.ofW (cc := b_Endpoint_takeClose) (maxL := 2) (ret := (some .int)) (by decide) rfl ?_
  intro p e s m args below meth c s₁ B_ hml hv
  obtain ⟨rfl, hP, hK, hN⟩ := hv
  have hx := B_.exec
  have hb := B_.bytes
  have hr := B_.returns
  have hts := atoms_spec (ws := w_Endpoint_takeClose) B_.pre
  have ht : ∀ w ∈ xa, w.before _ s = true := fun w h => hts w (List.mem_cons_of_mem _ h)
  have hown : s.vm.findClass "SecurePair$Endpoint" = some m.cls := findClass_of_methodNamed B_.named
  have hlocks := B_.notSynchronized
  have hD := sp_D hα κ
  have hS : va_S (xb_A α 35) s.heap s.heap [] := va_S.rf
  have hlA := sp_lnA_is iB
  have hlD := sp_lnD_is iB
  have hln := sp_ln_ne iB
  have hl := lv_entry ([.ref (α B), .ref (α C)]) (n := 2) (Nat.le_of_ble_eq_true rfl)
  rw [lg_entry_eq]
  generalize (lg_sl ([.ref (α B), .ref (α C)]) ++ List.replicate (2 - (lg_sl ([.ref (α B), .ref (α C)])).length) Slot.unset).toArray = ls at hl ⊢
  have hl : lv_has ls 2 [(0, .ref (α B)), (1, .ref (α C))] := hl
  refine lv_aload_n hx hb d_Endpoint_takeClose_0 rfl (lv_at hl 1 rfl) ?_
  refine sp_ci (va_runV (As := []) (rest := []) ⟨hx, hb, hml, hown, hts⟩ (c_Channel_isConnected l D α κ hα σ C iC) (cwV 0 hts (xa_V xw831 xw811 xw812 xw9 xw813) rfl rfl rfl (by decide +kernel) ⟨Nat.le_of_ble_eq_true rfl, Nat.le_of_ble_eq_true rfl⟩) ⟨sp_blind, va_recv hK hP rfl (sp_at_Channel iC), sp_pre hP hK hN _⟩ rfl rfl hl.1 rfl (lv_room (Nat.le_of_ble_eq_true rfl)) d_Endpoint_takeClose_1 ⟨Nat.le_of_ble_eq_true rfl, Nat.le_of_ble_eq_true rfl⟩) hS (fun _ h_ => h_) (fun H locs hP hS => ?_)
  refine lv_if_ne (tgt := 10) hx hb d_Endpoint_takeClose_4 (by decide) (fun c1 => ?_) (fun c1 => ?_)
  · skip
    refine lv_aload_n hx hb d_Endpoint_takeClose_10 rfl (lv_at hl 1 rfl) ?_
    refine sp_g_Channel (v := .int (σ.1 C 2)) hx hb ht hown hK hP iC 2 (by decide) (ht _ xw195) (fun _ h_ => h_) rfl d_Endpoint_takeClose_11 ?_
    refine lv_iconst (v := 2) hx hb d_Endpoint_takeClose_14 (by decide) ?_
    refine lv_icmp_ne (tgt := 31) hx hb d_Endpoint_takeClose_15 (by decide) (fun c2 => ?_) (fun c2 => ?_)
    · skip
      refine lv_aload_n hx hb d_Endpoint_takeClose_31 rfl (lv_at hl 1 rfl) ?_
      refine sp_cv (va_runV (As := []) (rest := []) ⟨hx, hb, hml, hown, hts⟩ (c_Channel_free l D α κ hα σ C iC) (cwV 0 hts (xa_V xw832 xw799 xw800 xw9 xw801) rfl rfl rfl (by decide +kernel) ⟨Nat.le_of_ble_eq_true rfl, Nat.le_of_ble_eq_true rfl⟩) ⟨sp_blind, va_recv hK hP rfl (sp_at_Channel iC), sp_pre hP hK hN _⟩ rfl rfl hl.1 rfl (lv_room (Nat.le_of_ble_eq_true rfl)) d_Endpoint_takeClose_32 ⟨Nat.le_of_ble_eq_true rfl, Nat.le_of_ble_eq_true rfl⟩) hS (fun _ h_ => h_) (fun H locs hP hS => ?_)
      obtain ⟨τ1, hτ1⟩ : ∃ t_, t_ = (p_Ch_free C σ) := ⟨_, rfl⟩
      rw [← hτ1] at hP
      have okτ1 : sp_ok τ1 := by rw [hτ1]; exact (ok_p_Ch_free C iC ok)
      refine lv_iconst (v := 0) hx hb d_Endpoint_takeClose_35 (by decide) ?_
      exact W.iret (v := (0 : Int32)) hx hb hr (fun t ht_ hW => ⟨⟨(0 : Int32), τ1, rfl, ⟨congrArg Prod.fst (((by subst hτ1; exact ((if_neg c1).trans ((if_neg c2))).symm)) : ((0 : Int32), τ1) = p_takeClose B C σ), congrArg Prod.snd (((by subst hτ1; exact ((if_neg c1).trans ((if_neg c2))).symm)) : ((0 : Int32), τ1) = p_takeClose B C σ)⟩, by rw [sp_B, ht_]; exact hP⟩, hS.F ht_⟩) hS.2.2 d_Endpoint_takeClose_36
    · skip
      refine lv_aload_n hx hb d_Endpoint_takeClose_18 rfl (lv_at hl 0 rfl) ?_
      refine lv_bipush (v := 97) hx hb d_Endpoint_takeClose_19 (by decide) ?_
      refine lv_aload_n hx hb d_Endpoint_takeClose_21 rfl (lv_at hl 1 rfl) ?_
      refine sp_g_Channel (v := .long (σ.2 C 3)) hx hb ht hown hK hP iC 3 (by decide) (ht _ xw197) (fun _ h_ => h_) rfl d_Endpoint_takeClose_22 ?_
      refine lv_lconst (v := 0) hx hb d_Endpoint_takeClose_25 (by decide) ?_
      refine lv_lconst (v := 0) hx hb d_Endpoint_takeClose_26 (by decide) ?_
      refine lv_lconst (v := 0) hx hb d_Endpoint_takeClose_27 (by decide) ?_
      refine sp_cv (sp_runE (n := 5) (As := [.int (97 : Int32), .long (σ.2 C 3), .long (0 : Int64), .long (0 : Int64), .long (0 : Int64)]) (rest := []) ⟨hx, hb, hml, hown, hts⟩ (c_Endpoint_send l D α κ hα σ B (97 : Int32) (σ.2 C 3) (0 : Int64) (0 : Int64) (0 : Int64) iB ok) iB xw379 xw381 xw382 xw383 xw380 xw3 xw384 rfl rfl rfl (by decide +kernel) ⟨Nat.le_of_ble_eq_true rfl, Nat.le_of_ble_eq_true rfl⟩ hP hK hN rfl rfl hl.1 rfl (lv_room (Nat.le_of_ble_eq_true rfl)) d_Endpoint_takeClose_28 ⟨Nat.le_of_ble_eq_true rfl, Nat.le_of_ble_eq_true rfl⟩) hS (fun _ h_ => h_) (fun H locs hP hS => ?_)
      obtain ⟨τ2, hτ2⟩ : ∃ t_, t_ = (p_send B (97 : Int32) (σ.2 C 3) (0 : Int64) (0 : Int64) (0 : Int64) σ) := ⟨_, rfl⟩
      rw [← hτ2] at hP
      have okτ2 : sp_ok τ2 := by rw [hτ2]; exact (ok_p_send B (97 : Int32) (σ.2 C 3) (0 : Int64) (0 : Int64) (0 : Int64) iB ok)
      refine lv_aload_n hx hb d_Endpoint_takeClose_31 rfl (lv_at hl 1 rfl) ?_
      refine sp_cv (va_runV (As := []) (rest := []) ⟨hx, hb, hml, hown, hts⟩ (c_Channel_free l D α κ hα τ2 C iC) (cwV 0 hts (xa_V xw832 xw799 xw800 xw9 xw801) rfl rfl rfl (by decide +kernel) ⟨Nat.le_of_ble_eq_true rfl, Nat.le_of_ble_eq_true rfl⟩) ⟨sp_blind, va_recv hK hP rfl (sp_at_Channel iC), sp_pre hP hK hN _⟩ rfl rfl hl.1 rfl (lv_room (Nat.le_of_ble_eq_true rfl)) d_Endpoint_takeClose_32 ⟨Nat.le_of_ble_eq_true rfl, Nat.le_of_ble_eq_true rfl⟩) hS (fun _ h_ => h_) (fun H locs hP hS => ?_)
      obtain ⟨τ3, hτ3⟩ : ∃ t_, t_ = (p_Ch_free C τ2) := ⟨_, rfl⟩
      rw [← hτ3] at hP
      have okτ3 : sp_ok τ3 := by rw [hτ3]; exact (ok_p_Ch_free C iC okτ2)
      refine lv_iconst (v := 0) hx hb d_Endpoint_takeClose_35 (by decide) ?_
      exact W.iret (v := (0 : Int32)) hx hb hr (fun t ht_ hW => ⟨⟨(0 : Int32), τ3, rfl, ⟨congrArg Prod.fst (((by subst hτ3; subst hτ2; exact ((if_neg c1).trans ((if_pos c2))).symm)) : ((0 : Int32), τ3) = p_takeClose B C σ), congrArg Prod.snd (((by subst hτ3; subst hτ2; exact ((if_neg c1).trans ((if_pos c2))).symm)) : ((0 : Int32), τ3) = p_takeClose B C σ)⟩, by rw [sp_B, ht_]; exact hP⟩, hS.F ht_⟩) hS.2.2 d_Endpoint_takeClose_36
  · skip
    refine lv_bipush (v := 7) hx hb d_Endpoint_takeClose_7 (by decide) ?_
    exact W.iret (v := (7 : Int32)) hx hb hr (fun t ht_ hW => ⟨⟨(7 : Int32), σ, rfl, ⟨congrArg Prod.fst ((((if_pos c1)).symm) : ((7 : Int32), σ) = p_takeClose B C σ), congrArg Prod.snd ((((if_pos c1)).symm) : ((7 : Int32), σ) = p_takeClose B C σ)⟩, by rw [sp_B, ht_]; exact hP⟩, hS.F ht_⟩) hS.2.2 d_Endpoint_takeClose_9
theorem ok_p_takeClose {σ : xb_St} (B : Nat) (C : Nat) (iB : sp_isEndpoint B) (iC : sp_isChannel C) (ok : sp_ok σ) : sp_ok (p_takeClose B C σ).2 := by
  have hlA := sp_lnA_is iB
  have hlD := sp_lnD_is iB
  have hln := sp_ln_ne iB
  unfold p_takeClose
  by_cases c1 : (p_Ch_isConn C σ) = 0
  · rw [if_pos c1]
    exact ok
  · rw [if_neg c1]
    by_cases c2 : (σ.1 C 2) = (2 : Int32)
    · rw [if_pos c2]
      exact (ok_p_Ch_free C iC (ok_p_send B (97 : Int32) (σ.2 C 3) (0 : Int64) (0 : Int64) (0 : Int64) iB ok))
    · rw [if_neg c2]
      exact (ok_p_Ch_free C iC ok)
abbrev b_Endpoint_leastFree : ByteArray := prog_4_method_21_code
def y_Endpoint_leastFree : MethodName := ⟨"SecurePair$Endpoint", "leastFree", "()LSecurePair$Channel;"⟩
abbrev w_Endpoint_leastFree : List Cond := .code y_Endpoint_leastFree b_Endpoint_leastFree 2 (some (.object "SecurePair$Channel")) :: xa
theorem d_Endpoint_leastFree_0 : decode b_Endpoint_leastFree 0 = .ok (.iconst 0, 1) := by decide +kernel
theorem d_Endpoint_leastFree_1 : decode b_Endpoint_leastFree 1 = .ok (.istore_n 1, 1) := by decide +kernel
theorem d_Endpoint_leastFree_2 : decode b_Endpoint_leastFree 2 = .ok (.iload_n 1, 1) := by decide +kernel
theorem d_Endpoint_leastFree_3 : decode b_Endpoint_leastFree 3 = .ok (.iconst 3, 1) := by decide +kernel
theorem d_Endpoint_leastFree_4 : decode b_Endpoint_leastFree 4 = .ok (.if_icmp .ge 28, 3) := by decide +kernel
theorem d_Endpoint_leastFree_7 : decode b_Endpoint_leastFree 7 = .ok (.aload_n 0, 1) := by decide +kernel
theorem d_Endpoint_leastFree_8 : decode b_Endpoint_leastFree 8 = .ok (.getfield 40, 3) := by decide +kernel
theorem d_Endpoint_leastFree_11 : decode b_Endpoint_leastFree 11 = .ok (.iload_n 1, 1) := by decide +kernel
theorem d_Endpoint_leastFree_12 : decode b_Endpoint_leastFree 12 = .ok (.aaload, 1) := by decide +kernel
theorem d_Endpoint_leastFree_13 : decode b_Endpoint_leastFree 13 = .ok (.getfield 249, 3) := by decide +kernel
theorem d_Endpoint_leastFree_16 : decode b_Endpoint_leastFree 16 = .ok (.ifCond .ne 10, 3) := by decide +kernel
theorem d_Endpoint_leastFree_19 : decode b_Endpoint_leastFree 19 = .ok (.aload_n 0, 1) := by decide +kernel
theorem d_Endpoint_leastFree_20 : decode b_Endpoint_leastFree 20 = .ok (.getfield 40, 3) := by decide +kernel
theorem d_Endpoint_leastFree_23 : decode b_Endpoint_leastFree 23 = .ok (.iload_n 1, 1) := by decide +kernel
theorem d_Endpoint_leastFree_24 : decode b_Endpoint_leastFree 24 = .ok (.aaload, 1) := by decide +kernel
theorem d_Endpoint_leastFree_25 : decode b_Endpoint_leastFree 25 = .ok (.areturn, 1) := by decide +kernel
theorem d_Endpoint_leastFree_26 : decode b_Endpoint_leastFree 26 = .ok (.iinc 1 1, 3) := by decide +kernel
theorem d_Endpoint_leastFree_29 : decode b_Endpoint_leastFree 29 = .ok (.goto (-27), 3) := by decide +kernel
theorem d_Endpoint_leastFree_32 : decode b_Endpoint_leastFree 32 = .ok (.aconst_null, 1) := by decide +kernel
theorem d_Endpoint_leastFree_33 : decode b_Endpoint_leastFree 33 = .ok (.areturn, 1) := by decide +kernel
theorem xw244 : (Cond.fieldLink "SecurePair$Endpoint" (40 : Nat) "SecurePair$Endpoint" "channels" "[LSecurePair$Channel;") ∈ xa := xa_t 244 (by decide +kernel) (by decide +kernel)
def p_leastFree (B : Nat) (σ : xb_St) : Option Nat := (if (σ.1 (B + 8 + 1 + 0) 2) = 0 then (some (B + 8 + 1 + 0)) else (if (σ.1 (B + 8 + 1 + 1) 2) = 0 then (some (B + 8 + 1 + 1)) else (if (σ.1 (B + 8 + 1 + 2) 2) = 0 then (some (B + 8 + 1 + 2)) else none)))
set_option maxHeartbeats 4000000 in
set_option maxRecDepth 100000 in
theorem c_Endpoint_leastFree (l : Launch) (D : va_G) (α : Nat → Nat) (κ : Nat → ClassId) (hα : xb_inj α 35) (σ : xb_St) (B : Nat) (iB : sp_isEndpoint B) : Met l y_Endpoint_leastFree w_Endpoint_leastFree ({ frames := 0, cells := 0, slots := 0, locals := 0 }) (va_Pc ([.ref (α B)]) (sp_Pre D α κ σ)) (va_Qq (fun r (u : xb_St) => r = (p_leastFree B σ).map α ∧ u = σ) (sp_B D α κ) (xb_A α 35)) 0 0 (xb_A α 35) := by
  refine Met.ofW (cc := b_Endpoint_leastFree) (maxL := 2) (ret := (some (.object "SecurePair$Channel"))) (by decide) rfl ?_
  intro p e s m args below meth c s₁ B_ hml hv
  obtain ⟨rfl, hP, hK, hN⟩ := hv
  have hx := B_.exec
  have hb := B_.bytes
  have hr := B_.returns
  have hts := atoms_spec (ws := w_Endpoint_leastFree) B_.pre
  have ht : ∀ w ∈ xa, w.before _ s = true := fun w h => hts w (List.mem_cons_of_mem _ h)
  have hown : s.vm.findClass "SecurePair$Endpoint" = some m.cls := findClass_of_methodNamed B_.named
  have hlocks := B_.notSynchronized
  have hD := sp_D hα κ
  have hS : va_S (xb_A α 35) s.heap s.heap [] := va_S.rf
  have hlA := sp_lnA_is iB
  have hlD := sp_lnD_is iB
  have hln := sp_ln_ne iB
  have hl := lv_entry ([.ref (α B)]) (n := 2) (Nat.le_of_ble_eq_true rfl)
  rw [lg_entry_eq]
  generalize (lg_sl ([.ref (α B)]) ++ List.replicate (2 - (lg_sl ([.ref (α B)])).length) Slot.unset).toArray = ls at hl ⊢
  have hl : lv_has ls 2 [(0, .ref (α B))] := hl
  refine lv_iconst (v := 0) hx hb d_Endpoint_leastFree_0 (by decide) ?_
  refine lv_istore_n (lv' := [(1, .int (0 : Int32)), (0, .ref (α B))]) hx hb d_Endpoint_leastFree_1 rfl hl (by decide) rfl (fun ls hl => ?_)
  refine lv_iload_n hx hb d_Endpoint_leastFree_2 rfl (lv_at hl 0 rfl) ?_
  refine lv_iconst (v := 3) hx hb d_Endpoint_leastFree_3 (by decide) ?_
  refine lv_icmp_ge (tgt := 32) hx hb d_Endpoint_leastFree_4 (by decide) (fun h_ => absurd h_ (by decide)) (fun _ => ?_)
  refine lv_aload_n hx hb d_Endpoint_leastFree_7 rfl (lv_at hl 1 rfl) ?_
  refine sp_g_Endpoint (v := .ref (α (B + 8))) hx hb ht hown hK hP iB 8 (by decide) (ht _ xw244) (fun _ h_ => h_) rfl d_Endpoint_leastFree_8 ?_
  refine lv_iload_n hx hb d_Endpoint_leastFree_11 rfl (lv_at hl 0 rfl) ?_
  refine sp_ga_chArr (n := 0) hx hb hK hP (by omega) (xb_in (xb_lit (x := (0 : Int32)) 0 rfl) (by omega) (by decide)) (xb_cl (xb_lit (x := (0 : Int32)) 0 rfl) (by omega)) d_Endpoint_leastFree_12 ?_
  refine sp_g_Channel (v := .int (σ.1 (B + 8 + 1 + 0) 2)) hx hb ht hown hK hP (by omega) 2 (by decide) (ht _ xw195) (fun _ h_ => h_) rfl d_Endpoint_leastFree_13 ?_
  refine lv_if_ne (tgt := 26) hx hb d_Endpoint_leastFree_16 (by decide) (fun c1 => ?_) (fun c1 => ?_)
  · skip
    refine lv_iinc (v := (1 : Int32)) (k := 0) (lv' := [(1, .int (1 : Int32)), (0, .ref (α B))]) hx hb d_Endpoint_leastFree_26 hl rfl (by decide) (by decide) rfl (fun ls hl => ?_)
    refine lv_goto (tgt := 2) hx hb d_Endpoint_leastFree_29 (by decide) ?_
    refine lv_iload_n hx hb d_Endpoint_leastFree_2 rfl (lv_at hl 0 rfl) ?_
    refine lv_iconst (v := 3) hx hb d_Endpoint_leastFree_3 (by decide) ?_
    refine lv_icmp_ge (tgt := 32) hx hb d_Endpoint_leastFree_4 (by decide) (fun h_ => absurd h_ (by decide)) (fun _ => ?_)
    refine lv_aload_n hx hb d_Endpoint_leastFree_7 rfl (lv_at hl 1 rfl) ?_
    refine sp_g_Endpoint (v := .ref (α (B + 8))) hx hb ht hown hK hP iB 8 (by decide) (ht _ xw244) (fun _ h_ => h_) rfl d_Endpoint_leastFree_8 ?_
    refine lv_iload_n hx hb d_Endpoint_leastFree_11 rfl (lv_at hl 0 rfl) ?_
    refine sp_ga_chArr (n := 1) hx hb hK hP (by omega) (xb_in (xb_lit (x := (1 : Int32)) 1 rfl) (by omega) (by decide)) (xb_cl (xb_lit (x := (1 : Int32)) 1 rfl) (by omega)) d_Endpoint_leastFree_12 ?_
    refine sp_g_Channel (v := .int (σ.1 (B + 8 + 1 + 1) 2)) hx hb ht hown hK hP (by omega) 2 (by decide) (ht _ xw195) (fun _ h_ => h_) rfl d_Endpoint_leastFree_13 ?_
    refine lv_if_ne (tgt := 26) hx hb d_Endpoint_leastFree_16 (by decide) (fun c2 => ?_) (fun c2 => ?_)
    · skip
      refine lv_iinc (v := (2 : Int32)) (k := 0) (lv' := [(1, .int (2 : Int32)), (0, .ref (α B))]) hx hb d_Endpoint_leastFree_26 hl rfl (by decide) (by decide) rfl (fun ls hl => ?_)
      refine lv_goto (tgt := 2) hx hb d_Endpoint_leastFree_29 (by decide) ?_
      refine lv_iload_n hx hb d_Endpoint_leastFree_2 rfl (lv_at hl 0 rfl) ?_
      refine lv_iconst (v := 3) hx hb d_Endpoint_leastFree_3 (by decide) ?_
      refine lv_icmp_ge (tgt := 32) hx hb d_Endpoint_leastFree_4 (by decide) (fun h_ => absurd h_ (by decide)) (fun _ => ?_)
      refine lv_aload_n hx hb d_Endpoint_leastFree_7 rfl (lv_at hl 1 rfl) ?_
      refine sp_g_Endpoint (v := .ref (α (B + 8))) hx hb ht hown hK hP iB 8 (by decide) (ht _ xw244) (fun _ h_ => h_) rfl d_Endpoint_leastFree_8 ?_
      refine lv_iload_n hx hb d_Endpoint_leastFree_11 rfl (lv_at hl 0 rfl) ?_
      refine sp_ga_chArr (n := 2) hx hb hK hP (by omega) (xb_in (xb_lit (x := (2 : Int32)) 2 rfl) (by omega) (by decide)) (xb_cl (xb_lit (x := (2 : Int32)) 2 rfl) (by omega)) d_Endpoint_leastFree_12 ?_
      refine sp_g_Channel (v := .int (σ.1 (B + 8 + 1 + 2) 2)) hx hb ht hown hK hP (by omega) 2 (by decide) (ht _ xw195) (fun _ h_ => h_) rfl d_Endpoint_leastFree_13 ?_
      refine lv_if_ne (tgt := 26) hx hb d_Endpoint_leastFree_16 (by decide) (fun c3 => ?_) (fun c3 => ?_)
      · skip
        refine lv_iinc (v := (3 : Int32)) (k := 0) (lv' := [(1, .int (3 : Int32)), (0, .ref (α B))]) hx hb d_Endpoint_leastFree_26 hl rfl (by decide) (by decide) rfl (fun ls hl => ?_)
        refine lv_goto (tgt := 2) hx hb d_Endpoint_leastFree_29 (by decide) ?_
        refine lv_iload_n hx hb d_Endpoint_leastFree_2 rfl (lv_at hl 0 rfl) ?_
        refine lv_iconst (v := 3) hx hb d_Endpoint_leastFree_3 (by decide) ?_
        refine lv_icmp_ge (tgt := 32) hx hb d_Endpoint_leastFree_4 (by decide) (fun _ => ?_) (fun h_ => absurd h_ (by decide))
        refine lv_null hx hb d_Endpoint_leastFree_32 ?_
        exact W.aret (v := .null) hx hb hr (Or.inl ⟨_, rfl⟩) (Or.inl rfl) (fun t ht_ hW => ⟨⟨none, σ, rfl, ⟨(congrArg (Option.map α) ((((if_neg c1).trans ((if_neg c2).trans ((if_neg c3)))).symm) : none = p_leastFree B σ)), rfl⟩, by rw [sp_B, ht_]; exact hP⟩, hS.F ht_⟩) hS.2.2 d_Endpoint_leastFree_33
      · skip
        refine lv_aload_n hx hb d_Endpoint_leastFree_19 rfl (lv_at hl 1 rfl) ?_
        refine sp_g_Endpoint (v := .ref (α (B + 8))) hx hb ht hown hK hP iB 8 (by decide) (ht _ xw244) (fun _ h_ => h_) rfl d_Endpoint_leastFree_20 ?_
        refine lv_iload_n hx hb d_Endpoint_leastFree_23 rfl (lv_at hl 0 rfl) ?_
        refine sp_ga_chArr (n := 2) hx hb hK hP (by omega) (xb_in (xb_lit (x := (2 : Int32)) 2 rfl) (by omega) (by decide)) (xb_cl (xb_lit (x := (2 : Int32)) 2 rfl) (by omega)) d_Endpoint_leastFree_24 ?_
        exact W.aret (v := .ref (α (B + 8 + 1 + 2))) hx hb hr (Or.inl ⟨_, rfl⟩) (Or.inr ⟨_, rfl⟩) (fun t ht_ hW => ⟨⟨some (α (B + 8 + 1 + 2)), σ, rfl, ⟨(congrArg (Option.map α) ((((if_neg c1).trans ((if_neg c2).trans ((if_pos c3)))).symm) : (some (B + 8 + 1 + 2)) = p_leastFree B σ)), rfl⟩, by rw [sp_B, ht_]; exact hP⟩, hS.F ht_⟩) hS.2.2 d_Endpoint_leastFree_25
    · skip
      refine lv_aload_n hx hb d_Endpoint_leastFree_19 rfl (lv_at hl 1 rfl) ?_
      refine sp_g_Endpoint (v := .ref (α (B + 8))) hx hb ht hown hK hP iB 8 (by decide) (ht _ xw244) (fun _ h_ => h_) rfl d_Endpoint_leastFree_20 ?_
      refine lv_iload_n hx hb d_Endpoint_leastFree_23 rfl (lv_at hl 0 rfl) ?_
      refine sp_ga_chArr (n := 1) hx hb hK hP (by omega) (xb_in (xb_lit (x := (1 : Int32)) 1 rfl) (by omega) (by decide)) (xb_cl (xb_lit (x := (1 : Int32)) 1 rfl) (by omega)) d_Endpoint_leastFree_24 ?_
      exact W.aret (v := .ref (α (B + 8 + 1 + 1))) hx hb hr (Or.inl ⟨_, rfl⟩) (Or.inr ⟨_, rfl⟩) (fun t ht_ hW => ⟨⟨some (α (B + 8 + 1 + 1)), σ, rfl, ⟨(congrArg (Option.map α) ((((if_neg c1).trans ((if_pos c2))).symm) : (some (B + 8 + 1 + 1)) = p_leastFree B σ)), rfl⟩, by rw [sp_B, ht_]; exact hP⟩, hS.F ht_⟩) hS.2.2 d_Endpoint_leastFree_25
  · skip
    refine lv_aload_n hx hb d_Endpoint_leastFree_19 rfl (lv_at hl 1 rfl) ?_
    refine sp_g_Endpoint (v := .ref (α (B + 8))) hx hb ht hown hK hP iB 8 (by decide) (ht _ xw244) (fun _ h_ => h_) rfl d_Endpoint_leastFree_20 ?_
    refine lv_iload_n hx hb d_Endpoint_leastFree_23 rfl (lv_at hl 0 rfl) ?_
    refine sp_ga_chArr (n := 0) hx hb hK hP (by omega) (xb_in (xb_lit (x := (0 : Int32)) 0 rfl) (by omega) (by decide)) (xb_cl (xb_lit (x := (0 : Int32)) 0 rfl) (by omega)) d_Endpoint_leastFree_24 ?_
    exact W.aret (v := .ref (α (B + 8 + 1 + 0))) hx hb hr (Or.inl ⟨_, rfl⟩) (Or.inr ⟨_, rfl⟩) (fun t ht_ hW => ⟨⟨some (α (B + 8 + 1 + 0)), σ, rfl, ⟨(congrArg (Option.map α) ((((if_pos c1)).symm) : (some (B + 8 + 1 + 0)) = p_leastFree B σ)), rfl⟩, by rw [sp_B, ht_]; exact hP⟩, hS.F ht_⟩) hS.2.2 d_Endpoint_leastFree_25
theorem p_leastFree_is {B K : Nat} {σ : xb_St} (iB : sp_isEndpoint B) (h : p_leastFree B σ = some K) : sp_isChannel K := by
  unfold p_leastFree at h
  repeat (split at h; (have e := Option.some.inj h; omega))
  exact nomatch h
