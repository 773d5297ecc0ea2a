abbrev b_Line_add : ByteArray := prog_8_method_2_code
def y_Line_add : MethodName := ⟨"SecurePair$Line", "add", "(LSecurePair$Packet;)V"⟩
abbrev w_Line_add : List Cond := .code y_Line_add b_Line_add 3 none :: xa
theorem d_Line_add_0 : decode b_Line_add 0 = .ok (.aload_n 0, 1) := by decide +kernel
theorem d_Line_add_1 : decode b_Line_add 1 = .ok (.getfield 15, 3) := by decide +kernel
theorem d_Line_add_4 : decode b_Line_add 4 = .ok (.bipush 16, 2) := by decide +kernel
theorem d_Line_add_6 : decode b_Line_add 6 = .ok (.if_icmp .lt 4, 3) := by decide +kernel
theorem d_Line_add_9 : decode b_Line_add 9 = .ok (.return_, 1) := by decide +kernel
theorem d_Line_add_10 : decode b_Line_add 10 = .ok (.aload_n 0, 1) := by decide +kernel
theorem d_Line_add_11 : decode b_Line_add 11 = .ok (.getfield 15, 3) := by decide +kernel
theorem d_Line_add_14 : decode b_Line_add 14 = .ok (.bipush 6, 2) := by decide +kernel
theorem d_Line_add_16 : decode b_Line_add 16 = .ok (.imul, 1) := by decide +kernel
theorem d_Line_add_17 : decode b_Line_add 17 = .ok (.istore_n 2, 1) := by decide +kernel
theorem d_Line_add_18 : decode b_Line_add 18 = .ok (.aload_n 0, 1) := by decide +kernel
theorem d_Line_add_19 : decode b_Line_add 19 = .ok (.getfield 9, 3) := by decide +kernel
theorem d_Line_add_22 : decode b_Line_add 22 = .ok (.iload_n 2, 1) := by decide +kernel
theorem d_Line_add_23 : decode b_Line_add 23 = .ok (.aload_n 1, 1) := by decide +kernel
theorem d_Line_add_24 : decode b_Line_add 24 = .ok (.getfield 19, 3) := by decide +kernel
theorem d_Line_add_27 : decode b_Line_add 27 = .ok (.i2l, 1) := by decide +kernel
theorem d_Line_add_28 : decode b_Line_add 28 = .ok (.lastore, 1) := by decide +kernel
theorem d_Line_add_29 : decode b_Line_add 29 = .ok (.aload_n 0, 1) := by decide +kernel
theorem d_Line_add_30 : decode b_Line_add 30 = .ok (.getfield 9, 3) := by decide +kernel
theorem d_Line_add_33 : decode b_Line_add 33 = .ok (.iload_n 2, 1) := by decide +kernel
theorem d_Line_add_34 : decode b_Line_add 34 = .ok (.iconst 1, 1) := by decide +kernel
theorem d_Line_add_35 : decode b_Line_add 35 = .ok (.iadd, 1) := by decide +kernel
theorem d_Line_add_36 : decode b_Line_add 36 = .ok (.aload_n 1, 1) := by decide +kernel
theorem d_Line_add_37 : decode b_Line_add 37 = .ok (.getfield 24, 3) := by decide +kernel
theorem d_Line_add_40 : decode b_Line_add 40 = .ok (.lastore, 1) := by decide +kernel
theorem d_Line_add_41 : decode b_Line_add 41 = .ok (.aload_n 0, 1) := by decide +kernel
theorem d_Line_add_42 : decode b_Line_add 42 = .ok (.getfield 9, 3) := by decide +kernel
theorem d_Line_add_45 : decode b_Line_add 45 = .ok (.iload_n 2, 1) := by decide +kernel
theorem d_Line_add_46 : decode b_Line_add 46 = .ok (.iconst 2, 1) := by decide +kernel
theorem d_Line_add_47 : decode b_Line_add 47 = .ok (.iadd, 1) := by decide +kernel
theorem d_Line_add_48 : decode b_Line_add 48 = .ok (.aload_n 1, 1) := by decide +kernel
theorem d_Line_add_49 : decode b_Line_add 49 = .ok (.getfield 28, 3) := by decide +kernel
theorem d_Line_add_52 : decode b_Line_add 52 = .ok (.lastore, 1) := by decide +kernel
theorem d_Line_add_53 : decode b_Line_add 53 = .ok (.aload_n 0, 1) := by decide +kernel
theorem d_Line_add_54 : decode b_Line_add 54 = .ok (.getfield 9, 3) := by decide +kernel
theorem d_Line_add_57 : decode b_Line_add 57 = .ok (.iload_n 2, 1) := by decide +kernel
theorem d_Line_add_58 : decode b_Line_add 58 = .ok (.iconst 3, 1) := by decide +kernel
theorem d_Line_add_59 : decode b_Line_add 59 = .ok (.iadd, 1) := by decide +kernel
theorem d_Line_add_60 : decode b_Line_add 60 = .ok (.aload_n 1, 1) := by decide +kernel
theorem d_Line_add_61 : decode b_Line_add 61 = .ok (.getfield 31, 3) := by decide +kernel
theorem d_Line_add_64 : decode b_Line_add 64 = .ok (.lastore, 1) := by decide +kernel
theorem d_Line_add_65 : decode b_Line_add 65 = .ok (.aload_n 0, 1) := by decide +kernel
theorem d_Line_add_66 : decode b_Line_add 66 = .ok (.getfield 9, 3) := by decide +kernel
theorem d_Line_add_69 : decode b_Line_add 69 = .ok (.iload_n 2, 1) := by decide +kernel
theorem d_Line_add_70 : decode b_Line_add 70 = .ok (.iconst 4, 1) := by decide +kernel
theorem d_Line_add_71 : decode b_Line_add 71 = .ok (.iadd, 1) := by decide +kernel
theorem d_Line_add_72 : decode b_Line_add 72 = .ok (.aload_n 1, 1) := by decide +kernel
theorem d_Line_add_73 : decode b_Line_add 73 = .ok (.getfield 34, 3) := by decide +kernel
theorem d_Line_add_76 : decode b_Line_add 76 = .ok (.lastore, 1) := by decide +kernel
theorem d_Line_add_77 : decode b_Line_add 77 = .ok (.aload_n 0, 1) := by decide +kernel
theorem d_Line_add_78 : decode b_Line_add 78 = .ok (.getfield 9, 3) := by decide +kernel
theorem d_Line_add_81 : decode b_Line_add 81 = .ok (.iload_n 2, 1) := by decide +kernel
theorem d_Line_add_82 : decode b_Line_add 82 = .ok (.iconst 5, 1) := by decide +kernel
theorem d_Line_add_83 : decode b_Line_add 83 = .ok (.iadd, 1) := by decide +kernel
theorem d_Line_add_84 : decode b_Line_add 84 = .ok (.aload_n 1, 1) := by decide +kernel
theorem d_Line_add_85 : decode b_Line_add 85 = .ok (.getfield 37, 3) := by decide +kernel
theorem d_Line_add_88 : decode b_Line_add 88 = .ok (.lastore, 1) := by decide +kernel
theorem d_Line_add_89 : decode b_Line_add 89 = .ok (.aload_n 0, 1) := by decide +kernel
theorem d_Line_add_90 : decode b_Line_add 90 = .ok (.dup, 1) := by decide +kernel
theorem d_Line_add_91 : decode b_Line_add 91 = .ok (.getfield 15, 3) := by decide +kernel
theorem d_Line_add_94 : decode b_Line_add 94 = .ok (.iconst 1, 1) := by decide +kernel
theorem d_Line_add_95 : decode b_Line_add 95 = .ok (.iadd, 1) := by decide +kernel
theorem d_Line_add_96 : decode b_Line_add 96 = .ok (.putfield 15, 3) := by decide +kernel
theorem d_Line_add_99 : decode b_Line_add 99 = .ok (.return_, 1) := by decide +kernel
theorem xw35 : (Cond.fieldLink "SecurePair$Line" (9 : Nat) "SecurePair$Line" "rows" "[J") ∈ xa := xa_t 35 (by decide +kernel) (by decide +kernel)
theorem xw37 : (Cond.fieldLink "SecurePair$Line" (15 : Nat) "SecurePair$Line" "size" "I") ∈ xa := xa_t 37 (by decide +kernel) (by decide +kernel)
theorem xw60 : (Cond.fieldLink "SecurePair$Line" (19 : Nat) "SecurePair$Packet" "kind" "I") ∈ xa := xa_t 60 (by decide +kernel) (by decide +kernel)
theorem xw63 : (Cond.fieldLink "SecurePair$Line" (24 : Nat) "SecurePair$Packet" "w" "J") ∈ xa := xa_t 63 (by decide +kernel) (by decide +kernel)
theorem xw68 : (Cond.fieldLink "SecurePair$Line" (28 : Nat) "SecurePair$Packet" "x" "J") ∈ xa := xa_t 68 (by decide +kernel) (by decide +kernel)
theorem xw72 : (Cond.fieldLink "SecurePair$Line" (31 : Nat) "SecurePair$Packet" "y" "J") ∈ xa := xa_t 72 (by decide +kernel) (by decide +kernel)
theorem xw76 : (Cond.fieldLink "SecurePair$Line" (34 : Nat) "SecurePair$Packet" "z" "J") ∈ xa := xa_t 76 (by decide +kernel) (by decide +kernel)
theorem xw80 : (Cond.fieldLink "SecurePair$Line" (37 : Nat) "SecurePair$Packet" "tag" "J") ∈ xa := xa_t 80 (by decide +kernel) (by decide +kernel)
def p_Line_add (K : Nat) (P : Nat) (σ : xb_St) : xb_St := (if (σ.1 K 1) < (16 : Int32) then (xb_si (xb_sl (xb_sl (xb_sl (xb_sl (xb_sl (xb_sl σ (K + 2) ((σ.1 K 1).toNatClampNeg * 6) ((σ.1 P 0).toInt64)) (K + 2) (((σ.1 K 1).toNatClampNeg * 6) + 1) (σ.2 P 1)) (K + 2) (((σ.1 K 1).toNatClampNeg * 6) + 2) (σ.2 P 2)) (K + 2) (((σ.1 K 1).toNatClampNeg * 6) + 3) (σ.2 P 3)) (K + 2) (((σ.1 K 1).toNatClampNeg * 6) + 4) (σ.2 P 4)) (K + 2) (((σ.1 K 1).toNatClampNeg * 6) + 5) (σ.2 P 5)) K 1 ((σ.1 K 1) + (1 : Int32))) else σ)
set_option maxHeartbeats 4000000 in
set_option maxRecDepth 100000 in
theorem c_Line_add (l : Launch) (D : va_G) (α : Nat → Nat) (κ : Nat → ClassId) (hα : xb_inj α 35) (σ : xb_St) (K : Nat) (P : Nat) (iK : sp_isLine K) (iP : sp_isPacket P) (ok : sp_ok σ) : Met l y_Line_add w_Line_add ({ frames := 0, cells := 0, slots := 0, locals := 0 }) (va_Pc ([.ref (α K), .ref (α P)]) (sp_Pre D α κ σ)) (va_Qv (fun u : xb_St => u = p_Line_add K P σ) (sp_B D α κ) (xb_A α 35)) 0 0 (xb_A α 35) := by
  refine Met.ofW (cc := b_Line_add) (maxL := 3) (ret := none) (by decide) rfl ?_
  intro p e s m args below meth c s₁ B_ hml hv
  obtain ⟨rfl, hP, hK, hN⟩ := hv
  have hx := B_.exec
  have hb := B_.bytes
  have hr := B_.returns
  have hts := atoms_spec (ws := w_Line_add) B_.pre
  have ht : ∀ w ∈ xa, w.before _ s = true := fun w h => hts w (List.mem_cons_of_mem _ h)
  have hown : s.vm.findClass "SecurePair$Line" = some m.cls := findClass_of_methodNamed B_.named
  have hlocks := B_.notSynchronized
  have hD := sp_D hα κ
  have hS : va_S (xb_A α 35) s.heap s.heap [] := va_S.rf
  have hl := lv_entry ([.ref (α K), .ref (α P)]) (n := 3) (Nat.le_of_ble_eq_true rfl)
  rw [lg_entry_eq]
  generalize (lg_sl ([.ref (α K), .ref (α P)]) ++ List.replicate (3 - (lg_sl ([.ref (α K), .ref (α P)])).length) Slot.unset).toArray = ls at hl ⊢
  have hl : lv_has ls 3 [(0, .ref (α K)), (1, .ref (α P))] := hl
  obtain ⟨n0, hn0, en0⟩ := ok.1 K iK
  have hz := xb_nb en0 (by omega)
  have hz0 : (σ.1 K 1).toNatClampNeg ≤ 16 := by rw [hz.2]; exact hn0
  refine lv_aload_n hx hb d_Line_add_0 rfl (lv_at hl 0 rfl) ?_
  refine sp_g_Line (v := .int (σ.1 K 1)) hx hb ht hown hK hP iK 1 (by decide) (ht _ xw37) (fun _ h_ => h_) rfl d_Line_add_1 ?_
  refine lv_bipush (v := 16) hx hb d_Line_add_4 (by decide) ?_
  refine lv_icmp_lt (tgt := 10) hx hb d_Line_add_6 (by decide) (fun c1 => ?_) (fun c1 => ?_)
  · skip
    have nc1 := (xb_ltN hz.1 (xb_lit (x := (16 : Int32)) 16 rfl) (by omega) (by omega)).mp c1
    refine lv_aload_n hx hb d_Line_add_10 rfl (lv_at hl 0 rfl) ?_
    refine sp_g_Line (v := .int (σ.1 K 1)) hx hb ht hown hK hP iK 1 (by decide) (ht _ xw37) (fun _ h_ => h_) rfl d_Line_add_11 ?_
    refine lv_bipush (v := 6) hx hb d_Line_add_14 (by decide) ?_
    refine lv_imul hx hb d_Line_add_16 ?_
    refine lv_istore_n (lv' := [(2, .int ((σ.1 K 1) * (6 : Int32))), (0, .ref (α K)), (1, .ref (α P))]) hx hb d_Line_add_17 rfl hl (by decide) rfl (fun ls hl => ?_)
    refine lv_aload_n hx hb d_Line_add_18 rfl (lv_at hl 1 rfl) ?_
    refine sp_g_Line (v := .ref (α (K + 2))) hx hb ht hown hK hP iK 0 (by decide) (ht _ xw35) (fun _ h_ => h_) rfl d_Line_add_19 ?_
    refine lv_iload_n hx hb d_Line_add_22 rfl (lv_at hl 0 rfl) ?_
    refine lv_aload_n hx hb d_Line_add_23 rfl (lv_at hl 2 rfl) ?_
    refine sp_g_Packet (v := .int (σ.1 P 0)) hx hb ht hown hK hP iP 0 (by decide) (ht _ xw60) (fun _ h_ => h_) rfl d_Line_add_24 ?_
    refine lv_i2l (v := (σ.1 P 0).toInt64) hx hb d_Line_add_27 (by rfl) ?_
    refine sp_pa_rows (n := ((σ.1 K 1).toNatClampNeg * 6)) (x := (σ.1 P 0).toInt64) hx hb hK hP (by omega) hD hS (xb_in (xb_nm hz.1 (xb_lit (x := (6 : Int32)) 6 rfl)) (by omega) (by decide)) (xb_cl (xb_nm hz.1 (xb_lit (x := (6 : Int32)) 6 rfl)) (by omega)) d_Line_add_28 (fun H locs hP hS => ?_)
    refine lv_aload_n hx hb d_Line_add_29 rfl (lv_at hl 1 rfl) ?_
    refine sp_g_Line (v := .ref (α (K + 2))) hx hb ht hown hK hP iK 0 (by decide) (ht _ xw35) (fun _ h_ => h_) rfl d_Line_add_30 ?_
    refine lv_iload_n hx hb d_Line_add_33 rfl (lv_at hl 0 rfl) ?_
    refine lv_iconst (v := 1) hx hb d_Line_add_34 (by decide) ?_
    refine lv_iadd hx hb d_Line_add_35 ?_
    refine lv_aload_n hx hb d_Line_add_36 rfl (lv_at hl 2 rfl) ?_
    refine sp_g_Packet (v := .long (σ.2 P 1)) hx hb ht hown hK hP iP 1 (by decide) (ht _ xw63) (fun _ h_ => h_) (congrArg (fun z_ => some (Value.long z_)) ((xb_l_nk (by omega)))) d_Line_add_37 ?_
    refine sp_pa_rows (n := (((σ.1 K 1).toNatClampNeg * 6) + 1)) (x := (σ.2 P 1)) hx hb hK hP (by omega) hD hS (xb_in (xb_na (xb_nm hz.1 (xb_lit (x := (6 : Int32)) 6 rfl)) (xb_lit (x := (1 : Int32)) 1 rfl)) (by omega) (by decide)) (xb_cl (xb_na (xb_nm hz.1 (xb_lit (x := (6 : Int32)) 6 rfl)) (xb_lit (x := (1 : Int32)) 1 rfl)) (by omega)) d_Line_add_40 (fun H locs hP hS => ?_)
    refine lv_aload_n hx hb d_Line_add_41 rfl (lv_at hl 1 rfl) ?_
    refine sp_g_Line (v := .ref (α (K + 2))) hx hb ht hown hK hP iK 0 (by decide) (ht _ xw35) (fun _ h_ => h_) rfl d_Line_add_42 ?_
    refine lv_iload_n hx hb d_Line_add_45 rfl (lv_at hl 0 rfl) ?_
    refine lv_iconst (v := 2) hx hb d_Line_add_46 (by decide) ?_
    refine lv_iadd hx hb d_Line_add_47 ?_
    refine lv_aload_n hx hb d_Line_add_48 rfl (lv_at hl 2 rfl) ?_
    refine sp_g_Packet (v := .long (σ.2 P 2)) hx hb ht hown hK hP iP 2 (by decide) (ht _ xw68) (fun _ h_ => h_) (congrArg (fun z_ => some (Value.long z_)) (((xb_l_nk (by omega))).trans ((xb_l_nk (by omega))))) d_Line_add_49 ?_
    refine sp_pa_rows (n := (((σ.1 K 1).toNatClampNeg * 6) + 2)) (x := (σ.2 P 2)) hx hb hK hP (by omega) hD hS (xb_in (xb_na (xb_nm hz.1 (xb_lit (x := (6 : Int32)) 6 rfl)) (xb_lit (x := (2 : Int32)) 2 rfl)) (by omega) (by decide)) (xb_cl (xb_na (xb_nm hz.1 (xb_lit (x := (6 : Int32)) 6 rfl)) (xb_lit (x := (2 : Int32)) 2 rfl)) (by omega)) d_Line_add_52 (fun H locs hP hS => ?_)
    refine lv_aload_n hx hb d_Line_add_53 rfl (lv_at hl 1 rfl) ?_
    refine sp_g_Line (v := .ref (α (K + 2))) hx hb ht hown hK hP iK 0 (by decide) (ht _ xw35) (fun _ h_ => h_) rfl d_Line_add_54 ?_
    refine lv_iload_n hx hb d_Line_add_57 rfl (lv_at hl 0 rfl) ?_
    refine lv_iconst (v := 3) hx hb d_Line_add_58 (by decide) ?_
    refine lv_iadd hx hb d_Line_add_59 ?_
    refine lv_aload_n hx hb d_Line_add_60 rfl (lv_at hl 2 rfl) ?_
    refine sp_g_Packet (v := .long (σ.2 P 3)) hx hb ht hown hK hP iP 3 (by decide) (ht _ xw72) (fun _ h_ => h_) (congrArg (fun z_ => some (Value.long z_)) (((xb_l_nk (by omega))).trans (((xb_l_nk (by omega))).trans ((xb_l_nk (by omega)))))) d_Line_add_61 ?_
    refine sp_pa_rows (n := (((σ.1 K 1).toNatClampNeg * 6) + 3)) (x := (σ.2 P 3)) hx hb hK hP (by omega) hD hS (xb_in (xb_na (xb_nm hz.1 (xb_lit (x := (6 : Int32)) 6 rfl)) (xb_lit (x := (3 : Int32)) 3 rfl)) (by omega) (by decide)) (xb_cl (xb_na (xb_nm hz.1 (xb_lit (x := (6 : Int32)) 6 rfl)) (xb_lit (x := (3 : Int32)) 3 rfl)) (by omega)) d_Line_add_64 (fun H locs hP hS => ?_)
    refine lv_aload_n hx hb d_Line_add_65 rfl (lv_at hl 1 rfl) ?_
    refine sp_g_Line (v := .ref (α (K + 2))) hx hb ht hown hK hP iK 0 (by decide) (ht _ xw35) (fun _ h_ => h_) rfl d_Line_add_66 ?_
    refine lv_iload_n hx hb d_Line_add_69 rfl (lv_at hl 0 rfl) ?_
    refine lv_iconst (v := 4) hx hb d_Line_add_70 (by decide) ?_
    refine lv_iadd hx hb d_Line_add_71 ?_
    refine lv_aload_n hx hb d_Line_add_72 rfl (lv_at hl 2 rfl) ?_
    refine sp_g_Packet (v := .long (σ.2 P 4)) hx hb ht hown hK hP iP 4 (by decide) (ht _ xw76) (fun _ h_ => h_) (congrArg (fun z_ => some (Value.long z_)) (((xb_l_nk (by omega))).trans (((xb_l_nk (by omega))).trans (((xb_l_nk (by omega))).trans ((xb_l_nk (by omega))))))) d_Line_add_73 ?_
    refine sp_pa_rows (n := (((σ.1 K 1).toNatClampNeg * 6) + 4)) (x := (σ.2 P 4)) hx hb hK hP (by omega) hD hS (xb_in (xb_na (xb_nm hz.1 (xb_lit (x := (6 : Int32)) 6 rfl)) (xb_lit (x := (4 : Int32)) 4 rfl)) (by omega) (by decide)) (xb_cl (xb_na (xb_nm hz.1 (xb_lit (x := (6 : Int32)) 6 rfl)) (xb_lit (x := (4 : Int32)) 4 rfl)) (by omega)) d_Line_add_76 (fun H locs hP hS => ?_)
    refine lv_aload_n hx hb d_Line_add_77 rfl (lv_at hl 1 rfl) ?_
    refine sp_g_Line (v := .ref (α (K + 2))) hx hb ht hown hK hP iK 0 (by decide) (ht _ xw35) (fun _ h_ => h_) rfl d_Line_add_78 ?_
    refine lv_iload_n hx hb d_Line_add_81 rfl (lv_at hl 0 rfl) ?_
    refine lv_iconst (v := 5) hx hb d_Line_add_82 (by decide) ?_
    refine lv_iadd hx hb d_Line_add_83 ?_
    refine lv_aload_n hx hb d_Line_add_84 rfl (lv_at hl 2 rfl) ?_
    refine sp_g_Packet (v := .long (σ.2 P 5)) hx hb ht hown hK hP iP 5 (by decide) (ht _ xw80) (fun _ h_ => h_) (congrArg (fun z_ => some (Value.long z_)) (((xb_l_nk (by omega))).trans (((xb_l_nk (by omega))).trans (((xb_l_nk (by omega))).trans (((xb_l_nk (by omega))).trans ((xb_l_nk (by omega)))))))) d_Line_add_85 ?_
    refine sp_pa_rows (n := (((σ.1 K 1).toNatClampNeg * 6) + 5)) (x := (σ.2 P 5)) hx hb hK hP (by omega) hD hS (xb_in (xb_na (xb_nm hz.1 (xb_lit (x := (6 : Int32)) 6 rfl)) (xb_lit (x := (5 : Int32)) 5 rfl)) (by omega) (by decide)) (xb_cl (xb_na (xb_nm hz.1 (xb_lit (x := (6 : Int32)) 6 rfl)) (xb_lit (x := (5 : Int32)) 5 rfl)) (by omega)) d_Line_add_88 (fun H locs hP hS => ?_)
    refine lv_aload_n hx hb d_Line_add_89 rfl (lv_at hl 1 rfl) ?_
    refine lv_dup hx hb d_Line_add_90 rfl ?_
    refine sp_g_Line (v := .int (σ.1 K 1)) hx hb ht hown hK hP iK 1 (by decide) (ht _ xw37) (fun _ h_ => h_) (congrArg (fun z_ => some (Value.int z_)) ((xb_i_l).trans ((xb_i_l).trans ((xb_i_l).trans ((xb_i_l).trans ((xb_i_l).trans (xb_i_l))))))) d_Line_add_91 ?_
    refine lv_iconst (v := 1) hx hb d_Line_add_94 (by decide) ?_
    refine lv_iadd hx hb d_Line_add_95 ?_
    refine sp_pi_Line (x := ((σ.1 K 1) + (1 : Int32))) (ty := .int) hx hb ht hown hK hP iK 1 (by decide) (ht _ xw37) (fun _ h_ => h_) hD hS rfl (by decide +kernel) rfl rfl hf_Line_1 d_Line_add_96 (fun H locs hP hS => ?_)
    exact W.vret hx hb hr (fun t ht_ hW => ⟨⟨(xb_si (xb_sl (xb_sl (xb_sl (xb_sl (xb_sl (xb_sl σ (K + 2) ((σ.1 K 1).toNatClampNeg * 6) ((σ.1 P 0).toInt64)) (K + 2) (((σ.1 K 1).toNatClampNeg * 6) + 1) (σ.2 P 1)) (K + 2) (((σ.1 K 1).toNatClampNeg * 6) + 2) (σ.2 P 2)) (K + 2) (((σ.1 K 1).toNatClampNeg * 6) + 3) (σ.2 P 3)) (K + 2) (((σ.1 K 1).toNatClampNeg * 6) + 4) (σ.2 P 4)) (K + 2) (((σ.1 K 1).toNatClampNeg * 6) + 5) (σ.2 P 5)) K 1 ((σ.1 K 1) + (1 : Int32))), rfl, ((if_pos c1)).symm, by rw [sp_B, ht_]; exact hP⟩, hS.F ht_⟩) hS.2.2 d_Line_add_99
  · skip
    have nc1 := mt (xb_ltN hz.1 (xb_lit (x := (16 : Int32)) 16 rfl) (by omega) (by omega)).mpr c1
    exact W.vret hx hb hr (fun t ht_ hW => ⟨⟨σ, rfl, ((if_neg c1)).symm, by rw [sp_B, ht_]; exact hP⟩, hS.F ht_⟩) hS.2.2 d_Line_add_9
theorem ok_p_Line_add {σ : xb_St} (K : Nat) (P : Nat) (iK : sp_isLine K) (iP : sp_isPacket P) (ok : sp_ok σ) : sp_ok (p_Line_add K P σ) := by
  obtain ⟨n0, hn0, en0⟩ := ok.1 K iK
  unfold p_Line_add
  split
  · rename_i h
    have h : n0 < 16 := (xb_ltN en0 (xb_lit (x := (16 : Int32)) 16 rfl) (by omega) (by decide)).mp h
    exact ok_line (ok_sl (ok_sl (ok_sl (ok_sl (ok_sl (ok_sl ok)))))) iK ⟨n0 + 1, h, by rw [en0]; exact nI_1 n0⟩
  · exact ok
abbrev b_Line_dropFirst : ByteArray := prog_8_method_4_code
def y_Line_dropFirst : MethodName := ⟨"SecurePair$Line", "dropFirst", "()V"⟩
abbrev w_Line_dropFirst : List Cond := .code y_Line_dropFirst b_Line_dropFirst 1 none :: xa
theorem d_Line_dropFirst_0 : decode b_Line_dropFirst 0 = .ok (.aload_n 0, 1) := by decide +kernel
theorem d_Line_dropFirst_1 : decode b_Line_dropFirst 1 = .ok (.getfield 15, 3) := by decide +kernel
theorem d_Line_dropFirst_4 : decode b_Line_dropFirst 4 = .ok (.ifCond .le 34, 3) := by decide +kernel
theorem d_Line_dropFirst_7 : decode b_Line_dropFirst 7 = .ok (.aload_n 0, 1) := by decide +kernel
theorem d_Line_dropFirst_8 : decode b_Line_dropFirst 8 = .ok (.dup, 1) := by decide +kernel
theorem d_Line_dropFirst_9 : decode b_Line_dropFirst 9 = .ok (.getfield 15, 3) := by decide +kernel
theorem d_Line_dropFirst_12 : decode b_Line_dropFirst 12 = .ok (.iconst 1, 1) := by decide +kernel
theorem d_Line_dropFirst_13 : decode b_Line_dropFirst 13 = .ok (.isub, 1) := by decide +kernel
theorem d_Line_dropFirst_14 : decode b_Line_dropFirst 14 = .ok (.putfield 15, 3) := by decide +kernel
theorem d_Line_dropFirst_17 : decode b_Line_dropFirst 17 = .ok (.aload_n 0, 1) := by decide +kernel
theorem d_Line_dropFirst_18 : decode b_Line_dropFirst 18 = .ok (.getfield 9, 3) := by decide +kernel
theorem d_Line_dropFirst_21 : decode b_Line_dropFirst 21 = .ok (.bipush 6, 2) := by decide +kernel
theorem d_Line_dropFirst_23 : decode b_Line_dropFirst 23 = .ok (.aload_n 0, 1) := by decide +kernel
theorem d_Line_dropFirst_24 : decode b_Line_dropFirst 24 = .ok (.getfield 9, 3) := by decide +kernel
theorem d_Line_dropFirst_27 : decode b_Line_dropFirst 27 = .ok (.iconst 0, 1) := by decide +kernel
theorem d_Line_dropFirst_28 : decode b_Line_dropFirst 28 = .ok (.aload_n 0, 1) := by decide +kernel
theorem d_Line_dropFirst_29 : decode b_Line_dropFirst 29 = .ok (.getfield 15, 3) := by decide +kernel
theorem d_Line_dropFirst_32 : decode b_Line_dropFirst 32 = .ok (.bipush 6, 2) := by decide +kernel
theorem d_Line_dropFirst_34 : decode b_Line_dropFirst 34 = .ok (.imul, 1) := by decide +kernel
theorem d_Line_dropFirst_35 : decode b_Line_dropFirst 35 = .ok (.invokestatic 43, 3) := by decide +kernel
theorem d_Line_dropFirst_38 : decode b_Line_dropFirst 38 = .ok (.return_, 1) := by decide +kernel
theorem xw17 : (Cond.initialized "java/lang/System") ∈ xa := xa_t 17 (by decide +kernel) (by decide +kernel)
theorem xw424 : (Cond.methodLink "SecurePair$Line" (43 : Nat) ({ cls := "java/lang/System", name := "arraycopy", desc := "(Ljava/lang/Object;ILjava/lang/Object;II)V" } : MethodName)) ∈ xa := xa_t 424 (by decide +kernel) (by decide +kernel)
theorem xw425 : (Cond.static ({ cls := "java/lang/System", name := "arraycopy", desc := "(Ljava/lang/Object;ILjava/lang/Object;II)V" } : MethodName)) ∈ xa := xa_t 425 (by decide +kernel) (by decide +kernel)
theorem xw426 : (Cond.native ({ cls := "java/lang/System", name := "arraycopy", desc := "(Ljava/lang/Object;ILjava/lang/Object;II)V" } : MethodName)) ∈ xa := xa_t 426 (by decide +kernel) (by decide +kernel)
def p_Line_drop (K : Nat) (σ : xb_St) : xb_St := (if (σ.1 K 1) ≤ 0 then σ else (xb_cp (xb_si σ K 1 ((σ.1 K 1) - (1 : Int32))) (K + 2) 6 0 (((σ.1 K 1).toNatClampNeg - 1) * 6)))
set_option maxHeartbeats 4000000 in
set_option maxRecDepth 100000 in
theorem c_Line_dropFirst (l : Launch) (D : va_G) (α : Nat → Nat) (κ : Nat → ClassId) (hα : xb_inj α 35) (σ : xb_St) (K : Nat) (iK : sp_isLine K) (ok : sp_ok σ) : Met l y_Line_dropFirst w_Line_dropFirst ({ frames := 1, cells := 0, slots := 0, locals := 18 }) (va_Pc ([.ref (α K)]) (sp_Pre D α κ σ)) (va_Qv (fun u : xb_St => u = p_Line_drop K σ) (sp_B D α κ) (xb_A α 35)) 0 0 (xb_A α 35) := by
  refine Met.ofW (cc := b_Line_dropFirst) (maxL := 1) (ret := none) (by decide) rfl ?_
  intro p e s m args below meth c s₁ B_ hml hv
  obtain ⟨rfl, hP, hK, hN⟩ := hv
  have hx := B_.exec
  have hb := B_.bytes
  have hr := B_.returns
  have hts := atoms_spec (ws := w_Line_dropFirst) B_.pre
  have ht : ∀ w ∈ xa, w.before _ s = true := fun w h => hts w (List.mem_cons_of_mem _ h)
  have hown : s.vm.findClass "SecurePair$Line" = some m.cls := findClass_of_methodNamed B_.named
  have hlocks := B_.notSynchronized
  have hD := sp_D hα κ
  have hS : va_S (xb_A α 35) s.heap s.heap [] := va_S.rf
  have hl := lv_entry ([.ref (α K)]) (n := 1) (Nat.le_of_ble_eq_true rfl)
  rw [lg_entry_eq]
  generalize (lg_sl ([.ref (α K)]) ++ List.replicate (1 - (lg_sl ([.ref (α K)])).length) Slot.unset).toArray = ls at hl ⊢
  have hl : lv_has ls 1 [(0, .ref (α K))] := hl
  obtain ⟨n0, hn0, en0⟩ := ok.1 K iK
  have hz := xb_nb en0 (by omega)
  have hz0 : (σ.1 K 1).toNatClampNeg ≤ 16 := by rw [hz.2]; exact hn0
  refine lv_aload_n hx hb d_Line_dropFirst_0 rfl (lv_at hl 0 rfl) ?_
  refine sp_g_Line (v := .int (σ.1 K 1)) hx hb ht hown hK hP iK 1 (by decide) (ht _ xw37) (fun _ h_ => h_) rfl d_Line_dropFirst_1 ?_
  refine lv_if_le (tgt := 38) hx hb d_Line_dropFirst_4 (by decide) (fun c1 => ?_) (fun c1 => ?_)
  · skip
    have nc1 := (xb_leN hz.1 (xb_lit (x := (0 : Int32)) 0 rfl) (by omega) (by omega)).mp c1
    exact W.vret hx hb hr (fun t ht_ hW => ⟨⟨σ, rfl, ((if_pos c1)).symm, by rw [sp_B, ht_]; exact hP⟩, hS.F ht_⟩) hS.2.2 d_Line_dropFirst_38
  · skip
    have nc1 := mt (xb_leN hz.1 (xb_lit (x := (0 : Int32)) 0 rfl) (by omega) (by omega)).mpr c1
    refine lv_aload_n hx hb d_Line_dropFirst_7 rfl (lv_at hl 0 rfl) ?_
    refine lv_dup hx hb d_Line_dropFirst_8 rfl ?_
    refine sp_g_Line (v := .int (σ.1 K 1)) hx hb ht hown hK hP iK 1 (by decide) (ht _ xw37) (fun _ h_ => h_) rfl d_Line_dropFirst_9 ?_
    refine lv_iconst (v := 1) hx hb d_Line_dropFirst_12 (by decide) ?_
    refine lv_isub hx hb d_Line_dropFirst_13 ?_
    refine sp_pi_Line (x := ((σ.1 K 1) - (1 : Int32))) (ty := .int) hx hb ht hown hK hP iK 1 (by decide) (ht _ xw37) (fun _ h_ => h_) hD hS rfl (by decide +kernel) rfl rfl hf_Line_1 d_Line_dropFirst_14 (fun H locs hP hS => ?_)
    refine lv_aload_n hx hb d_Line_dropFirst_17 rfl (lv_at hl 0 rfl) ?_
    refine sp_g_Line (v := .ref (α (K + 2))) hx hb ht hown hK hP iK 0 (by decide) (ht _ xw35) (fun _ h_ => h_) rfl d_Line_dropFirst_18 ?_
    refine lv_bipush (v := 6) hx hb d_Line_dropFirst_21 (by decide) ?_
    refine lv_aload_n hx hb d_Line_dropFirst_23 rfl (lv_at hl 0 rfl) ?_
    refine sp_g_Line (v := .ref (α (K + 2))) hx hb ht hown hK hP iK 0 (by decide) (ht _ xw35) (fun _ h_ => h_) rfl d_Line_dropFirst_24 ?_
    refine lv_iconst (v := 0) hx hb d_Line_dropFirst_27 (by decide) ?_
    refine lv_aload_n hx hb d_Line_dropFirst_28 rfl (lv_at hl 0 rfl) ?_
    refine sp_g_Line (v := .int ((σ.1 K 1) - (1 : Int32))) hx hb ht hown hK hP iK 1 (by decide) (ht _ xw37) (fun _ h_ => h_) (congrArg (fun z_ => some (Value.int z_)) (xb_i_hit)) d_Line_dropFirst_29 ?_
    refine lv_bipush (v := 6) hx hb d_Line_dropFirst_32 (by decide) ?_
    refine lv_imul hx hb d_Line_dropFirst_34 ?_
    refine sp_copy (a := 6) (b := 0) (k := (((σ.1 K 1).toNatClampNeg - 1) * 6)) hx hb hK hP (hml.trans hl.1.symm) hown ht xw424 xw426 xw425 xw17 (by omega) hD hS (xb_lit (x := (6 : Int32)) 6 rfl) (xb_lit (x := (0 : Int32)) 0 rfl) (xb_nm (xb_ns hz.1 (xb_lit (x := (1 : Int32)) 1 rfl) (by omega)) (xb_lit (x := (6 : Int32)) 6 rfl)) (by omega) (by omega) (Nat.le_of_ble_eq_true rfl) (Nat.le_of_ble_eq_true rfl) d_Line_dropFirst_35 (fun H locs hP hS => ?_)
    exact W.vret hx hb hr (fun t ht_ hW => ⟨⟨(xb_cp (xb_si σ K 1 ((σ.1 K 1) - (1 : Int32))) (K + 2) 6 0 (((σ.1 K 1).toNatClampNeg - 1) * 6)), rfl, ((if_neg c1)).symm, by rw [sp_B, ht_]; exact hP⟩, hS.F ht_⟩) hS.2.2 d_Line_dropFirst_38
theorem ok_p_Line_drop {σ : xb_St} (K : Nat) (iK : sp_isLine K) (ok : sp_ok σ) : sp_ok (p_Line_drop K σ) := by
  obtain ⟨n0, hn0, en0⟩ := ok.1 K iK
  unfold p_Line_drop
  split
  · exact ok
  · rename_i h
    have h : ¬ n0 ≤ 0 := fun q => h ((xb_leN en0 (xb_lit (x := (0 : Int32)) 0 rfl) (by omega) (by decide)).mpr q)
    exact ok_cp (ok_line ok iK ⟨n0 - 1, by omega, xb_ns en0 (xb_lit (x := (1 : Int32)) 1 rfl) (by omega)⟩)
abbrev b_Line_doubleFirst : ByteArray := prog_8_method_5_code
def y_Line_doubleFirst : MethodName := ⟨"SecurePair$Line", "doubleFirst", "()V"⟩
abbrev w_Line_doubleFirst : List Cond := .code y_Line_doubleFirst b_Line_doubleFirst 1 none :: xa
theorem d_Line_doubleFirst_0 : decode b_Line_doubleFirst 0 = .ok (.aload_n 0, 1) := by decide +kernel
theorem d_Line_doubleFirst_1 : decode b_Line_doubleFirst 1 = .ok (.getfield 15, 3) := by decide +kernel
theorem d_Line_doubleFirst_4 : decode b_Line_doubleFirst 4 = .ok (.bipush 16, 2) := by decide +kernel
theorem d_Line_doubleFirst_6 : decode b_Line_doubleFirst 6 = .ok (.if_icmp .ge 34, 3) := by decide +kernel
theorem d_Line_doubleFirst_9 : decode b_Line_doubleFirst 9 = .ok (.aload_n 0, 1) := by decide +kernel
theorem d_Line_doubleFirst_10 : decode b_Line_doubleFirst 10 = .ok (.getfield 9, 3) := by decide +kernel
theorem d_Line_doubleFirst_13 : decode b_Line_doubleFirst 13 = .ok (.iconst 0, 1) := by decide +kernel
theorem d_Line_doubleFirst_14 : decode b_Line_doubleFirst 14 = .ok (.aload_n 0, 1) := by decide +kernel
theorem d_Line_doubleFirst_15 : decode b_Line_doubleFirst 15 = .ok (.getfield 9, 3) := by decide +kernel
theorem d_Line_doubleFirst_18 : decode b_Line_doubleFirst 18 = .ok (.bipush 6, 2) := by decide +kernel
theorem d_Line_doubleFirst_20 : decode b_Line_doubleFirst 20 = .ok (.aload_n 0, 1) := by decide +kernel
theorem d_Line_doubleFirst_21 : decode b_Line_doubleFirst 21 = .ok (.getfield 15, 3) := by decide +kernel
theorem d_Line_doubleFirst_24 : decode b_Line_doubleFirst 24 = .ok (.bipush 6, 2) := by decide +kernel
theorem d_Line_doubleFirst_26 : decode b_Line_doubleFirst 26 = .ok (.imul, 1) := by decide +kernel
theorem d_Line_doubleFirst_27 : decode b_Line_doubleFirst 27 = .ok (.invokestatic 43, 3) := by decide +kernel
theorem d_Line_doubleFirst_30 : decode b_Line_doubleFirst 30 = .ok (.aload_n 0, 1) := by decide +kernel
theorem d_Line_doubleFirst_31 : decode b_Line_doubleFirst 31 = .ok (.dup, 1) := by decide +kernel
theorem d_Line_doubleFirst_32 : decode b_Line_doubleFirst 32 = .ok (.getfield 15, 3) := by decide +kernel
theorem d_Line_doubleFirst_35 : decode b_Line_doubleFirst 35 = .ok (.iconst 1, 1) := by decide +kernel
theorem d_Line_doubleFirst_36 : decode b_Line_doubleFirst 36 = .ok (.iadd, 1) := by decide +kernel
theorem d_Line_doubleFirst_37 : decode b_Line_doubleFirst 37 = .ok (.putfield 15, 3) := by decide +kernel
theorem d_Line_doubleFirst_40 : decode b_Line_doubleFirst 40 = .ok (.return_, 1) := by decide +kernel
def p_Line_double (K : Nat) (σ : xb_St) : xb_St := (if (16 : Int32) ≤ (σ.1 K 1) then σ else (xb_si (xb_cp σ (K + 2) 0 6 ((σ.1 K 1).toNatClampNeg * 6)) K 1 ((σ.1 K 1) + (1 : Int32))))
set_option maxHeartbeats 4000000 in
set_option maxRecDepth 100000 in
theorem c_Line_doubleFirst (l : Launch) (D : va_G) (α : Nat → Nat) (κ : Nat → ClassId) (hα : xb_inj α 35) (σ : xb_St) (K : Nat) (iK : sp_isLine K) (ok : sp_ok σ) : Met l y_Line_doubleFirst w_Line_doubleFirst ({ frames := 1, cells := 0, slots := 0, locals := 18 }) (va_Pc ([.ref (α K)]) (sp_Pre D α κ σ)) (va_Qv (fun u : xb_St => u = p_Line_double K σ) (sp_B D α κ) (xb_A α 35)) 0 0 (xb_A α 35) := by
  refine Met.ofW (cc := b_Line_doubleFirst) (maxL := 1) (ret := none) (by decide) rfl ?_
  intro p e s m args below meth c s₁ B_ hml hv
  obtain ⟨rfl, hP, hK, hN⟩ := hv
  have hx := B_.exec
  have hb := B_.bytes
  have hr := B_.returns
  have hts := atoms_spec (ws := w_Line_doubleFirst) B_.pre
  have ht : ∀ w ∈ xa, w.before _ s = true := fun w h => hts w (List.mem_cons_of_mem _ h)
  have hown : s.vm.findClass "SecurePair$Line" = some m.cls := findClass_of_methodNamed B_.named
  have hlocks := B_.notSynchronized
  have hD := sp_D hα κ
  have hS : va_S (xb_A α 35) s.heap s.heap [] := va_S.rf
  have hl := lv_entry ([.ref (α K)]) (n := 1) (Nat.le_of_ble_eq_true rfl)
  rw [lg_entry_eq]
  generalize (lg_sl ([.ref (α K)]) ++ List.replicate (1 - (lg_sl ([.ref (α K)])).length) Slot.unset).toArray = ls at hl ⊢
  have hl : lv_has ls 1 [(0, .ref (α K))] := hl
  obtain ⟨n0, hn0, en0⟩ := ok.1 K iK
  have hz := xb_nb en0 (by omega)
  have hz0 : (σ.1 K 1).toNatClampNeg ≤ 16 := by rw [hz.2]; exact hn0
  refine lv_aload_n hx hb d_Line_doubleFirst_0 rfl (lv_at hl 0 rfl) ?_
  refine sp_g_Line (v := .int (σ.1 K 1)) hx hb ht hown hK hP iK 1 (by decide) (ht _ xw37) (fun _ h_ => h_) rfl d_Line_doubleFirst_1 ?_
  refine lv_bipush (v := 16) hx hb d_Line_doubleFirst_4 (by decide) ?_
  refine lv_icmp_ge (tgt := 40) hx hb d_Line_doubleFirst_6 (by decide) (fun c1 => ?_) (fun c1 => ?_)
  · skip
    have nc1 := (xb_leN (xb_lit (x := (16 : Int32)) 16 rfl) hz.1 (by omega) (by omega)).mp c1
    exact W.vret hx hb hr (fun t ht_ hW => ⟨⟨σ, rfl, ((if_pos c1)).symm, by rw [sp_B, ht_]; exact hP⟩, hS.F ht_⟩) hS.2.2 d_Line_doubleFirst_40
  · skip
    have nc1 := mt (xb_leN (xb_lit (x := (16 : Int32)) 16 rfl) hz.1 (by omega) (by omega)).mpr c1
    refine lv_aload_n hx hb d_Line_doubleFirst_9 rfl (lv_at hl 0 rfl) ?_
    refine sp_g_Line (v := .ref (α (K + 2))) hx hb ht hown hK hP iK 0 (by decide) (ht _ xw35) (fun _ h_ => h_) rfl d_Line_doubleFirst_10 ?_
    refine lv_iconst (v := 0) hx hb d_Line_doubleFirst_13 (by decide) ?_
    refine lv_aload_n hx hb d_Line_doubleFirst_14 rfl (lv_at hl 0 rfl) ?_
    refine sp_g_Line (v := .ref (α (K + 2))) hx hb ht hown hK hP iK 0 (by decide) (ht _ xw35) (fun _ h_ => h_) rfl d_Line_doubleFirst_15 ?_
    refine lv_bipush (v := 6) hx hb d_Line_doubleFirst_18 (by decide) ?_
    refine lv_aload_n hx hb d_Line_doubleFirst_20 rfl (lv_at hl 0 rfl) ?_
    refine sp_g_Line (v := .int (σ.1 K 1)) hx hb ht hown hK hP iK 1 (by decide) (ht _ xw37) (fun _ h_ => h_) rfl d_Line_doubleFirst_21 ?_
    refine lv_bipush (v := 6) hx hb d_Line_doubleFirst_24 (by decide) ?_
    refine lv_imul hx hb d_Line_doubleFirst_26 ?_
    refine sp_copy (a := 0) (b := 6) (k := ((σ.1 K 1).toNatClampNeg * 6)) hx hb hK hP (hml.trans hl.1.symm) hown ht xw424 xw426 xw425 xw17 (by omega) hD hS (xb_lit (x := (0 : Int32)) 0 rfl) (xb_lit (x := (6 : Int32)) 6 rfl) (xb_nm hz.1 (xb_lit (x := (6 : Int32)) 6 rfl)) (by omega) (by omega) (Nat.le_of_ble_eq_true rfl) (Nat.le_of_ble_eq_true rfl) d_Line_doubleFirst_27 (fun H locs hP hS => ?_)
    refine lv_aload_n hx hb d_Line_doubleFirst_30 rfl (lv_at hl 0 rfl) ?_
    refine lv_dup hx hb d_Line_doubleFirst_31 rfl ?_
    refine sp_g_Line (v := .int (σ.1 K 1)) hx hb ht hown hK hP iK 1 (by decide) (ht _ xw37) (fun _ h_ => h_) (congrArg (fun z_ => some (Value.int z_)) (xb_i_c)) d_Line_doubleFirst_32 ?_
    refine lv_iconst (v := 1) hx hb d_Line_doubleFirst_35 (by decide) ?_
    refine lv_iadd hx hb d_Line_doubleFirst_36 ?_
    refine sp_pi_Line (x := ((σ.1 K 1) + (1 : Int32))) (ty := .int) hx hb ht hown hK hP iK 1 (by decide) (ht _ xw37) (fun _ h_ => h_) hD hS rfl (by decide +kernel) rfl rfl hf_Line_1 d_Line_doubleFirst_37 (fun H locs hP hS => ?_)
    exact W.vret hx hb hr (fun t ht_ hW => ⟨⟨(xb_si (xb_cp σ (K + 2) 0 6 ((σ.1 K 1).toNatClampNeg * 6)) K 1 ((σ.1 K 1) + (1 : Int32))), rfl, ((if_neg c1)).symm, by rw [sp_B, ht_]; exact hP⟩, hS.F ht_⟩) hS.2.2 d_Line_doubleFirst_40
theorem ok_p_Line_double {σ : xb_St} (K : Nat) (iK : sp_isLine K) (ok : sp_ok σ) : sp_ok (p_Line_double K σ) := by
  obtain ⟨n0, hn0, en0⟩ := ok.1 K iK
  unfold p_Line_double
  split
  · exact ok
  · rename_i h
    have h : ¬ 16 ≤ n0 := fun q => h ((xb_leN (xb_lit (x := (16 : Int32)) 16 rfl) en0 (by decide) (by omega)).mpr q)
    exact ok_line (ok_cp ok) iK ⟨n0 + 1, by omega, by rw [en0]; exact nI_1 n0⟩
abbrev b_Line_takeFirst : ByteArray := prog_8_method_3_code
def y_Line_takeFirst : MethodName := ⟨"SecurePair$Line", "takeFirst", "(LSecurePair$Packet;)V"⟩
abbrev w_Line_takeFirst : List Cond := .code y_Line_takeFirst b_Line_takeFirst 2 none :: xa
theorem d_Line_takeFirst_0 : decode b_Line_takeFirst 0 = .ok (.aload_n 1, 1) := by decide +kernel
theorem d_Line_takeFirst_1 : decode b_Line_takeFirst 1 = .ok (.aload_n 0, 1) := by decide +kernel
theorem d_Line_takeFirst_2 : decode b_Line_takeFirst 2 = .ok (.getfield 9, 3) := by decide +kernel
theorem d_Line_takeFirst_5 : decode b_Line_takeFirst 5 = .ok (.iconst 0, 1) := by decide +kernel
theorem d_Line_takeFirst_6 : decode b_Line_takeFirst 6 = .ok (.laload, 1) := by decide +kernel
theorem d_Line_takeFirst_7 : decode b_Line_takeFirst 7 = .ok (.l2i, 1) := by decide +kernel
theorem d_Line_takeFirst_8 : decode b_Line_takeFirst 8 = .ok (.putfield 19, 3) := by decide +kernel
theorem d_Line_takeFirst_11 : decode b_Line_takeFirst 11 = .ok (.aload_n 1, 1) := by decide +kernel
theorem d_Line_takeFirst_12 : decode b_Line_takeFirst 12 = .ok (.aload_n 0, 1) := by decide +kernel
theorem d_Line_takeFirst_13 : decode b_Line_takeFirst 13 = .ok (.getfield 9, 3) := by decide +kernel
theorem d_Line_takeFirst_16 : decode b_Line_takeFirst 16 = .ok (.iconst 1, 1) := by decide +kernel
theorem d_Line_takeFirst_17 : decode b_Line_takeFirst 17 = .ok (.laload, 1) := by decide +kernel
theorem d_Line_takeFirst_18 : decode b_Line_takeFirst 18 = .ok (.putfield 24, 3) := by decide +kernel
theorem d_Line_takeFirst_21 : decode b_Line_takeFirst 21 = .ok (.aload_n 1, 1) := by decide +kernel
theorem d_Line_takeFirst_22 : decode b_Line_takeFirst 22 = .ok (.aload_n 0, 1) := by decide +kernel
theorem d_Line_takeFirst_23 : decode b_Line_takeFirst 23 = .ok (.getfield 9, 3) := by decide +kernel
theorem d_Line_takeFirst_26 : decode b_Line_takeFirst 26 = .ok (.iconst 2, 1) := by decide +kernel
theorem d_Line_takeFirst_27 : decode b_Line_takeFirst 27 = .ok (.laload, 1) := by decide +kernel
theorem d_Line_takeFirst_28 : decode b_Line_takeFirst 28 = .ok (.putfield 28, 3) := by decide +kernel
theorem d_Line_takeFirst_31 : decode b_Line_takeFirst 31 = .ok (.aload_n 1, 1) := by decide +kernel
theorem d_Line_takeFirst_32 : decode b_Line_takeFirst 32 = .ok (.aload_n 0, 1) := by decide +kernel
theorem d_Line_takeFirst_33 : decode b_Line_takeFirst 33 = .ok (.getfield 9, 3) := by decide +kernel
theorem d_Line_takeFirst_36 : decode b_Line_takeFirst 36 = .ok (.iconst 3, 1) := by decide +kernel
theorem d_Line_takeFirst_37 : decode b_Line_takeFirst 37 = .ok (.laload, 1) := by decide +kernel
theorem d_Line_takeFirst_38 : decode b_Line_takeFirst 38 = .ok (.putfield 31, 3) := by decide +kernel
theorem d_Line_takeFirst_41 : decode b_Line_takeFirst 41 = .ok (.aload_n 1, 1) := by decide +kernel
theorem d_Line_takeFirst_42 : decode b_Line_takeFirst 42 = .ok (.aload_n 0, 1) := by decide +kernel
theorem d_Line_takeFirst_43 : decode b_Line_takeFirst 43 = .ok (.getfield 9, 3) := by decide +kernel
theorem d_Line_takeFirst_46 : decode b_Line_takeFirst 46 = .ok (.iconst 4, 1) := by decide +kernel
theorem d_Line_takeFirst_47 : decode b_Line_takeFirst 47 = .ok (.laload, 1) := by decide +kernel
theorem d_Line_takeFirst_48 : decode b_Line_takeFirst 48 = .ok (.putfield 34, 3) := by decide +kernel
theorem d_Line_takeFirst_51 : decode b_Line_takeFirst 51 = .ok (.aload_n 1, 1) := by decide +kernel
theorem d_Line_takeFirst_52 : decode b_Line_takeFirst 52 = .ok (.aload_n 0, 1) := by decide +kernel
theorem d_Line_takeFirst_53 : decode b_Line_takeFirst 53 = .ok (.getfield 9, 3) := by decide +kernel
theorem d_Line_takeFirst_56 : decode b_Line_takeFirst 56 = .ok (.iconst 5, 1) := by decide +kernel
theorem d_Line_takeFirst_57 : decode b_Line_takeFirst 57 = .ok (.laload, 1) := by decide +kernel
theorem d_Line_takeFirst_58 : decode b_Line_takeFirst 58 = .ok (.putfield 37, 3) := by decide +kernel
theorem d_Line_takeFirst_61 : decode b_Line_takeFirst 61 = .ok (.aload_n 0, 1) := by decide +kernel
theorem d_Line_takeFirst_62 : decode b_Line_takeFirst 62 = .ok (.invokevirtual 40, 3) := by decide +kernel
theorem d_Line_takeFirst_65 : decode b_Line_takeFirst 65 = .ok (.return_, 1) := by decide +kernel
theorem xw2 : (Cond.initialized "SecurePair$Line") ∈ xa := xa_t 2 (by decide +kernel) (by decide +kernel)
theorem xw421 : (Cond.instanceMethod ({ cls := "SecurePair$Line", name := "dropFirst", desc := "()V" } : MethodName)) ∈ xa := xa_t 421 (by decide +kernel) (by decide +kernel)
theorem xw422 : (Cond.selects "SecurePair$Line" ({ cls := "SecurePair$Line", name := "dropFirst", desc := "()V" } : MethodName) ({ cls := "SecurePair$Line", name := "dropFirst", desc := "()V" } : MethodName)) ∈ xa := xa_t 422 (by decide +kernel) (by decide +kernel)
theorem xw423 : (Cond.code ({ cls := "SecurePair$Line", name := "dropFirst", desc := "()V" } : MethodName) prog_8_method_4_code (1 : Nat) (Option.none : Option ClassFile.FieldType)) ∈ xa := xa_t 423 (by decide +kernel) (by decide +kernel)
theorem xw637 : (Cond.methodLink "SecurePair$Line" (40 : Nat) ({ cls := "SecurePair$Line", name := "dropFirst", desc := "()V" } : MethodName)) ∈ xa := xa_t 637 (by decide +kernel) (by decide +kernel)
def p_Line_take (K : Nat) (P : Nat) (σ : xb_St) : xb_St := (p_Line_drop K (xb_sl (xb_sl (xb_sl (xb_sl (xb_sl (xb_si σ P 0 ((σ.2 (K + 2) 0).toInt32)) P 1 (σ.2 (K + 2) 1)) P 2 (σ.2 (K + 2) 2)) P 3 (σ.2 (K + 2) 3)) P 4 (σ.2 (K + 2) 4)) P 5 (σ.2 (K + 2) 5)))
set_option maxHeartbeats 4000000 in
set_option maxRecDepth 100000 in
theorem c_Line_takeFirst (l : Launch) (D : va_G) (α : Nat → Nat) (κ : Nat → ClassId) (hα : xb_inj α 35) (σ : xb_St) (K : Nat) (P : Nat) (iK : sp_isLine K) (iP : sp_isPacket P) (ok : sp_ok σ) : Met l y_Line_takeFirst w_Line_takeFirst ({ frames := 2, cells := 0, slots := 0, locals := 38 }) (va_Pc ([.ref (α K), .ref (α P)]) (sp_Pre D α κ σ)) (va_Qv (fun u : xb_St => u = p_Line_take K P σ) (sp_B D α κ) (xb_A α 35)) 0 0 (xb_A α 35) := by
  refine Met.ofW (cc := b_Line_takeFirst) (maxL := 2) (ret := none) (by decide) rfl ?_
  intro p e s m args below meth c s₁ B_ hml hv
  obtain ⟨rfl, hP, hK, hN⟩ := hv
  have hx := B_.exec
  have hb := B_.bytes
  have hr := B_.returns
  have hts := atoms_spec (ws := w_Line_takeFirst) B_.pre
  have ht : ∀ w ∈ xa, w.before _ s = true := fun w h => hts w (List.mem_cons_of_mem _ h)
  have hown : s.vm.findClass "SecurePair$Line" = some m.cls := findClass_of_methodNamed B_.named
  have hlocks := B_.notSynchronized
  have hD := sp_D hα κ
  have hS : va_S (xb_A α 35) s.heap s.heap [] := va_S.rf
  have hl := lv_entry ([.ref (α K), .ref (α P)]) (n := 2) (Nat.le_of_ble_eq_true rfl)
  rw [lg_entry_eq]
  generalize (lg_sl ([.ref (α K), .ref (α P)]) ++ List.replicate (2 - (lg_sl ([.ref (α K), .ref (α P)])).length) Slot.unset).toArray = ls at hl ⊢
  have hl : lv_has ls 2 [(0, .ref (α K)), (1, .ref (α P))] := hl
  refine lv_aload_n hx hb d_Line_takeFirst_0 rfl (lv_at hl 1 rfl) ?_
  refine lv_aload_n hx hb d_Line_takeFirst_1 rfl (lv_at hl 0 rfl) ?_
  refine sp_g_Line (v := .ref (α (K + 2))) hx hb ht hown hK hP iK 0 (by decide) (ht _ xw35) (fun _ h_ => h_) rfl d_Line_takeFirst_2 ?_
  refine lv_iconst (v := 0) hx hb d_Line_takeFirst_5 (by decide) ?_
  refine sp_ga_rows (n := 0) (v := (σ.2 (K + 2) 0)) hx hb hK hP (by omega) (xb_in (xb_lit (x := (0 : Int32)) 0 rfl) (by omega) (by decide)) (xb_cl (xb_lit (x := (0 : Int32)) 0 rfl) (by omega)) rfl d_Line_takeFirst_6 ?_
  refine lv_l2i (v := (σ.2 (K + 2) 0).toInt32) hx hb d_Line_takeFirst_7 (by rfl) ?_
  refine sp_pi_Packet (x := (σ.2 (K + 2) 0).toInt32) (ty := .int) hx hb ht hown hK hP iP 0 (by decide) (ht _ xw60) (fun _ h_ => h_) hD hS rfl (by decide +kernel) rfl rfl hf_Packet_0 d_Line_takeFirst_8 (fun H locs hP hS => ?_)
  refine lv_aload_n hx hb d_Line_takeFirst_11 rfl (lv_at hl 1 rfl) ?_
  refine lv_aload_n hx hb d_Line_takeFirst_12 rfl (lv_at hl 0 rfl) ?_
  refine sp_g_Line (v := .ref (α (K + 2))) hx hb ht hown hK hP iK 0 (by decide) (ht _ xw35) (fun _ h_ => h_) rfl d_Line_takeFirst_13 ?_
  refine lv_iconst (v := 1) hx hb d_Line_takeFirst_16 (by decide) ?_
  refine sp_ga_rows (n := 1) (v := (σ.2 (K + 2) 1)) hx hb hK hP (by omega) (xb_in (xb_lit (x := (1 : Int32)) 1 rfl) (by omega) (by decide)) (xb_cl (xb_lit (x := (1 : Int32)) 1 rfl) (by omega)) xb_l_i d_Line_takeFirst_17 ?_
  refine sp_pl_Packet (x := (σ.2 (K + 2) 1)) (ty := .long) hx hb ht hown hK hP iP 1 (by decide) (ht _ xw63) (fun _ h_ => h_) hD hS rfl (by decide +kernel) rfl rfl hf_Packet_1 d_Line_takeFirst_18 (fun H locs hP hS => ?_)
  refine lv_aload_n hx hb d_Line_takeFirst_21 rfl (lv_at hl 1 rfl) ?_
  refine lv_aload_n hx hb d_Line_takeFirst_22 rfl (lv_at hl 0 rfl) ?_
  refine sp_g_Line (v := .ref (α (K + 2))) hx hb ht hown hK hP iK 0 (by decide) (ht _ xw35) (fun _ h_ => h_) rfl d_Line_takeFirst_23 ?_
  refine lv_iconst (v := 2) hx hb d_Line_takeFirst_26 (by decide) ?_
  refine sp_ga_rows (n := 2) (v := (σ.2 (K + 2) 2)) hx hb hK hP (by omega) (xb_in (xb_lit (x := (2 : Int32)) 2 rfl) (by omega) (by decide)) (xb_cl (xb_lit (x := (2 : Int32)) 2 rfl) (by omega)) (((xb_l_nk (by omega))).trans (xb_l_i)) d_Line_takeFirst_27 ?_
  refine sp_pl_Packet (x := (σ.2 (K + 2) 2)) (ty := .long) hx hb ht hown hK hP iP 2 (by decide) (ht _ xw68) (fun _ h_ => h_) hD hS rfl (by decide +kernel) rfl rfl hf_Packet_2 d_Line_takeFirst_28 (fun H locs hP hS => ?_)
  refine lv_aload_n hx hb d_Line_takeFirst_31 rfl (lv_at hl 1 rfl) ?_
  refine lv_aload_n hx hb d_Line_takeFirst_32 rfl (lv_at hl 0 rfl) ?_
  refine sp_g_Line (v := .ref (α (K + 2))) hx hb ht hown hK hP iK 0 (by decide) (ht _ xw35) (fun _ h_ => h_) rfl d_Line_takeFirst_33 ?_
  refine lv_iconst (v := 3) hx hb d_Line_takeFirst_36 (by decide) ?_
  refine sp_ga_rows (n := 3) (v := (σ.2 (K + 2) 3)) hx hb hK hP (by omega) (xb_in (xb_lit (x := (3 : Int32)) 3 rfl) (by omega) (by decide)) (xb_cl (xb_lit (x := (3 : Int32)) 3 rfl) (by omega)) (((xb_l_nk (by omega))).trans (((xb_l_nk (by omega))).trans (xb_l_i))) d_Line_takeFirst_37 ?_
  refine sp_pl_Packet (x := (σ.2 (K + 2) 3)) (ty := .long) hx hb ht hown hK hP iP 3 (by decide) (ht _ xw72) (fun _ h_ => h_) hD hS rfl (by decide +kernel) rfl rfl hf_Packet_3 d_Line_takeFirst_38 (fun H locs hP hS => ?_)
  refine lv_aload_n hx hb d_Line_takeFirst_41 rfl (lv_at hl 1 rfl) ?_
  refine lv_aload_n hx hb d_Line_takeFirst_42 rfl (lv_at hl 0 rfl) ?_
  refine sp_g_Line (v := .ref (α (K + 2))) hx hb ht hown hK hP iK 0 (by decide) (ht _ xw35) (fun _ h_ => h_) rfl d_Line_takeFirst_43 ?_
  refine lv_iconst (v := 4) hx hb d_Line_takeFirst_46 (by decide) ?_
  refine sp_ga_rows (n := 4) (v := (σ.2 (K + 2) 4)) hx hb hK hP (by omega) (xb_in (xb_lit (x := (4 : Int32)) 4 rfl) (by omega) (by decide)) (xb_cl (xb_lit (x := (4 : Int32)) 4 rfl) (by omega)) (((xb_l_nk (by omega))).trans (((xb_l_nk (by omega))).trans (((xb_l_nk (by omega))).trans (xb_l_i)))) d_Line_takeFirst_47 ?_
  refine sp_pl_Packet (x := (σ.2 (K + 2) 4)) (ty := .long) hx hb ht hown hK hP iP 4 (by decide) (ht _ xw76) (fun _ h_ => h_) hD hS rfl (by decide +kernel) rfl rfl hf_Packet_4 d_Line_takeFirst_48 (fun H locs hP hS => ?_)
  refine lv_aload_n hx hb d_Line_takeFirst_51 rfl (lv_at hl 1 rfl) ?_
  refine lv_aload_n hx hb d_Line_takeFirst_52 rfl (lv_at hl 0 rfl) ?_
  refine sp_g_Line (v := .ref (α (K + 2))) hx hb ht hown hK hP iK 0 (by decide) (ht _ xw35) (fun _ h_ => h_) rfl d_Line_takeFirst_53 ?_
  refine lv_iconst (v := 5) hx hb d_Line_takeFirst_56 (by decide) ?_
  refine sp_ga_rows (n := 5) (v := (σ.2 (K + 2) 5)) hx hb hK hP (by omega) (xb_in (xb_lit (x := (5 : Int32)) 5 rfl) (by omega) (by decide)) (xb_cl (xb_lit (x := (5 : Int32)) 5 rfl) (by omega)) (((xb_l_nk (by omega))).trans (((xb_l_nk (by omega))).trans (((xb_l_nk (by omega))).trans (((xb_l_nk (by omega))).trans (xb_l_i))))) d_Line_takeFirst_57 ?_
  refine sp_pl_Packet (x := (σ.2 (K + 2) 5)) (ty := .long) hx hb ht hown hK hP iP 5 (by decide) (ht _ xw80) (fun _ h_ => h_) hD hS rfl (by decide +kernel) rfl rfl hf_Packet_5 d_Line_takeFirst_58 (fun H locs hP hS => ?_)
  refine lv_aload_n hx hb d_Line_takeFirst_61 rfl (lv_at hl 0 rfl) ?_
  refine sp_cv (va_runV (As := []) (rest := []) ⟨hx, hb, hml, hown, hts⟩ (c_Line_dropFirst l D α κ hα (xb_sl (xb_sl (xb_sl (xb_sl (xb_sl (xb_si σ P 0 ((σ.2 (K + 2) 0).toInt32)) P 1 (σ.2 (K + 2) 1)) P 2 (σ.2 (K + 2) 2)) P 3 (σ.2 (K + 2) 3)) P 4 (σ.2 (K + 2) 4)) P 5 (σ.2 (K + 2) 5)) K iK (ok_sl (ok_sl (ok_sl (ok_sl (ok_sl (ok_si ok (by omega) (by omega)))))))) (cwV 0 hts (xa_V xw637 xw421 xw422 xw2 xw423) rfl rfl rfl (by decide +kernel) ⟨Nat.le_of_ble_eq_true rfl, Nat.le_of_ble_eq_true rfl⟩) ⟨sp_blind, va_recv hK hP rfl (sp_at_Line iK), sp_pre hP hK hN _⟩ rfl rfl hl.1 rfl (lv_room (Nat.le_of_ble_eq_true rfl)) d_Line_takeFirst_62 ⟨Nat.le_of_ble_eq_true rfl, Nat.le_of_ble_eq_true rfl⟩) hS (fun _ h_ => h_) (fun H locs hP hS => ?_)
  obtain ⟨τ1, hτ1⟩ : ∃ t_, t_ = (p_Line_drop K (xb_sl (xb_sl (xb_sl (xb_sl (xb_sl (xb_si σ P 0 ((σ.2 (K + 2) 0).toInt32)) P 1 (σ.2 (K + 2) 1)) P 2 (σ.2 (K + 2) 2)) P 3 (σ.2 (K + 2) 3)) P 4 (σ.2 (K + 2) 4)) P 5 (σ.2 (K + 2) 5))) := ⟨_, rfl⟩
  rw [← hτ1] at hP
  have okτ1 : sp_ok τ1 := by rw [hτ1]; exact (ok_p_Line_drop K iK (ok_sl (ok_sl (ok_sl (ok_sl (ok_sl (ok_si ok (by omega) (by omega))))))))
  exact W.vret hx hb hr (fun t ht_ hW => ⟨⟨τ1, rfl, (by subst hτ1; exact rfl), by rw [sp_B, ht_]; exact hP⟩, hS.F ht_⟩) hS.2.2 d_Line_takeFirst_65
theorem ok_p_Line_take {σ : xb_St} (K : Nat) (P : Nat) (iK : sp_isLine K) (iP : sp_isPacket P) (ok : sp_ok σ) : sp_ok (p_Line_take K P σ) := by
  unfold p_Line_take
  exact (ok_p_Line_drop K iK (ok_sl (ok_sl (ok_sl (ok_sl (ok_sl (ok_si ok (by omega) (by omega))))))))
abbrev b_Line_putInFront : ByteArray := prog_8_method_6_code
def y_Line_putInFront : MethodName := ⟨"SecurePair$Line", "putInFront", "(IJJ)V"⟩
abbrev w_Line_putInFront : List Cond := .code y_Line_putInFront b_Line_putInFront 6 none :: xa
theorem d_Line_putInFront_0 : decode b_Line_putInFront 0 = .ok (.aload_n 0, 1) := by decide +kernel
theorem d_Line_putInFront_1 : decode b_Line_putInFront 1 = .ok (.invokevirtual 49, 3) := by decide +kernel
theorem d_Line_putInFront_4 : decode b_Line_putInFront 4 = .ok (.aload_n 0, 1) := by decide +kernel
theorem d_Line_putInFront_5 : decode b_Line_putInFront 5 = .ok (.getfield 9, 3) := by decide +kernel
theorem d_Line_putInFront_8 : decode b_Line_putInFront 8 = .ok (.iconst 0, 1) := by decide +kernel
theorem d_Line_putInFront_9 : decode b_Line_putInFront 9 = .ok (.iload_n 1, 1) := by decide +kernel
theorem d_Line_putInFront_10 : decode b_Line_putInFront 10 = .ok (.i2l, 1) := by decide +kernel
theorem d_Line_putInFront_11 : decode b_Line_putInFront 11 = .ok (.lastore, 1) := by decide +kernel
theorem d_Line_putInFront_12 : decode b_Line_putInFront 12 = .ok (.aload_n 0, 1) := by decide +kernel
theorem d_Line_putInFront_13 : decode b_Line_putInFront 13 = .ok (.getfield 9, 3) := by decide +kernel
theorem d_Line_putInFront_16 : decode b_Line_putInFront 16 = .ok (.iconst 1, 1) := by decide +kernel
theorem d_Line_putInFront_17 : decode b_Line_putInFront 17 = .ok (.lload_n 2, 1) := by decide +kernel
theorem d_Line_putInFront_18 : decode b_Line_putInFront 18 = .ok (.lastore, 1) := by decide +kernel
theorem d_Line_putInFront_19 : decode b_Line_putInFront 19 = .ok (.aload_n 0, 1) := by decide +kernel
theorem d_Line_putInFront_20 : decode b_Line_putInFront 20 = .ok (.getfield 9, 3) := by decide +kernel
theorem d_Line_putInFront_23 : decode b_Line_putInFront 23 = .ok (.iconst 2, 1) := by decide +kernel
theorem d_Line_putInFront_24 : decode b_Line_putInFront 24 = .ok (.lconst 0, 1) := by decide +kernel
theorem d_Line_putInFront_25 : decode b_Line_putInFront 25 = .ok (.lastore, 1) := by decide +kernel
theorem d_Line_putInFront_26 : decode b_Line_putInFront 26 = .ok (.aload_n 0, 1) := by decide +kernel
theorem d_Line_putInFront_27 : decode b_Line_putInFront 27 = .ok (.getfield 9, 3) := by decide +kernel
theorem d_Line_putInFront_30 : decode b_Line_putInFront 30 = .ok (.iconst 3, 1) := by decide +kernel
theorem d_Line_putInFront_31 : decode b_Line_putInFront 31 = .ok (.lconst 0, 1) := by decide +kernel
theorem d_Line_putInFront_32 : decode b_Line_putInFront 32 = .ok (.lastore, 1) := by decide +kernel
theorem d_Line_putInFront_33 : decode b_Line_putInFront 33 = .ok (.aload_n 0, 1) := by decide +kernel
theorem d_Line_putInFront_34 : decode b_Line_putInFront 34 = .ok (.getfield 9, 3) := by decide +kernel
theorem d_Line_putInFront_37 : decode b_Line_putInFront 37 = .ok (.iconst 4, 1) := by decide +kernel
theorem d_Line_putInFront_38 : decode b_Line_putInFront 38 = .ok (.lconst 0, 1) := by decide +kernel
theorem d_Line_putInFront_39 : decode b_Line_putInFront 39 = .ok (.lastore, 1) := by decide +kernel
theorem d_Line_putInFront_40 : decode b_Line_putInFront 40 = .ok (.aload_n 0, 1) := by decide +kernel
theorem d_Line_putInFront_41 : decode b_Line_putInFront 41 = .ok (.getfield 9, 3) := by decide +kernel
theorem d_Line_putInFront_44 : decode b_Line_putInFront 44 = .ok (.iconst 5, 1) := by decide +kernel
theorem d_Line_putInFront_45 : decode b_Line_putInFront 45 = .ok (.lload 4, 2) := by decide +kernel
theorem d_Line_putInFront_47 : decode b_Line_putInFront 47 = .ok (.lastore, 1) := by decide +kernel
theorem d_Line_putInFront_48 : decode b_Line_putInFront 48 = .ok (.return_, 1) := by decide +kernel
theorem xw432 : (Cond.instanceMethod ({ cls := "SecurePair$Line", name := "doubleFirst", desc := "()V" } : MethodName)) ∈ xa := xa_t 432 (by decide +kernel) (by decide +kernel)
theorem xw433 : (Cond.selects "SecurePair$Line" ({ cls := "SecurePair$Line", name := "doubleFirst", desc := "()V" } : MethodName) ({ cls := "SecurePair$Line", name := "doubleFirst", desc := "()V" } : MethodName)) ∈ xa := xa_t 433 (by decide +kernel) (by decide +kernel)
theorem xw434 : (Cond.code ({ cls := "SecurePair$Line", name := "doubleFirst", desc := "()V" } : MethodName) prog_8_method_5_code (1 : Nat) (Option.none : Option ClassFile.FieldType)) ∈ xa := xa_t 434 (by decide +kernel) (by decide +kernel)
theorem xw451 : (Cond.methodLink "SecurePair$Line" (49 : Nat) ({ cls := "SecurePair$Line", name := "doubleFirst", desc := "()V" } : MethodName)) ∈ xa := xa_t 451 (by decide +kernel) (by decide +kernel)
def p_Line_front (K : Nat) (x1 : Int32) (x2 : Int64) (x3 : Int64) (σ : xb_St) : xb_St := (xb_sl (xb_sl (xb_sl (xb_sl (xb_sl (xb_sl (p_Line_double K σ) (K + 2) 0 x1.toInt64) (K + 2) 1 x2) (K + 2) 2 (0 : Int64)) (K + 2) 3 (0 : Int64)) (K + 2) 4 (0 : Int64)) (K + 2) 5 x3)
set_option maxHeartbeats 4000000 in
set_option maxRecDepth 100000 in
theorem c_Line_putInFront (l : Launch) (D : va_G) (α : Nat → Nat) (κ : Nat → ClassId) (hα : xb_inj α 35) (σ : xb_St) (K : Nat) (x1 : Int32) (x2 : Int64) (x3 : Int64) (iK : sp_isLine K) (ok : sp_ok σ) : Met l y_Line_putInFront w_Line_putInFront ({ frames := 2, cells := 0, slots := 0, locals := 38 }) (va_Pc ([.ref (α K), .int x1, .long x2, .long x3]) (sp_Pre D α κ σ)) (va_Qv (fun u : xb_St => u = p_Line_front K x1 x2 x3 σ) (sp_B D α κ) (xb_A α 35)) 0 0 (xb_A α 35) := by
  refine Met.ofW (cc := b_Line_putInFront) (maxL := 6) (ret := none) (by decide) rfl ?_
  intro p e s m args below meth c s₁ B_ hml hv
  obtain ⟨rfl, hP, hK, hN⟩ := hv
  have hx := B_.exec
  have hb := B_.bytes
  have hr := B_.returns
  have hts := atoms_spec (ws := w_Line_putInFront) B_.pre
  have ht : ∀ w ∈ xa, w.before _ s = true := fun w h => hts w (List.mem_cons_of_mem _ h)
  have hown : s.vm.findClass "SecurePair$Line" = some m.cls := findClass_of_methodNamed B_.named
  have hlocks := B_.notSynchronized
  have hD := sp_D hα κ
  have hS : va_S (xb_A α 35) s.heap s.heap [] := va_S.rf
  have hl := lv_entry ([.ref (α K), .int x1, .long x2, .long x3]) (n := 6) (Nat.le_of_ble_eq_true rfl)
  rw [lg_entry_eq]
  generalize (lg_sl ([.ref (α K), .int x1, .long x2, .long x3]) ++ List.replicate (6 - (lg_sl ([.ref (α K), .int x1, .long x2, .long x3])).length) Slot.unset).toArray = ls at hl ⊢
  have hl : lv_has ls 6 [(0, .ref (α K)), (1, .int x1), (2, .long x2), (4, .long x3)] := hl
  refine lv_aload_n hx hb d_Line_putInFront_0 rfl (lv_at hl 0 rfl) ?_
  refine sp_cv (va_runV (As := []) (rest := []) ⟨hx, hb, hml, hown, hts⟩ (c_Line_doubleFirst l D α κ hα σ K iK ok) (cwV 0 hts (xa_V xw451 xw432 xw433 xw2 xw434) rfl rfl rfl (by decide +kernel) ⟨Nat.le_of_ble_eq_true rfl, Nat.le_of_ble_eq_true rfl⟩) ⟨sp_blind, va_recv hK hP rfl (sp_at_Line iK), sp_pre hP hK hN _⟩ rfl rfl hl.1 rfl (lv_room (Nat.le_of_ble_eq_true rfl)) d_Line_putInFront_1 ⟨Nat.le_of_ble_eq_true rfl, Nat.le_of_ble_eq_true rfl⟩) hS (fun _ h_ => h_) (fun H locs hP hS => ?_)
  obtain ⟨τ1, hτ1⟩ : ∃ t_, t_ = (p_Line_double K σ) := ⟨_, rfl⟩
  rw [← hτ1] at hP
  have okτ1 : sp_ok τ1 := by rw [hτ1]; exact (ok_p_Line_double K iK ok)
  refine lv_aload_n hx hb d_Line_putInFront_4 rfl (lv_at hl 0 rfl) ?_
  refine sp_g_Line (v := .ref (α (K + 2))) hx hb ht hown hK hP iK 0 (by decide) (ht _ xw35) (fun _ h_ => h_) rfl d_Line_putInFront_5 ?_
  refine lv_iconst (v := 0) hx hb d_Line_putInFront_8 (by decide) ?_
  refine lv_iload_n hx hb d_Line_putInFront_9 rfl (lv_at hl 1 rfl) ?_
  refine lv_i2l (v := x1.toInt64) hx hb d_Line_putInFront_10 (by rfl) ?_
  refine sp_pa_rows (n := 0) (x := x1.toInt64) hx hb hK hP (by omega) hD hS (xb_in (xb_lit (x := (0 : Int32)) 0 rfl) (by omega) (by decide)) (xb_cl (xb_lit (x := (0 : Int32)) 0 rfl) (by omega)) d_Line_putInFront_11 (fun H locs hP hS => ?_)
  refine lv_aload_n hx hb d_Line_putInFront_12 rfl (lv_at hl 0 rfl) ?_
  refine sp_g_Line (v := .ref (α (K + 2))) hx hb ht hown hK hP iK 0 (by decide) (ht _ xw35) (fun _ h_ => h_) rfl d_Line_putInFront_13 ?_
  refine lv_iconst (v := 1) hx hb d_Line_putInFront_16 (by decide) ?_
  refine lv_lload_n hx hb d_Line_putInFront_17 rfl (lv_at hl 2 rfl) ?_
  refine sp_pa_rows (n := 1) (x := x2) hx hb hK hP (by omega) hD hS (xb_in (xb_lit (x := (1 : Int32)) 1 rfl) (by omega) (by decide)) (xb_cl (xb_lit (x := (1 : Int32)) 1 rfl) (by omega)) d_Line_putInFront_18 (fun H locs hP hS => ?_)
  refine lv_aload_n hx hb d_Line_putInFront_19 rfl (lv_at hl 0 rfl) ?_
  refine sp_g_Line (v := .ref (α (K + 2))) hx hb ht hown hK hP iK 0 (by decide) (ht _ xw35) (fun _ h_ => h_) rfl d_Line_putInFront_20 ?_
  refine lv_iconst (v := 2) hx hb d_Line_putInFront_23 (by decide) ?_
  refine lv_lconst (v := 0) hx hb d_Line_putInFront_24 (by decide) ?_
  refine sp_pa_rows (n := 2) (x := (0 : Int64)) hx hb hK hP (by omega) hD hS (xb_in (xb_lit (x := (2 : Int32)) 2 rfl) (by omega) (by decide)) (xb_cl (xb_lit (x := (2 : Int32)) 2 rfl) (by omega)) d_Line_putInFront_25 (fun H locs hP hS => ?_)
  refine lv_aload_n hx hb d_Line_putInFront_26 rfl (lv_at hl 0 rfl) ?_
  refine sp_g_Line (v := .ref (α (K + 2))) hx hb ht hown hK hP iK 0 (by decide) (ht _ xw35) (fun _ h_ => h_) rfl d_Line_putInFront_27 ?_
  refine lv_iconst (v := 3) hx hb d_Line_putInFront_30 (by decide) ?_
  refine lv_lconst (v := 0) hx hb d_Line_putInFront_31 (by decide) ?_
  refine sp_pa_rows (n := 3) (x := (0 : Int64)) hx hb hK hP (by omega) hD hS (xb_in (xb_lit (x := (3 : Int32)) 3 rfl) (by omega) (by decide)) (xb_cl (xb_lit (x := (3 : Int32)) 3 rfl) (by omega)) d_Line_putInFront_32 (fun H locs hP hS => ?_)
  refine lv_aload_n hx hb d_Line_putInFront_33 rfl (lv_at hl 0 rfl) ?_
  refine sp_g_Line (v := .ref (α (K + 2))) hx hb ht hown hK hP iK 0 (by decide) (ht _ xw35) (fun _ h_ => h_) rfl d_Line_putInFront_34 ?_
  refine lv_iconst (v := 4) hx hb d_Line_putInFront_37 (by decide) ?_
  refine lv_lconst (v := 0) hx hb d_Line_putInFront_38 (by decide) ?_
  refine sp_pa_rows (n := 4) (x := (0 : Int64)) hx hb hK hP (by omega) hD hS (xb_in (xb_lit (x := (4 : Int32)) 4 rfl) (by omega) (by decide)) (xb_cl (xb_lit (x := (4 : Int32)) 4 rfl) (by omega)) d_Line_putInFront_39 (fun H locs hP hS => ?_)
  refine lv_aload_n hx hb d_Line_putInFront_40 rfl (lv_at hl 0 rfl) ?_
  refine sp_g_Line (v := .ref (α (K + 2))) hx hb ht hown hK hP iK 0 (by decide) (ht _ xw35) (fun _ h_ => h_) rfl d_Line_putInFront_41 ?_
  refine lv_iconst (v := 5) hx hb d_Line_putInFront_44 (by decide) ?_
  refine lv_lload hx hb d_Line_putInFront_45 (lv_at hl 3 rfl) ?_
  refine sp_pa_rows (n := 5) (x := x3) hx hb hK hP (by omega) hD hS (xb_in (xb_lit (x := (5 : Int32)) 5 rfl) (by omega) (by decide)) (xb_cl (xb_lit (x := (5 : Int32)) 5 rfl) (by omega)) d_Line_putInFront_47 (fun H locs hP hS => ?_)
  exact W.vret hx hb hr (fun t ht_ hW => ⟨⟨(xb_sl (xb_sl (xb_sl (xb_sl (xb_sl (xb_sl τ1 (K + 2) 0 x1.toInt64) (K + 2) 1 x2) (K + 2) 2 (0 : Int64)) (K + 2) 3 (0 : Int64)) (K + 2) 4 (0 : Int64)) (K + 2) 5 x3), rfl, (by subst hτ1; exact rfl), by rw [sp_B, ht_]; exact hP⟩, hS.F ht_⟩) hS.2.2 d_Line_putInFront_48
theorem ok_p_Line_front {σ : xb_St} (K : Nat) (x1 : Int32) (x2 : Int64) (x3 : Int64) (iK : sp_isLine K) (ok : sp_ok σ) : sp_ok (p_Line_front K x1 x2 x3 σ) := by
  unfold p_Line_front
  exact (ok_sl (ok_sl (ok_sl (ok_sl (ok_sl (ok_sl (ok_p_Line_double K iK ok)))))))
abbrev b_Line_exchangeFirstTwo : ByteArray := prog_8_method_7_code
def y_Line_exchangeFirstTwo : MethodName := ⟨"SecurePair$Line", "exchangeFirstTwo", "()V"⟩
abbrev w_Line_exchangeFirstTwo : List Cond := .code y_Line_exchangeFirstTwo b_Line_exchangeFirstTwo 4 none :: xa
theorem d_Line_exchangeFirstTwo_0 : decode b_Line_exchangeFirstTwo 0 = .ok (.iconst 0, 1) := by decide +kernel
theorem d_Line_exchangeFirstTwo_1 : decode b_Line_exchangeFirstTwo 1 = .ok (.istore_n 1, 1) := by decide +kernel
theorem d_Line_exchangeFirstTwo_2 : decode b_Line_exchangeFirstTwo 2 = .ok (.iload_n 1, 1) := by decide +kernel
theorem d_Line_exchangeFirstTwo_3 : decode b_Line_exchangeFirstTwo 3 = .ok (.bipush 6, 2) := by decide +kernel
theorem d_Line_exchangeFirstTwo_5 : decode b_Line_exchangeFirstTwo 5 = .ok (.if_icmp .ge 41, 3) := by decide +kernel
theorem d_Line_exchangeFirstTwo_8 : decode b_Line_exchangeFirstTwo 8 = .ok (.aload_n 0, 1) := by decide +kernel
theorem d_Line_exchangeFirstTwo_9 : decode b_Line_exchangeFirstTwo 9 = .ok (.getfield 9, 3) := by decide +kernel
theorem d_Line_exchangeFirstTwo_12 : decode b_Line_exchangeFirstTwo 12 = .ok (.iload_n 1, 1) := by decide +kernel
theorem d_Line_exchangeFirstTwo_13 : decode b_Line_exchangeFirstTwo 13 = .ok (.laload, 1) := by decide +kernel
theorem d_Line_exchangeFirstTwo_14 : decode b_Line_exchangeFirstTwo 14 = .ok (.lstore_n 2, 1) := by decide +kernel
theorem d_Line_exchangeFirstTwo_15 : decode b_Line_exchangeFirstTwo 15 = .ok (.aload_n 0, 1) := by decide +kernel
theorem d_Line_exchangeFirstTwo_16 : decode b_Line_exchangeFirstTwo 16 = .ok (.getfield 9, 3) := by decide +kernel
theorem d_Line_exchangeFirstTwo_19 : decode b_Line_exchangeFirstTwo 19 = .ok (.iload_n 1, 1) := by decide +kernel
theorem d_Line_exchangeFirstTwo_20 : decode b_Line_exchangeFirstTwo 20 = .ok (.aload_n 0, 1) := by decide +kernel
theorem d_Line_exchangeFirstTwo_21 : decode b_Line_exchangeFirstTwo 21 = .ok (.getfield 9, 3) := by decide +kernel
theorem d_Line_exchangeFirstTwo_24 : decode b_Line_exchangeFirstTwo 24 = .ok (.iload_n 1, 1) := by decide +kernel
theorem d_Line_exchangeFirstTwo_25 : decode b_Line_exchangeFirstTwo 25 = .ok (.bipush 6, 2) := by decide +kernel
theorem d_Line_exchangeFirstTwo_27 : decode b_Line_exchangeFirstTwo 27 = .ok (.iadd, 1) := by decide +kernel
theorem d_Line_exchangeFirstTwo_28 : decode b_Line_exchangeFirstTwo 28 = .ok (.laload, 1) := by decide +kernel
theorem d_Line_exchangeFirstTwo_29 : decode b_Line_exchangeFirstTwo 29 = .ok (.lastore, 1) := by decide +kernel
theorem d_Line_exchangeFirstTwo_30 : decode b_Line_exchangeFirstTwo 30 = .ok (.aload_n 0, 1) := by decide +kernel
theorem d_Line_exchangeFirstTwo_31 : decode b_Line_exchangeFirstTwo 31 = .ok (.getfield 9, 3) := by decide +kernel
theorem d_Line_exchangeFirstTwo_34 : decode b_Line_exchangeFirstTwo 34 = .ok (.iload_n 1, 1) := by decide +kernel
theorem d_Line_exchangeFirstTwo_35 : decode b_Line_exchangeFirstTwo 35 = .ok (.bipush 6, 2) := by decide +kernel
theorem d_Line_exchangeFirstTwo_37 : decode b_Line_exchangeFirstTwo 37 = .ok (.iadd, 1) := by decide +kernel
theorem d_Line_exchangeFirstTwo_38 : decode b_Line_exchangeFirstTwo 38 = .ok (.lload_n 2, 1) := by decide +kernel
theorem d_Line_exchangeFirstTwo_39 : decode b_Line_exchangeFirstTwo 39 = .ok (.lastore, 1) := by decide +kernel
theorem d_Line_exchangeFirstTwo_40 : decode b_Line_exchangeFirstTwo 40 = .ok (.iinc 1 1, 3) := by decide +kernel
theorem d_Line_exchangeFirstTwo_43 : decode b_Line_exchangeFirstTwo 43 = .ok (.goto (-41), 3) := by decide +kernel
theorem d_Line_exchangeFirstTwo_46 : decode b_Line_exchangeFirstTwo 46 = .ok (.return_, 1) := by decide +kernel
def p_Line_swap (K : Nat) (σ : xb_St) : xb_St := (xb_sl (xb_sl (xb_sl (xb_sl (xb_sl (xb_sl (xb_sl (xb_sl (xb_sl (xb_sl (xb_sl (xb_sl σ (K + 2) 0 (σ.2 (K + 2) 6)) (K + 2) 6 (σ.2 (K + 2) 0)) (K + 2) 1 (σ.2 (K + 2) 7)) (K + 2) 7 (σ.2 (K + 2) 1)) (K + 2) 2 (σ.2 (K + 2) 8)) (K + 2) 8 (σ.2 (K + 2) 2)) (K + 2) 3 (σ.2 (K + 2) 9)) (K + 2) 9 (σ.2 (K + 2) 3)) (K + 2) 4 (σ.2 (K + 2) 10)) (K + 2) 10 (σ.2 (K + 2) 4)) (K + 2) 5 (σ.2 (K + 2) 11)) (K + 2) 11 (σ.2 (K + 2) 5))
set_option maxHeartbeats 4000000 in
set_option maxRecDepth 100000 in
theorem c_Line_exchangeFirstTwo (l : Launch) (D : va_G) (α : Nat → Nat) (κ : Nat → ClassId) (hα : xb_inj α 35) (σ : xb_St) (K : Nat) (iK : sp_isLine K) : Met l y_Line_exchangeFirstTwo w_Line_exchangeFirstTwo ({ frames := 0, cells := 0, slots := 0, locals := 0 }) (va_Pc ([.ref (α K)]) (sp_Pre D α κ σ)) (va_Qv (fun u : xb_St => u = p_Line_swap K σ) (sp_B D α κ) (xb_A α 35)) 0 0 (xb_A α 35) := by
  refine Met.ofW (cc := b_Line_exchangeFirstTwo) (maxL := 4) (ret := none) (by decide) rfl ?_
  intro p e s m args below meth c s₁ B_ hml hv
  obtain ⟨rfl, hP, hK, hN⟩ := hv
  have hx := B_.exec
  have hb := B_.bytes
  have hr := B_.returns
  have hts := atoms_spec (ws := w_Line_exchangeFirstTwo) B_.pre
  have ht : ∀ w ∈ xa, w.before _ s = true := fun w h => hts w (List.mem_cons_of_mem _ h)
  have hown : s.vm.findClass "SecurePair$Line" = some m.cls := findClass_of_methodNamed B_.named
  have hlocks := B_.notSynchronized
  have hD := sp_D hα κ
  have hS : va_S (xb_A α 35) s.heap s.heap [] := va_S.rf
  have hl := lv_entry ([.ref (α K)]) (n := 4) (Nat.le_of_ble_eq_true rfl)
  rw [lg_entry_eq]
  generalize (lg_sl ([.ref (α K)]) ++ List.replicate (4 - (lg_sl ([.ref (α K)])).length) Slot.unset).toArray = ls at hl ⊢
  have hl : lv_has ls 4 [(0, .ref (α K))] := hl
  refine lv_iconst (v := 0) hx hb d_Line_exchangeFirstTwo_0 (by decide) ?_
  refine lv_istore_n (lv' := [(1, .int (0 : Int32)), (0, .ref (α K))]) hx hb d_Line_exchangeFirstTwo_1 rfl hl (by decide) rfl (fun ls hl => ?_)
  refine lv_iload_n hx hb d_Line_exchangeFirstTwo_2 rfl (lv_at hl 0 rfl) ?_
  refine lv_bipush (v := 6) hx hb d_Line_exchangeFirstTwo_3 (by decide) ?_
  refine lv_icmp_ge (tgt := 46) hx hb d_Line_exchangeFirstTwo_5 (by decide) (fun h_ => absurd h_ (by decide)) (fun _ => ?_)
  refine lv_aload_n hx hb d_Line_exchangeFirstTwo_8 rfl (lv_at hl 1 rfl) ?_
  refine sp_g_Line (v := .ref (α (K + 2))) hx hb ht hown hK hP iK 0 (by decide) (ht _ xw35) (fun _ h_ => h_) rfl d_Line_exchangeFirstTwo_9 ?_
  refine lv_iload_n hx hb d_Line_exchangeFirstTwo_12 rfl (lv_at hl 0 rfl) ?_
  refine sp_ga_rows (n := 0) (v := (σ.2 (K + 2) 0)) hx hb hK hP (by omega) (xb_in (xb_lit (x := (0 : Int32)) 0 rfl) (by omega) (by decide)) (xb_cl (xb_lit (x := (0 : Int32)) 0 rfl) (by omega)) rfl d_Line_exchangeFirstTwo_13 ?_
  refine lv_lstore_n (lv' := [(2, .long (σ.2 (K + 2) 0)), (1, .int (0 : Int32)), (0, .ref (α K))]) hx hb d_Line_exchangeFirstTwo_14 rfl hl (by decide) rfl (fun ls hl => ?_)
  refine lv_aload_n hx hb d_Line_exchangeFirstTwo_15 rfl (lv_at hl 2 rfl) ?_
  refine sp_g_Line (v := .ref (α (K + 2))) hx hb ht hown hK hP iK 0 (by decide) (ht _ xw35) (fun _ h_ => h_) rfl d_Line_exchangeFirstTwo_16 ?_
  refine lv_iload_n hx hb d_Line_exchangeFirstTwo_19 rfl (lv_at hl 1 rfl) ?_
  refine lv_aload_n hx hb d_Line_exchangeFirstTwo_20 rfl (lv_at hl 2 rfl) ?_
  refine sp_g_Line (v := .ref (α (K + 2))) hx hb ht hown hK hP iK 0 (by decide) (ht _ xw35) (fun _ h_ => h_) rfl d_Line_exchangeFirstTwo_21 ?_
  refine lv_iload_n hx hb d_Line_exchangeFirstTwo_24 rfl (lv_at hl 1 rfl) ?_
  refine lv_bipush (v := 6) hx hb d_Line_exchangeFirstTwo_25 (by decide) ?_
  refine lv_iadd hx hb d_Line_exchangeFirstTwo_27 ?_
  refine xb_ti (y := (6 : Int32)) (by decide) ?_
  refine sp_ga_rows (n := 6) (v := (σ.2 (K + 2) 6)) hx hb hK hP (by omega) (xb_in (xb_lit (x := (6 : Int32)) 6 rfl) (by omega) (by decide)) (xb_cl (xb_lit (x := (6 : Int32)) 6 rfl) (by omega)) rfl d_Line_exchangeFirstTwo_28 ?_
  refine sp_pa_rows (n := 0) (x := (σ.2 (K + 2) 6)) hx hb hK hP (by omega) hD hS (xb_in (xb_lit (x := (0 : Int32)) 0 rfl) (by omega) (by decide)) (xb_cl (xb_lit (x := (0 : Int32)) 0 rfl) (by omega)) d_Line_exchangeFirstTwo_29 (fun H locs hP hS => ?_)
  refine lv_aload_n hx hb d_Line_exchangeFirstTwo_30 rfl (lv_at hl 2 rfl) ?_
  refine sp_g_Line (v := .ref (α (K + 2))) hx hb ht hown hK hP iK 0 (by decide) (ht _ xw35) (fun _ h_ => h_) rfl d_Line_exchangeFirstTwo_31 ?_
  refine lv_iload_n hx hb d_Line_exchangeFirstTwo_34 rfl (lv_at hl 1 rfl) ?_
  refine lv_bipush (v := 6) hx hb d_Line_exchangeFirstTwo_35 (by decide) ?_
  refine lv_iadd hx hb d_Line_exchangeFirstTwo_37 ?_
  refine xb_ti (y := (6 : Int32)) (by decide) ?_
  refine lv_lload_n hx hb d_Line_exchangeFirstTwo_38 rfl (lv_at hl 0 rfl) ?_
  refine sp_pa_rows (n := 6) (x := (σ.2 (K + 2) 0)) hx hb hK hP (by omega) hD hS (xb_in (xb_lit (x := (6 : Int32)) 6 rfl) (by omega) (by decide)) (xb_cl (xb_lit (x := (6 : Int32)) 6 rfl) (by omega)) d_Line_exchangeFirstTwo_39 (fun H locs hP hS => ?_)
  refine lv_iinc (v := (1 : Int32)) (k := 1) (lv' := [(1, .int (1 : Int32)), (2, .long (σ.2 (K + 2) 0)), (0, .ref (α K))]) hx hb d_Line_exchangeFirstTwo_40 hl rfl (by decide) (by decide) rfl (fun ls hl => ?_)
  refine lv_goto (tgt := 2) hx hb d_Line_exchangeFirstTwo_43 (by decide) ?_
  refine lv_iload_n hx hb d_Line_exchangeFirstTwo_2 rfl (lv_at hl 0 rfl) ?_
  refine lv_bipush (v := 6) hx hb d_Line_exchangeFirstTwo_3 (by decide) ?_
  refine lv_icmp_ge (tgt := 46) hx hb d_Line_exchangeFirstTwo_5 (by decide) (fun h_ => absurd h_ (by decide)) (fun _ => ?_)
  refine lv_aload_n hx hb d_Line_exchangeFirstTwo_8 rfl (lv_at hl 2 rfl) ?_
  refine sp_g_Line (v := .ref (α (K + 2))) hx hb ht hown hK hP iK 0 (by decide) (ht _ xw35) (fun _ h_ => h_) rfl d_Line_exchangeFirstTwo_9 ?_
  refine lv_iload_n hx hb d_Line_exchangeFirstTwo_12 rfl (lv_at hl 0 rfl) ?_
  refine sp_ga_rows (n := 1) (v := (σ.2 (K + 2) 1)) hx hb hK hP (by omega) (xb_in (xb_lit (x := (1 : Int32)) 1 rfl) (by omega) (by decide)) (xb_cl (xb_lit (x := (1 : Int32)) 1 rfl) (by omega)) (((xb_l_nj (by decide))).trans ((xb_l_nj (by decide)))) d_Line_exchangeFirstTwo_13 ?_
  refine lv_lstore_n (lv' := [(2, .long (σ.2 (K + 2) 1)), (1, .int (1 : Int32)), (0, .ref (α K))]) hx hb d_Line_exchangeFirstTwo_14 rfl hl (by decide) rfl (fun ls hl => ?_)
  refine lv_aload_n hx hb d_Line_exchangeFirstTwo_15 rfl (lv_at hl 2 rfl) ?_
  refine sp_g_Line (v := .ref (α (K + 2))) hx hb ht hown hK hP iK 0 (by decide) (ht _ xw35) (fun _ h_ => h_) rfl d_Line_exchangeFirstTwo_16 ?_
  refine lv_iload_n hx hb d_Line_exchangeFirstTwo_19 rfl (lv_at hl 1 rfl) ?_
  refine lv_aload_n hx hb d_Line_exchangeFirstTwo_20 rfl (lv_at hl 2 rfl) ?_
  refine sp_g_Line (v := .ref (α (K + 2))) hx hb ht hown hK hP iK 0 (by decide) (ht _ xw35) (fun _ h_ => h_) rfl d_Line_exchangeFirstTwo_21 ?_
  refine lv_iload_n hx hb d_Line_exchangeFirstTwo_24 rfl (lv_at hl 1 rfl) ?_
  refine lv_bipush (v := 6) hx hb d_Line_exchangeFirstTwo_25 (by decide) ?_
  refine lv_iadd hx hb d_Line_exchangeFirstTwo_27 ?_
  refine xb_ti (y := (7 : Int32)) (by decide) ?_
  refine sp_ga_rows (n := 7) (v := (σ.2 (K + 2) 7)) hx hb hK hP (by omega) (xb_in (xb_lit (x := (7 : Int32)) 7 rfl) (by omega) (by decide)) (xb_cl (xb_lit (x := (7 : Int32)) 7 rfl) (by omega)) (((xb_l_nj (by decide))).trans ((xb_l_nj (by decide)))) d_Line_exchangeFirstTwo_28 ?_
  refine sp_pa_rows (n := 1) (x := (σ.2 (K + 2) 7)) hx hb hK hP (by omega) hD hS (xb_in (xb_lit (x := (1 : Int32)) 1 rfl) (by omega) (by decide)) (xb_cl (xb_lit (x := (1 : Int32)) 1 rfl) (by omega)) d_Line_exchangeFirstTwo_29 (fun H locs hP hS => ?_)
  refine lv_aload_n hx hb d_Line_exchangeFirstTwo_30 rfl (lv_at hl 2 rfl) ?_
  refine sp_g_Line (v := .ref (α (K + 2))) hx hb ht hown hK hP iK 0 (by decide) (ht _ xw35) (fun _ h_ => h_) rfl d_Line_exchangeFirstTwo_31 ?_
  refine lv_iload_n hx hb d_Line_exchangeFirstTwo_34 rfl (lv_at hl 1 rfl) ?_
  refine lv_bipush (v := 6) hx hb d_Line_exchangeFirstTwo_35 (by decide) ?_
  refine lv_iadd hx hb d_Line_exchangeFirstTwo_37 ?_
  refine xb_ti (y := (7 : Int32)) (by decide) ?_
  refine lv_lload_n hx hb d_Line_exchangeFirstTwo_38 rfl (lv_at hl 0 rfl) ?_
  refine sp_pa_rows (n := 7) (x := (σ.2 (K + 2) 1)) hx hb hK hP (by omega) hD hS (xb_in (xb_lit (x := (7 : Int32)) 7 rfl) (by omega) (by decide)) (xb_cl (xb_lit (x := (7 : Int32)) 7 rfl) (by omega)) d_Line_exchangeFirstTwo_39 (fun H locs hP hS => ?_)
  refine lv_iinc (v := (2 : Int32)) (k := 1) (lv' := [(1, .int (2 : Int32)), (2, .long (σ.2 (K + 2) 1)), (0, .ref (α K))]) hx hb d_Line_exchangeFirstTwo_40 hl rfl (by decide) (by decide) rfl (fun ls hl => ?_)
  refine lv_goto (tgt := 2) hx hb d_Line_exchangeFirstTwo_43 (by decide) ?_
  refine lv_iload_n hx hb d_Line_exchangeFirstTwo_2 rfl (lv_at hl 0 rfl) ?_
  refine lv_bipush (v := 6) hx hb d_Line_exchangeFirstTwo_3 (by decide) ?_
  refine lv_icmp_ge (tgt := 46) hx hb d_Line_exchangeFirstTwo_5 (by decide) (fun h_ => absurd h_ (by decide)) (fun _ => ?_)
  refine lv_aload_n hx hb d_Line_exchangeFirstTwo_8 rfl (lv_at hl 2 rfl) ?_
  refine sp_g_Line (v := .ref (α (K + 2))) hx hb ht hown hK hP iK 0 (by decide) (ht _ xw35) (fun _ h_ => h_) rfl d_Line_exchangeFirstTwo_9 ?_
  refine lv_iload_n hx hb d_Line_exchangeFirstTwo_12 rfl (lv_at hl 0 rfl) ?_
  refine sp_ga_rows (n := 2) (v := (σ.2 (K + 2) 2)) hx hb hK hP (by omega) (xb_in (xb_lit (x := (2 : Int32)) 2 rfl) (by omega) (by decide)) (xb_cl (xb_lit (x := (2 : Int32)) 2 rfl) (by omega)) (((xb_l_nj (by decide))).trans (((xb_l_nj (by decide))).trans (((xb_l_nj (by decide))).trans ((xb_l_nj (by decide)))))) d_Line_exchangeFirstTwo_13 ?_
  refine lv_lstore_n (lv' := [(2, .long (σ.2 (K + 2) 2)), (1, .int (2 : Int32)), (0, .ref (α K))]) hx hb d_Line_exchangeFirstTwo_14 rfl hl (by decide) rfl (fun ls hl => ?_)
  refine lv_aload_n hx hb d_Line_exchangeFirstTwo_15 rfl (lv_at hl 2 rfl) ?_
  refine sp_g_Line (v := .ref (α (K + 2))) hx hb ht hown hK hP iK 0 (by decide) (ht _ xw35) (fun _ h_ => h_) rfl d_Line_exchangeFirstTwo_16 ?_
  refine lv_iload_n hx hb d_Line_exchangeFirstTwo_19 rfl (lv_at hl 1 rfl) ?_
  refine lv_aload_n hx hb d_Line_exchangeFirstTwo_20 rfl (lv_at hl 2 rfl) ?_
  refine sp_g_Line (v := .ref (α (K + 2))) hx hb ht hown hK hP iK 0 (by decide) (ht _ xw35) (fun _ h_ => h_) rfl d_Line_exchangeFirstTwo_21 ?_
  refine lv_iload_n hx hb d_Line_exchangeFirstTwo_24 rfl (lv_at hl 1 rfl) ?_
  refine lv_bipush (v := 6) hx hb d_Line_exchangeFirstTwo_25 (by decide) ?_
  refine lv_iadd hx hb d_Line_exchangeFirstTwo_27 ?_
  refine xb_ti (y := (8 : Int32)) (by decide) ?_
  refine sp_ga_rows (n := 8) (v := (σ.2 (K + 2) 8)) hx hb hK hP (by omega) (xb_in (xb_lit (x := (8 : Int32)) 8 rfl) (by omega) (by decide)) (xb_cl (xb_lit (x := (8 : Int32)) 8 rfl) (by omega)) (((xb_l_nj (by decide))).trans (((xb_l_nj (by decide))).trans (((xb_l_nj (by decide))).trans ((xb_l_nj (by decide)))))) d_Line_exchangeFirstTwo_28 ?_
  refine sp_pa_rows (n := 2) (x := (σ.2 (K + 2) 8)) hx hb hK hP (by omega) hD hS (xb_in (xb_lit (x := (2 : Int32)) 2 rfl) (by omega) (by decide)) (xb_cl (xb_lit (x := (2 : Int32)) 2 rfl) (by omega)) d_Line_exchangeFirstTwo_29 (fun H locs hP hS => ?_)
  refine lv_aload_n hx hb d_Line_exchangeFirstTwo_30 rfl (lv_at hl 2 rfl) ?_
  refine sp_g_Line (v := .ref (α (K + 2))) hx hb ht hown hK hP iK 0 (by decide) (ht _ xw35) (fun _ h_ => h_) rfl d_Line_exchangeFirstTwo_31 ?_
  refine lv_iload_n hx hb d_Line_exchangeFirstTwo_34 rfl (lv_at hl 1 rfl) ?_
  refine lv_bipush (v := 6) hx hb d_Line_exchangeFirstTwo_35 (by decide) ?_
  refine lv_iadd hx hb d_Line_exchangeFirstTwo_37 ?_
  refine xb_ti (y := (8 : Int32)) (by decide) ?_
  refine lv_lload_n hx hb d_Line_exchangeFirstTwo_38 rfl (lv_at hl 0 rfl) ?_
  refine sp_pa_rows (n := 8) (x := (σ.2 (K + 2) 2)) hx hb hK hP (by omega) hD hS (xb_in (xb_lit (x := (8 : Int32)) 8 rfl) (by omega) (by decide)) (xb_cl (xb_lit (x := (8 : Int32)) 8 rfl) (by omega)) d_Line_exchangeFirstTwo_39 (fun H locs hP hS => ?_)
  refine lv_iinc (v := (3 : Int32)) (k := 1) (lv' := [(1, .int (3 : Int32)), (2, .long (σ.2 (K + 2) 2)), (0, .ref (α K))]) hx hb d_Line_exchangeFirstTwo_40 hl rfl (by decide) (by decide) rfl (fun ls hl => ?_)
  refine lv_goto (tgt := 2) hx hb d_Line_exchangeFirstTwo_43 (by decide) ?_
  refine lv_iload_n hx hb d_Line_exchangeFirstTwo_2 rfl (lv_at hl 0 rfl) ?_
  refine lv_bipush (v := 6) hx hb d_Line_exchangeFirstTwo_3 (by decide) ?_
  refine lv_icmp_ge (tgt := 46) hx hb d_Line_exchangeFirstTwo_5 (by decide) (fun h_ => absurd h_ (by decide)) (fun _ => ?_)
  refine lv_aload_n hx hb d_Line_exchangeFirstTwo_8 rfl (lv_at hl 2 rfl) ?_
  refine sp_g_Line (v := .ref (α (K + 2))) hx hb ht hown hK hP iK 0 (by decide) (ht _ xw35) (fun _ h_ => h_) rfl d_Line_exchangeFirstTwo_9 ?_
  refine lv_iload_n hx hb d_Line_exchangeFirstTwo_12 rfl (lv_at hl 0 rfl) ?_
  refine sp_ga_rows (n := 3) (v := (σ.2 (K + 2) 3)) hx hb hK hP (by omega) (xb_in (xb_lit (x := (3 : Int32)) 3 rfl) (by omega) (by decide)) (xb_cl (xb_lit (x := (3 : Int32)) 3 rfl) (by omega)) (((xb_l_nj (by decide))).trans (((xb_l_nj (by decide))).trans (((xb_l_nj (by decide))).trans (((xb_l_nj (by decide))).trans (((xb_l_nj (by decide))).trans ((xb_l_nj (by decide)))))))) d_Line_exchangeFirstTwo_13 ?_
  refine lv_lstore_n (lv' := [(2, .long (σ.2 (K + 2) 3)), (1, .int (3 : Int32)), (0, .ref (α K))]) hx hb d_Line_exchangeFirstTwo_14 rfl hl (by decide) rfl (fun ls hl => ?_)
  refine lv_aload_n hx hb d_Line_exchangeFirstTwo_15 rfl (lv_at hl 2 rfl) ?_
  refine sp_g_Line (v := .ref (α (K + 2))) hx hb ht hown hK hP iK 0 (by decide) (ht _ xw35) (fun _ h_ => h_) rfl d_Line_exchangeFirstTwo_16 ?_
  refine lv_iload_n hx hb d_Line_exchangeFirstTwo_19 rfl (lv_at hl 1 rfl) ?_
  refine lv_aload_n hx hb d_Line_exchangeFirstTwo_20 rfl (lv_at hl 2 rfl) ?_
  refine sp_g_Line (v := .ref (α (K + 2))) hx hb ht hown hK hP iK 0 (by decide) (ht _ xw35) (fun _ h_ => h_) rfl d_Line_exchangeFirstTwo_21 ?_
  refine lv_iload_n hx hb d_Line_exchangeFirstTwo_24 rfl (lv_at hl 1 rfl) ?_
  refine lv_bipush (v := 6) hx hb d_Line_exchangeFirstTwo_25 (by decide) ?_
  refine lv_iadd hx hb d_Line_exchangeFirstTwo_27 ?_
  refine xb_ti (y := (9 : Int32)) (by decide) ?_
  refine sp_ga_rows (n := 9) (v := (σ.2 (K + 2) 9)) hx hb hK hP (by omega) (xb_in (xb_lit (x := (9 : Int32)) 9 rfl) (by omega) (by decide)) (xb_cl (xb_lit (x := (9 : Int32)) 9 rfl) (by omega)) (((xb_l_nj (by decide))).trans (((xb_l_nj (by decide))).trans (((xb_l_nj (by decide))).trans (((xb_l_nj (by decide))).trans (((xb_l_nj (by decide))).trans ((xb_l_nj (by decide)))))))) d_Line_exchangeFirstTwo_28 ?_
  refine sp_pa_rows (n := 3) (x := (σ.2 (K + 2) 9)) hx hb hK hP (by omega) hD hS (xb_in (xb_lit (x := (3 : Int32)) 3 rfl) (by omega) (by decide)) (xb_cl (xb_lit (x := (3 : Int32)) 3 rfl) (by omega)) d_Line_exchangeFirstTwo_29 (fun H locs hP hS => ?_)
  refine lv_aload_n hx hb d_Line_exchangeFirstTwo_30 rfl (lv_at hl 2 rfl) ?_
  refine sp_g_Line (v := .ref (α (K + 2))) hx hb ht hown hK hP iK 0 (by decide) (ht _ xw35) (fun _ h_ => h_) rfl d_Line_exchangeFirstTwo_31 ?_
  refine lv_iload_n hx hb d_Line_exchangeFirstTwo_34 rfl (lv_at hl 1 rfl) ?_
  refine lv_bipush (v := 6) hx hb d_Line_exchangeFirstTwo_35 (by decide) ?_
  refine lv_iadd hx hb d_Line_exchangeFirstTwo_37 ?_
  refine xb_ti (y := (9 : Int32)) (by decide) ?_
  refine lv_lload_n hx hb d_Line_exchangeFirstTwo_38 rfl (lv_at hl 0 rfl) ?_
  refine sp_pa_rows (n := 9) (x := (σ.2 (K + 2) 3)) hx hb hK hP (by omega) hD hS (xb_in (xb_lit (x := (9 : Int32)) 9 rfl) (by omega) (by decide)) (xb_cl (xb_lit (x := (9 : Int32)) 9 rfl) (by omega)) d_Line_exchangeFirstTwo_39 (fun H locs hP hS => ?_)
  refine lv_iinc (v := (4 : Int32)) (k := 1) (lv' := [(1, .int (4 : Int32)), (2, .long (σ.2 (K + 2) 3)), (0, .ref (α K))]) hx hb d_Line_exchangeFirstTwo_40 hl rfl (by decide) (by decide) rfl (fun ls hl => ?_)
  refine lv_goto (tgt := 2) hx hb d_Line_exchangeFirstTwo_43 (by decide) ?_
  refine lv_iload_n hx hb d_Line_exchangeFirstTwo_2 rfl (lv_at hl 0 rfl) ?_
  refine lv_bipush (v := 6) hx hb d_Line_exchangeFirstTwo_3 (by decide) ?_
  refine lv_icmp_ge (tgt := 46) hx hb d_Line_exchangeFirstTwo_5 (by decide) (fun h_ => absurd h_ (by decide)) (fun _ => ?_)
  refine lv_aload_n hx hb d_Line_exchangeFirstTwo_8 rfl (lv_at hl 2 rfl) ?_
  refine sp_g_Line (v := .ref (α (K + 2))) hx hb ht hown hK hP iK 0 (by decide) (ht _ xw35) (fun _ h_ => h_) rfl d_Line_exchangeFirstTwo_9 ?_
  refine lv_iload_n hx hb d_Line_exchangeFirstTwo_12 rfl (lv_at hl 0 rfl) ?_
  refine sp_ga_rows (n := 4) (v := (σ.2 (K + 2) 4)) hx hb hK hP (by omega) (xb_in (xb_lit (x := (4 : Int32)) 4 rfl) (by omega) (by decide)) (xb_cl (xb_lit (x := (4 : Int32)) 4 rfl) (by omega)) (((xb_l_nj (by decide))).trans (((xb_l_nj (by decide))).trans (((xb_l_nj (by decide))).trans (((xb_l_nj (by decide))).trans (((xb_l_nj (by decide))).trans (((xb_l_nj (by decide))).trans (((xb_l_nj (by decide))).trans ((xb_l_nj (by decide)))))))))) d_Line_exchangeFirstTwo_13 ?_
  refine lv_lstore_n (lv' := [(2, .long (σ.2 (K + 2) 4)), (1, .int (4 : Int32)), (0, .ref (α K))]) hx hb d_Line_exchangeFirstTwo_14 rfl hl (by decide) rfl (fun ls hl => ?_)
  refine lv_aload_n hx hb d_Line_exchangeFirstTwo_15 rfl (lv_at hl 2 rfl) ?_
  refine sp_g_Line (v := .ref (α (K + 2))) hx hb ht hown hK hP iK 0 (by decide) (ht _ xw35) (fun _ h_ => h_) rfl d_Line_exchangeFirstTwo_16 ?_
  refine lv_iload_n hx hb d_Line_exchangeFirstTwo_19 rfl (lv_at hl 1 rfl) ?_
  refine lv_aload_n hx hb d_Line_exchangeFirstTwo_20 rfl (lv_at hl 2 rfl) ?_
  refine sp_g_Line (v := .ref (α (K + 2))) hx hb ht hown hK hP iK 0 (by decide) (ht _ xw35) (fun _ h_ => h_) rfl d_Line_exchangeFirstTwo_21 ?_
  refine lv_iload_n hx hb d_Line_exchangeFirstTwo_24 rfl (lv_at hl 1 rfl) ?_
  refine lv_bipush (v := 6) hx hb d_Line_exchangeFirstTwo_25 (by decide) ?_
  refine lv_iadd hx hb d_Line_exchangeFirstTwo_27 ?_
  refine xb_ti (y := (10 : Int32)) (by decide) ?_
  refine sp_ga_rows (n := 10) (v := (σ.2 (K + 2) 10)) hx hb hK hP (by omega) (xb_in (xb_lit (x := (10 : Int32)) 10 rfl) (by omega) (by decide)) (xb_cl (xb_lit (x := (10 : Int32)) 10 rfl) (by omega)) (((xb_l_nj (by decide))).trans (((xb_l_nj (by decide))).trans (((xb_l_nj (by decide))).trans (((xb_l_nj (by decide))).trans (((xb_l_nj (by decide))).trans (((xb_l_nj (by decide))).trans (((xb_l_nj (by decide))).trans ((xb_l_nj (by decide)))))))))) d_Line_exchangeFirstTwo_28 ?_
  refine sp_pa_rows (n := 4) (x := (σ.2 (K + 2) 10)) hx hb hK hP (by omega) hD hS (xb_in (xb_lit (x := (4 : Int32)) 4 rfl) (by omega) (by decide)) (xb_cl (xb_lit (x := (4 : Int32)) 4 rfl) (by omega)) d_Line_exchangeFirstTwo_29 (fun H locs hP hS => ?_)
  refine lv_aload_n hx hb d_Line_exchangeFirstTwo_30 rfl (lv_at hl 2 rfl) ?_
  refine sp_g_Line (v := .ref (α (K + 2))) hx hb ht hown hK hP iK 0 (by decide) (ht _ xw35) (fun _ h_ => h_) rfl d_Line_exchangeFirstTwo_31 ?_
  refine lv_iload_n hx hb d_Line_exchangeFirstTwo_34 rfl (lv_at hl 1 rfl) ?_
  refine lv_bipush (v := 6) hx hb d_Line_exchangeFirstTwo_35 (by decide) ?_
  refine lv_iadd hx hb d_Line_exchangeFirstTwo_37 ?_
  refine xb_ti (y := (10 : Int32)) (by decide) ?_
  refine lv_lload_n hx hb d_Line_exchangeFirstTwo_38 rfl (lv_at hl 0 rfl) ?_
  refine sp_pa_rows (n := 10) (x := (σ.2 (K + 2) 4)) hx hb hK hP (by omega) hD hS (xb_in (xb_lit (x := (10 : Int32)) 10 rfl) (by omega) (by decide)) (xb_cl (xb_lit (x := (10 : Int32)) 10 rfl) (by omega)) d_Line_exchangeFirstTwo_39 (fun H locs hP hS => ?_)
  refine lv_iinc (v := (5 : Int32)) (k := 1) (lv' := [(1, .int (5 : Int32)), (2, .long (σ.2 (K + 2) 4)), (0, .ref (α K))]) hx hb d_Line_exchangeFirstTwo_40 hl rfl (by decide) (by decide) rfl (fun ls hl => ?_)
  refine lv_goto (tgt := 2) hx hb d_Line_exchangeFirstTwo_43 (by decide) ?_
  refine lv_iload_n hx hb d_Line_exchangeFirstTwo_2 rfl (lv_at hl 0 rfl) ?_
  refine lv_bipush (v := 6) hx hb d_Line_exchangeFirstTwo_3 (by decide) ?_
  refine lv_icmp_ge (tgt := 46) hx hb d_Line_exchangeFirstTwo_5 (by decide) (fun h_ => absurd h_ (by decide)) (fun _ => ?_)
  refine lv_aload_n hx hb d_Line_exchangeFirstTwo_8 rfl (lv_at hl 2 rfl) ?_
  refine sp_g_Line (v := .ref (α (K + 2))) hx hb ht hown hK hP iK 0 (by decide) (ht _ xw35) (fun _ h_ => h_) rfl d_Line_exchangeFirstTwo_9 ?_
  refine lv_iload_n hx hb d_Line_exchangeFirstTwo_12 rfl (lv_at hl 0 rfl) ?_
  refine sp_ga_rows (n := 5) (v := (σ.2 (K + 2) 5)) hx hb hK hP (by omega) (xb_in (xb_lit (x := (5 : Int32)) 5 rfl) (by omega) (by decide)) (xb_cl (xb_lit (x := (5 : Int32)) 5 rfl) (by omega)) (((xb_l_nj (by decide))).trans (((xb_l_nj (by decide))).trans (((xb_l_nj (by decide))).trans (((xb_l_nj (by decide))).trans (((xb_l_nj (by decide))).trans (((xb_l_nj (by decide))).trans (((xb_l_nj (by decide))).trans (((xb_l_nj (by decide))).trans (((xb_l_nj (by decide))).trans ((xb_l_nj (by decide)))))))))))) d_Line_exchangeFirstTwo_13 ?_
  refine lv_lstore_n (lv' := [(2, .long (σ.2 (K + 2) 5)), (1, .int (5 : Int32)), (0, .ref (α K))]) hx hb d_Line_exchangeFirstTwo_14 rfl hl (by decide) rfl (fun ls hl => ?_)
  refine lv_aload_n hx hb d_Line_exchangeFirstTwo_15 rfl (lv_at hl 2 rfl) ?_
  refine sp_g_Line (v := .ref (α (K + 2))) hx hb ht hown hK hP iK 0 (by decide) (ht _ xw35) (fun _ h_ => h_) rfl d_Line_exchangeFirstTwo_16 ?_
  refine lv_iload_n hx hb d_Line_exchangeFirstTwo_19 rfl (lv_at hl 1 rfl) ?_
  refine lv_aload_n hx hb d_Line_exchangeFirstTwo_20 rfl (lv_at hl 2 rfl) ?_
  refine sp_g_Line (v := .ref (α (K + 2))) hx hb ht hown hK hP iK 0 (by decide) (ht _ xw35) (fun _ h_ => h_) rfl d_Line_exchangeFirstTwo_21 ?_
  refine lv_iload_n hx hb d_Line_exchangeFirstTwo_24 rfl (lv_at hl 1 rfl) ?_
  refine lv_bipush (v := 6) hx hb d_Line_exchangeFirstTwo_25 (by decide) ?_
  refine lv_iadd hx hb d_Line_exchangeFirstTwo_27 ?_
  refine xb_ti (y := (11 : Int32)) (by decide) ?_
  refine sp_ga_rows (n := 11) (v := (σ.2 (K + 2) 11)) hx hb hK hP (by omega) (xb_in (xb_lit (x := (11 : Int32)) 11 rfl) (by omega) (by decide)) (xb_cl (xb_lit (x := (11 : Int32)) 11 rfl) (by omega)) (((xb_l_nj (by decide))).trans (((xb_l_nj (by decide))).trans (((xb_l_nj (by decide))).trans (((xb_l_nj (by decide))).trans (((xb_l_nj (by decide))).trans (((xb_l_nj (by decide))).trans (((xb_l_nj (by decide))).trans (((xb_l_nj (by decide))).trans (((xb_l_nj (by decide))).trans ((xb_l_nj (by decide)))))))))))) d_Line_exchangeFirstTwo_28 ?_
  refine sp_pa_rows (n := 5) (x := (σ.2 (K + 2) 11)) hx hb hK hP (by omega) hD hS (xb_in (xb_lit (x := (5 : Int32)) 5 rfl) (by omega) (by decide)) (xb_cl (xb_lit (x := (5 : Int32)) 5 rfl) (by omega)) d_Line_exchangeFirstTwo_29 (fun H locs hP hS => ?_)
  refine lv_aload_n hx hb d_Line_exchangeFirstTwo_30 rfl (lv_at hl 2 rfl) ?_
  refine sp_g_Line (v := .ref (α (K + 2))) hx hb ht hown hK hP iK 0 (by decide) (ht _ xw35) (fun _ h_ => h_) rfl d_Line_exchangeFirstTwo_31 ?_
  refine lv_iload_n hx hb d_Line_exchangeFirstTwo_34 rfl (lv_at hl 1 rfl) ?_
  refine lv_bipush (v := 6) hx hb d_Line_exchangeFirstTwo_35 (by decide) ?_
  refine lv_iadd hx hb d_Line_exchangeFirstTwo_37 ?_
  refine xb_ti (y := (11 : Int32)) (by decide) ?_
  refine lv_lload_n hx hb d_Line_exchangeFirstTwo_38 rfl (lv_at hl 0 rfl) ?_
  refine sp_pa_rows (n := 11) (x := (σ.2 (K + 2) 5)) hx hb hK hP (by omega) hD hS (xb_in (xb_lit (x := (11 : Int32)) 11 rfl) (by omega) (by decide)) (xb_cl (xb_lit (x := (11 : Int32)) 11 rfl) (by omega)) d_Line_exchangeFirstTwo_39 (fun H locs hP hS => ?_)
  refine lv_iinc (v := (6 : Int32)) (k := 1) (lv' := [(1, .int (6 : Int32)), (2, .long (σ.2 (K + 2) 5)), (0, .ref (α K))]) hx hb d_Line_exchangeFirstTwo_40 hl rfl (by decide) (by decide) rfl (fun ls hl => ?_)
  refine lv_goto (tgt := 2) hx hb d_Line_exchangeFirstTwo_43 (by decide) ?_
  refine lv_iload_n hx hb d_Line_exchangeFirstTwo_2 rfl (lv_at hl 0 rfl) ?_
  refine lv_bipush (v := 6) hx hb d_Line_exchangeFirstTwo_3 (by decide) ?_
  refine lv_icmp_ge (tgt := 46) hx hb d_Line_exchangeFirstTwo_5 (by decide) (fun _ => ?_) (fun h_ => absurd h_ (by decide))
  exact W.vret hx hb hr (fun t ht_ hW => ⟨⟨(xb_sl (xb_sl (xb_sl (xb_sl (xb_sl (xb_sl (xb_sl (xb_sl (xb_sl (xb_sl (xb_sl (xb_sl σ (K + 2) 0 (σ.2 (K + 2) 6)) (K + 2) 6 (σ.2 (K + 2) 0)) (K + 2) 1 (σ.2 (K + 2) 7)) (K + 2) 7 (σ.2 (K + 2) 1)) (K + 2) 2 (σ.2 (K + 2) 8)) (K + 2) 8 (σ.2 (K + 2) 2)) (K + 2) 3 (σ.2 (K + 2) 9)) (K + 2) 9 (σ.2 (K + 2) 3)) (K + 2) 4 (σ.2 (K + 2) 10)) (K + 2) 10 (σ.2 (K + 2) 4)) (K + 2) 5 (σ.2 (K + 2) 11)) (K + 2) 11 (σ.2 (K + 2) 5)), rfl, rfl, by rw [sp_B, ht_]; exact hP⟩, hS.F ht_⟩) hS.2.2 d_Line_exchangeFirstTwo_46
theorem ok_p_Line_swap {σ : xb_St} (K : Nat) (iK : sp_isLine K) (ok : sp_ok σ) : sp_ok (p_Line_swap K σ) := by
  unfold p_Line_swap
  exact (ok_sl (ok_sl (ok_sl (ok_sl (ok_sl (ok_sl (ok_sl (ok_sl (ok_sl (ok_sl (ok_sl (ok_sl ok))))))))))))
