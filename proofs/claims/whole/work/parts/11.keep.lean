abbrev b_Channel_keep : ByteArray := prog_2_method_10_code
def y_Channel_keep : MethodName := ⟨"SecurePair$Channel", "keep", "(IJ)V"⟩
abbrev w_Channel_keep : List Cond := .code y_Channel_keep b_Channel_keep 5 none :: xa
theorem d_Channel_keep_0 : decode b_Channel_keep 0 = .ok (.iload_n 1, 1) := by decide +kernel
theorem d_Channel_keep_1 : decode b_Channel_keep 1 = .ok (.iconst 1, 1) := by decide +kernel
theorem d_Channel_keep_2 : decode b_Channel_keep 2 = .ok (.isub, 1) := by decide +kernel
theorem d_Channel_keep_3 : decode b_Channel_keep 3 = .ok (.istore 4, 2) := by decide +kernel
theorem d_Channel_keep_5 : decode b_Channel_keep 5 = .ok (.iload 4, 2) := by decide +kernel
theorem d_Channel_keep_7 : decode b_Channel_keep 7 = .ok (.ifCond .lt 57, 3) := by decide +kernel
theorem d_Channel_keep_10 : decode b_Channel_keep 10 = .ok (.aload_n 0, 1) := by decide +kernel
theorem d_Channel_keep_11 : decode b_Channel_keep 11 = .ok (.getfield 41, 3) := by decide +kernel
theorem d_Channel_keep_14 : decode b_Channel_keep 14 = .ok (.bipush 24, 2) := by decide +kernel
theorem d_Channel_keep_16 : decode b_Channel_keep 16 = .ok (.if_icmp .ge 48, 3) := by decide +kernel
theorem d_Channel_keep_19 : decode b_Channel_keep 19 = .ok (.aload_n 0, 1) := by decide +kernel
theorem d_Channel_keep_20 : decode b_Channel_keep 20 = .ok (.getfield 9, 3) := by decide +kernel
theorem d_Channel_keep_23 : decode b_Channel_keep 23 = .ok (.aload_n 0, 1) := by decide +kernel
theorem d_Channel_keep_24 : decode b_Channel_keep 24 = .ok (.getfield 38, 3) := by decide +kernel
theorem d_Channel_keep_27 : decode b_Channel_keep 27 = .ok (.aload_n 0, 1) := by decide +kernel
theorem d_Channel_keep_28 : decode b_Channel_keep 28 = .ok (.getfield 41, 3) := by decide +kernel
theorem d_Channel_keep_31 : decode b_Channel_keep 31 = .ok (.iadd, 1) := by decide +kernel
theorem d_Channel_keep_32 : decode b_Channel_keep 32 = .ok (.bipush 24, 2) := by decide +kernel
theorem d_Channel_keep_34 : decode b_Channel_keep 34 = .ok (.irem, 1) := by decide +kernel
theorem d_Channel_keep_35 : decode b_Channel_keep 35 = .ok (.lload_n 2, 1) := by decide +kernel
theorem d_Channel_keep_36 : decode b_Channel_keep 36 = .ok (.bipush 8, 2) := by decide +kernel
theorem d_Channel_keep_38 : decode b_Channel_keep 38 = .ok (.iload 4, 2) := by decide +kernel
theorem d_Channel_keep_40 : decode b_Channel_keep 40 = .ok (.imul, 1) := by decide +kernel
theorem d_Channel_keep_41 : decode b_Channel_keep 41 = .ok (.lushr, 1) := by decide +kernel
theorem d_Channel_keep_42 : decode b_Channel_keep 42 = .ok (.ldc2_w 63, 3) := by decide +kernel
theorem d_Channel_keep_45 : decode b_Channel_keep 45 = .ok (.land, 1) := by decide +kernel
theorem d_Channel_keep_46 : decode b_Channel_keep 46 = .ok (.l2i, 1) := by decide +kernel
theorem d_Channel_keep_47 : decode b_Channel_keep 47 = .ok (.iastore, 1) := by decide +kernel
theorem d_Channel_keep_48 : decode b_Channel_keep 48 = .ok (.aload_n 0, 1) := by decide +kernel
theorem d_Channel_keep_49 : decode b_Channel_keep 49 = .ok (.dup, 1) := by decide +kernel
theorem d_Channel_keep_50 : decode b_Channel_keep 50 = .ok (.getfield 41, 3) := by decide +kernel
theorem d_Channel_keep_53 : decode b_Channel_keep 53 = .ok (.iconst 1, 1) := by decide +kernel
theorem d_Channel_keep_54 : decode b_Channel_keep 54 = .ok (.iadd, 1) := by decide +kernel
theorem d_Channel_keep_55 : decode b_Channel_keep 55 = .ok (.putfield 41, 3) := by decide +kernel
theorem d_Channel_keep_58 : decode b_Channel_keep 58 = .ok (.iinc 4 (-1), 3) := by decide +kernel
theorem d_Channel_keep_61 : decode b_Channel_keep 61 = .ok (.goto (-56), 3) := by decide +kernel
theorem d_Channel_keep_64 : decode b_Channel_keep 64 = .ok (.return_, 1) := by decide +kernel
theorem xw824 : (Cond.constantLong "SecurePair$Channel" (63 : Nat) (255 : Int64)) ∈ xa := xa_t 824 (by decide +kernel) (by decide +kernel)
def f_keep : Nat → Nat → Int32 → Int64 → xb_St → xb_St
  | 0, _, _, _, σ => σ
  | n + 1, C, left_, x2, σ => if left_ < 0 then σ else if (24 : Int32) ≤ (σ.1 C 7) then σ else f_keep n C (left_ + (-1 : Int32)) x2 (xb_si (xb_si σ (C + 3) (((σ.1 C 6).toNatClampNeg + (σ.1 C 7).toNatClampNeg) % 24) (((xb_lushr x2 ((8 : Int32) * left_)) &&& (255 : Int64)).toInt32)) C 7 ((σ.1 C 7) + (1 : Int32)))
theorem f_keep_s {n C : Nat} {left_ : Int32} {x2 : Int64} {σ : xb_St} : f_keep (n + 1) C left_ x2 σ = if left_ < 0 then σ else if (24 : Int32) ≤ (σ.1 C 7) then σ else f_keep n C (left_ + (-1 : Int32)) x2 (xb_si (xb_si σ (C + 3) (((σ.1 C 6).toNatClampNeg + (σ.1 C 7).toNatClampNeg) % 24) (((xb_lushr x2 ((8 : Int32) * left_)) &&& (255 : Int64)).toInt32)) C 7 ((σ.1 C 7) + (1 : Int32))) := rfl
def p_Ch_keep (C : Nat) (x1 : Int32) (x2 : Int64) (σ : xb_St) : xb_St := f_keep 8 C (x1 - (1 : Int32)) x2 σ
theorem xb_dec {x : Int32} (h : ¬ x < 0) : (x + (-1 : Int32)).toInt = x.toInt - 1 := by
  obtain ⟨j, hj, rfl⟩ := nI_of h
  cases j with
  | zero => decide
  | succ j => rw [show nI (j + 1) + (-1 : Int32) = nI j from pk_m1 j, nI_toInt hj, nI_toInt (by omega)]; omega
theorem sp_c8 {x : Int64} (h1 : ¬ x < 1) (h2 : ¬ 8 < x) : (x.toInt32 - (1 : Int32)).toInt < 8 := by
  have h0 : ¬ x < 0 := by
    rw [Int64.lt_iff_toInt_lt] at h1 ⊢
    have e1 : (1 : Int64).toInt = 1 := rfl
    have e0 : (0 : Int64).toInt = 0 := rfl
    omega
  obtain ⟨n, hn, rfl⟩ := pk_lOf h0
  have ha := mt (pk_lLT (a := n) (b := 1) hn (by decide)).mpr h1
  have hb := mt (pk_lLT (a := 8) (b := n) (by decide) hn).mpr h2
  rw [lN_i, xb_ns (xb_lit n rfl) (xb_lit (x := (1 : Int32)) 1 rfl) (by omega), nI_toInt (by omega)]
  omega
theorem ok_f_keep {C : Nat} (iC : sp_isChannel C) {x2 : Int64} : ∀ (n : Nat) (left_ : Int32) (σ : xb_St), sp_ok σ → sp_ok (f_keep n C left_ x2 σ) := by
  intro n
  induction n with
  | zero => intro left_ σ ok; exact ok
  | succ n ih =>
    intro left_ σ ok
    obtain ⟨⟨n0, hn0, en0⟩, n1, hn1, en1⟩ := ok.2 C iC
    rw [f_keep_s]
    split
    · exact ok
    · split
      · exact ok
      · rename_i h
        have h : ¬ 24 ≤ n1 := mt (xb_leN (xb_lit (x := (24 : Int32)) 24 rfl) en1 (by decide) (by omega)).mpr h
        exact ih _ _ (ok_held (ok_si ok (by omega) (by omega)) iC ⟨n1 + 1, by omega, xb_na en1 (xb_lit (x := (1 : Int32)) 1 rfl)⟩)
theorem ok_p_Ch_keep {σ : xb_St} (C : Nat) (x1 : Int32) (x2 : Int64) (iC : sp_isChannel C) (ok : sp_ok σ) : sp_ok (p_Ch_keep C x1 x2 σ) := ok_f_keep iC 8 _ _ ok
set_option maxHeartbeats 4000000 in
set_option maxRecDepth 100000 in
theorem c_Channel_keep (l : Launch) (D : va_G) (α : Nat → Nat) (κ : Nat → ClassId) (hα : xb_inj α 35) (σ : xb_St) (C : Nat) (x1 : Int32) (x2 : Int64) (iC : sp_isChannel C) (ok : sp_ok σ) (hc : (x1 - (1 : Int32)).toInt < 8) : Met l y_Channel_keep w_Channel_keep ({ frames := 0, cells := 0, slots := 0, locals := 0 }) (va_Pc ([.ref (α C), .int x1, .long x2]) (sp_Pre D α κ σ)) (va_Qv (fun u : xb_St => u = p_Ch_keep C x1 x2 σ) (sp_B D α κ) (xb_A α 35)) 0 0 (xb_A α 35) := by
  refine Met.ofW (cc := b_Channel_keep) (maxL := 5) (ret := none) (by decide) rfl ?_
  intro p e s m args below meth c s₁ B_ hml hv
  obtain ⟨rfl, hP, hK, hN⟩ := hv
  have hx := B_.exec
  have hb := B_.bytes
  have hr := B_.returns
  have hts := atoms_spec (ws := w_Channel_keep) B_.pre
  have ht : ∀ w ∈ xa, w.before _ s = true := fun w h => hts w (List.mem_cons_of_mem _ h)
  have hown : s.vm.findClass "SecurePair$Channel" = some m.cls := findClass_of_methodNamed B_.named
  have hlocks := B_.notSynchronized
  have hD := sp_D hα κ
  have hS : va_S (xb_A α 35) s.heap s.heap [] := va_S.rf
  have loop : ∀ (n : Nat) (σ' : xb_St) (left_ : Int32) (ls : Array Slot) (H : Heap) (locs : List Loc), left_.toInt < n → sp_ok σ' → lv_has ls 5 [(4, .int left_), (0, .ref (α C)), (1, .int x1), (2, .long x2)] → va_P D xC (sp_w α κ σ') H → va_S (xb_A α 35) s.heap H locs → f_keep n C left_ x2 σ' = p_Ch_keep C x1 x2 σ → W p l e (headSpec w_Channel_keep ({ frames := 0, cells := 0, slots := 0, locals := 0 })).room s m ([.ref (α C), .int x1, .long x2] : List Value).toArray below meth c H locs 0 0 (MQ below (va_Qv (fun u : xb_St => u = p_Ch_keep C x1 x2 σ) (sp_B D α κ) (xb_A α 35)) ([.ref (α C), .int x1, .long x2] : List Value).toArray s 0 0 (xb_A α 35)) (F0 m 5 ls []) := by
    intro n
    induction n with
    | zero =>
      intro σ left_ ls H locs hlt ok hl hP hS hF
      have hneg : left_ < 0 := by rw [Int32.lt_iff_toInt_lt]; show left_.toInt < 0; omega
      refine lv_iload hx hb d_Channel_keep_5 (lv_at hl 0 rfl) ?_
      refine lv_if_lt (tgt := 64) hx hb d_Channel_keep_7 (by decide) (fun _ => ?_) (fun h_ => absurd hneg h_)
      exact W.vret hx hb hr (fun t ht_ hW => ⟨⟨σ, rfl, hF, by rw [sp_B, ht_]; exact hP⟩, hS.F ht_⟩) hS.2.2 d_Channel_keep_64
    | succ n ih =>
      intro σ left_ ls H locs hlt ok hl hP hS hF
      rw [f_keep_s] at hF
      obtain ⟨⟨n0, hn0, en0⟩, n1, hn1, en1⟩ := ok.2 C iC
      have hz := xb_nb en0 (by omega)
      have hz0 : (σ.1 C 6).toNatClampNeg < 24 := by rw [hz.2]; exact hn0
      have hy := xb_nb en1 (by omega)
      have hy0 : (σ.1 C 7).toNatClampNeg ≤ 24 := by rw [hy.2]; exact hn1
      refine lv_iload hx hb d_Channel_keep_5 (lv_at hl 0 rfl) ?_
      refine lv_if_lt (tgt := 64) hx hb d_Channel_keep_7 (by decide) (fun c1 => ?_) (fun c1 => ?_)
      · skip
        exact W.vret hx hb hr (fun t ht_ hW => ⟨⟨σ, rfl, (((if_pos c1)).symm.trans hF), by rw [sp_B, ht_]; exact hP⟩, hS.F ht_⟩) hS.2.2 d_Channel_keep_64
      · skip
        refine lv_aload_n hx hb d_Channel_keep_10 rfl (lv_at hl 1 rfl) ?_
        refine sp_g_Channel (v := .int (σ.1 C 7)) hx hb ht hown hK hP iC 7 (by decide) (ht _ xw203) (fun _ h_ => h_) rfl d_Channel_keep_11 ?_
        refine lv_bipush (v := 24) hx hb d_Channel_keep_14 (by decide) ?_
        refine lv_icmp_ge (tgt := 64) hx hb d_Channel_keep_16 (by decide) (fun c2 => ?_) (fun c2 => ?_)
        · skip
          have nc2 := (xb_leN (xb_lit (x := (24 : Int32)) 24 rfl) hy.1 (by omega) (by omega)).mp c2
          exact W.vret hx hb hr (fun t ht_ hW => ⟨⟨σ, rfl, (((if_neg c1).trans ((if_pos c2))).symm.trans hF), by rw [sp_B, ht_]; exact hP⟩, hS.F ht_⟩) hS.2.2 d_Channel_keep_64
        · skip
          have nc2 := mt (xb_leN (xb_lit (x := (24 : Int32)) 24 rfl) hy.1 (by omega) (by omega)).mpr c2
          refine lv_aload_n hx hb d_Channel_keep_19 rfl (lv_at hl 1 rfl) ?_
          refine sp_g_Channel (v := .ref (α (C + 3))) hx hb ht hown hK hP iC 1 (by decide) (ht _ xw193) (fun _ h_ => h_) rfl d_Channel_keep_20 ?_
          refine lv_aload_n hx hb d_Channel_keep_23 rfl (lv_at hl 1 rfl) ?_
          refine sp_g_Channel (v := .int (σ.1 C 6)) hx hb ht hown hK hP iC 6 (by decide) (ht _ xw202) (fun _ h_ => h_) rfl d_Channel_keep_24 ?_
          refine lv_aload_n hx hb d_Channel_keep_27 rfl (lv_at hl 1 rfl) ?_
          refine sp_g_Channel (v := .int (σ.1 C 7)) hx hb ht hown hK hP iC 7 (by decide) (ht _ xw203) (fun _ h_ => h_) rfl d_Channel_keep_28 ?_
          refine lv_iadd hx hb d_Channel_keep_31 ?_
          refine lv_bipush (v := 24) hx hb d_Channel_keep_32 (by decide) ?_
          refine lv_irem hx hb d_Channel_keep_34 (by decide) ?_
          refine lv_lload_n hx hb d_Channel_keep_35 rfl (lv_at hl 3 rfl) ?_
          refine lv_bipush (v := 8) hx hb d_Channel_keep_36 (by decide) ?_
          refine lv_iload hx hb d_Channel_keep_38 (lv_at hl 0 rfl) ?_
          refine lv_imul hx hb d_Channel_keep_40 ?_
          refine lv_lushr (v := (xb_lushr x2 ((8 : Int32) * left_))) hx hb d_Channel_keep_41 rfl ?_
          refine lv_ldc2 hx hb hown (ht _ xw824) d_Channel_keep_42 ?_
          refine lv_land hx hb d_Channel_keep_45 ?_
          refine lv_l2i (v := ((xb_lushr x2 ((8 : Int32) * left_)) &&& (255 : Int64)).toInt32) hx hb d_Channel_keep_46 (by rfl) ?_
          refine sp_pa_inbox (n := (((σ.1 C 6).toNatClampNeg + (σ.1 C 7).toNatClampNeg) % 24)) (x := ((xb_lushr x2 ((8 : Int32) * left_)) &&& (255 : Int64)).toInt32) hx hb hK hP (by omega) hD hS (xb_in (xb_nr (xb_na hz.1 hy.1) (xb_lit (x := (24 : Int32)) 24 rfl) (by omega) (by decide) (by decide)) (by omega) (by decide)) (xb_cl (xb_nr (xb_na hz.1 hy.1) (xb_lit (x := (24 : Int32)) 24 rfl) (by omega) (by decide) (by decide)) (by omega)) d_Channel_keep_47 (fun H locs hP hS => ?_)
          refine lv_aload_n hx hb d_Channel_keep_48 rfl (lv_at hl 1 rfl) ?_
          refine lv_dup hx hb d_Channel_keep_49 rfl ?_
          refine sp_g_Channel (v := .int (σ.1 C 7)) hx hb ht hown hK hP iC 7 (by decide) (ht _ xw203) (fun _ h_ => h_) (congrArg (fun z_ => some (Value.int z_)) ((xb_i_nk (by omega)))) d_Channel_keep_50 ?_
          refine lv_iconst (v := 1) hx hb d_Channel_keep_53 (by decide) ?_
          refine lv_iadd hx hb d_Channel_keep_54 ?_
          refine sp_pi_Channel (x := ((σ.1 C 7) + (1 : Int32))) (ty := .int) hx hb ht hown hK hP iC 7 (by decide) (ht _ xw203) (fun _ h_ => h_) hD hS rfl (by decide +kernel) rfl rfl hf_Channel_7 d_Channel_keep_55 (fun H locs hP hS => ?_)
          refine lv_iinc (v := (left_ + (-1 : Int32))) (k := 0) (lv' := [(4, .int (left_ + (-1 : Int32))), (0, .ref (α C)), (1, .int x1), (2, .long x2)]) hx hb d_Channel_keep_58 hl rfl (by rfl) (by decide) rfl (fun ls hl => ?_)
          refine lv_goto (tgt := 5) hx hb d_Channel_keep_61 (by decide) ?_
          exact ih _ _ ls _ _ (by rw [xb_dec c1]; omega) (ok_held (ok_si ok (by omega) (by omega)) iC ⟨_, by omega, xb_na hy.1 (xb_lit (x := (1 : Int32)) 1 rfl)⟩) hl hP hS (((if_neg c1).trans ((if_neg c2))).symm.trans hF)
  have hl := lv_entry ([.ref (α C), .int x1, .long x2]) (n := 5) (Nat.le_of_ble_eq_true rfl)
  rw [lg_entry_eq]
  generalize (lg_sl ([.ref (α C), .int x1, .long x2]) ++ List.replicate (5 - (lg_sl ([.ref (α C), .int x1, .long x2])).length) Slot.unset).toArray = ls at hl ⊢
  have hl : lv_has ls 5 [(0, .ref (α C)), (1, .int x1), (2, .long x2)] := hl
  refine lv_iload_n hx hb d_Channel_keep_0 rfl (lv_at hl 1 rfl) ?_
  refine lv_iconst (v := 1) hx hb d_Channel_keep_1 (by decide) ?_
  refine lv_isub hx hb d_Channel_keep_2 ?_
  refine lv_istore (lv' := [(4, .int (x1 - (1 : Int32))), (0, .ref (α C)), (1, .int x1), (2, .long x2)]) hx hb d_Channel_keep_3 hl (by decide) rfl (fun ls hl => ?_)
  exact loop 8 σ _ ls _ _ hc ok hl hP hS rfl
abbrev b_Channel_takeData : ByteArray := prog_2_method_9_code
def y_Channel_takeData : MethodName := ⟨"SecurePair$Channel", "takeData", "(JJ)I"⟩
abbrev w_Channel_takeData : List Cond := .code y_Channel_takeData b_Channel_takeData 5 (some .int) :: xa
theorem d_Channel_takeData_0 : decode b_Channel_takeData 0 = .ok (.aload_n 0, 1) := by decide +kernel
theorem d_Channel_takeData_1 : decode b_Channel_takeData 1 = .ok (.invokevirtual 51, 3) := by decide +kernel
theorem d_Channel_takeData_4 : decode b_Channel_takeData 4 = .ok (.ifCond .eq 27, 3) := by decide +kernel
theorem d_Channel_takeData_7 : decode b_Channel_takeData 7 = .ok (.lload_n 1, 1) := by decide +kernel
theorem d_Channel_takeData_8 : decode b_Channel_takeData 8 = .ok (.lconst 1, 1) := by decide +kernel
theorem d_Channel_takeData_9 : decode b_Channel_takeData 9 = .ok (.lcmp, 1) := by decide +kernel
theorem d_Channel_takeData_10 : decode b_Channel_takeData 10 = .ok (.ifCond .lt 21, 3) := by decide +kernel
theorem d_Channel_takeData_13 : decode b_Channel_takeData 13 = .ok (.lload_n 1, 1) := by decide +kernel
theorem d_Channel_takeData_14 : decode b_Channel_takeData 14 = .ok (.ldc2_w 57, 3) := by decide +kernel
theorem d_Channel_takeData_17 : decode b_Channel_takeData 17 = .ok (.lcmp, 1) := by decide +kernel
theorem d_Channel_takeData_18 : decode b_Channel_takeData 18 = .ok (.ifCond .gt 13, 3) := by decide +kernel
theorem d_Channel_takeData_21 : decode b_Channel_takeData 21 = .ok (.lload_n 1, 1) := by decide +kernel
theorem d_Channel_takeData_22 : decode b_Channel_takeData 22 = .ok (.aload_n 0, 1) := by decide +kernel
theorem d_Channel_takeData_23 : decode b_Channel_takeData 23 = .ok (.getfield 29, 3) := by decide +kernel
theorem d_Channel_takeData_26 : decode b_Channel_takeData 26 = .ok (.i2l, 1) := by decide +kernel
theorem d_Channel_takeData_27 : decode b_Channel_takeData 27 = .ok (.lcmp, 1) := by decide +kernel
theorem d_Channel_takeData_28 : decode b_Channel_takeData 28 = .ok (.ifCond .le 6, 3) := by decide +kernel
theorem d_Channel_takeData_31 : decode b_Channel_takeData 31 = .ok (.bipush 7, 2) := by decide +kernel
theorem d_Channel_takeData_33 : decode b_Channel_takeData 33 = .ok (.ireturn, 1) := by decide +kernel
theorem d_Channel_takeData_34 : decode b_Channel_takeData 34 = .ok (.aload_n 0, 1) := by decide +kernel
theorem d_Channel_takeData_35 : decode b_Channel_takeData 35 = .ok (.dup, 1) := by decide +kernel
theorem d_Channel_takeData_36 : decode b_Channel_takeData 36 = .ok (.getfield 29, 3) := by decide +kernel
theorem d_Channel_takeData_39 : decode b_Channel_takeData 39 = .ok (.lload_n 1, 1) := by decide +kernel
theorem d_Channel_takeData_40 : decode b_Channel_takeData 40 = .ok (.l2i, 1) := by decide +kernel
theorem d_Channel_takeData_41 : decode b_Channel_takeData 41 = .ok (.isub, 1) := by decide +kernel
theorem d_Channel_takeData_42 : decode b_Channel_takeData 42 = .ok (.putfield 29, 3) := by decide +kernel
theorem d_Channel_takeData_45 : decode b_Channel_takeData 45 = .ok (.aload_n 0, 1) := by decide +kernel
theorem d_Channel_takeData_46 : decode b_Channel_takeData 46 = .ok (.getfield 19, 3) := by decide +kernel
theorem d_Channel_takeData_49 : decode b_Channel_takeData 49 = .ok (.iconst 2, 1) := by decide +kernel
theorem d_Channel_takeData_50 : decode b_Channel_takeData 50 = .ok (.if_icmp .ne 10, 3) := by decide +kernel
theorem d_Channel_takeData_53 : decode b_Channel_takeData 53 = .ok (.aload_n 0, 1) := by decide +kernel
theorem d_Channel_takeData_54 : decode b_Channel_takeData 54 = .ok (.lload_n 1, 1) := by decide +kernel
theorem d_Channel_takeData_55 : decode b_Channel_takeData 55 = .ok (.l2i, 1) := by decide +kernel
theorem d_Channel_takeData_56 : decode b_Channel_takeData 56 = .ok (.lload_n 3, 1) := by decide +kernel
theorem d_Channel_takeData_57 : decode b_Channel_takeData 57 = .ok (.invokevirtual 59, 3) := by decide +kernel
theorem d_Channel_takeData_60 : decode b_Channel_takeData 60 = .ok (.iconst 0, 1) := by decide +kernel
theorem d_Channel_takeData_61 : decode b_Channel_takeData 61 = .ok (.ireturn, 1) := by decide +kernel
theorem xw819 : (Cond.constantLong "SecurePair$Channel" (57 : Nat) (8 : Int64)) ∈ xa := xa_t 819 (by decide +kernel) (by decide +kernel)
theorem xw820 : (Cond.methodLink "SecurePair$Channel" (59 : Nat) ({ cls := "SecurePair$Channel", name := "keep", desc := "(IJ)V" } : MethodName)) ∈ xa := xa_t 820 (by decide +kernel) (by decide +kernel)
theorem xw821 : (Cond.instanceMethod ({ cls := "SecurePair$Channel", name := "keep", desc := "(IJ)V" } : MethodName)) ∈ xa := xa_t 821 (by decide +kernel) (by decide +kernel)
theorem xw822 : (Cond.selects "SecurePair$Channel" ({ cls := "SecurePair$Channel", name := "keep", desc := "(IJ)V" } : MethodName) ({ cls := "SecurePair$Channel", name := "keep", desc := "(IJ)V" } : MethodName)) ∈ xa := xa_t 822 (by decide +kernel) (by decide +kernel)
theorem xw823 : (Cond.code ({ cls := "SecurePair$Channel", name := "keep", desc := "(IJ)V" } : MethodName) prog_2_method_10_code (5 : Nat) (Option.none : Option ClassFile.FieldType)) ∈ xa := xa_t 823 (by decide +kernel) (by decide +kernel)
def p_Ch_data (C : Nat) (x1 : Int64) (x2 : Int64) (σ : xb_St) : Int32 × xb_St := (if (p_Ch_isConn C σ) = 0 then ((7 : Int32), σ) else (if x1 < (1 : Int64) then ((7 : Int32), σ) else (if (8 : Int64) < x1 then ((7 : Int32), σ) else (if x1 ≤ (σ.1 C 5).toInt64 then (if (σ.1 C 2) = (2 : Int32) then ((0 : Int32), (p_Ch_keep C x1.toInt32 x2 (xb_si σ C 5 ((σ.1 C 5) - x1.toInt32)))) else ((0 : Int32), (xb_si σ C 5 ((σ.1 C 5) - x1.toInt32)))) else ((7 : Int32), σ)))))
set_option maxHeartbeats 4000000 in
set_option maxRecDepth 100000 in
theorem c_Channel_takeData (l : Launch) (D : va_G) (α : Nat → Nat) (κ : Nat → ClassId) (hα : xb_inj α 35) (σ : xb_St) (C : Nat) (x1 : Int64) (x2 : Int64) (iC : sp_isChannel C) (ok : sp_ok σ) : Met l y_Channel_takeData w_Channel_takeData ({ frames := 1, cells := 0, slots := 0, locals := 24 }) (va_Pc ([.ref (α C), .long x1, .long x2]) (sp_Pre D α κ σ)) (va_Qi (fun r (u : xb_St) => r = (p_Ch_data C x1 x2 σ).1 ∧ u = (p_Ch_data C x1 x2 σ).2) (sp_B D α κ) (xb_A α 35)) 0 0 (xb_A α 35) := by
  refine Met.ofW (cc := b_Channel_takeData) (maxL := 5) (ret := (some .int)) (by decide) rfl ?_
  intro p e s m args below meth c s₁ B_ hml hv
  obtain ⟨rfl, hP, hK, hN⟩ := hv
  have hx := B_.exec
  have hb := B_.bytes
  have hr := B_.returns
  have hts := atoms_spec (ws := w_Channel_takeData) B_.pre
  have ht : ∀ w ∈ xa, w.before _ s = true := fun w h => hts w (List.mem_cons_of_mem _ h)
  have hown : s.vm.findClass "SecurePair$Channel" = some m.cls := findClass_of_methodNamed B_.named
  have hlocks := B_.notSynchronized
  have hD := sp_D hα κ
  have hS : va_S (xb_A α 35) s.heap s.heap [] := va_S.rf
  have hl := lv_entry ([.ref (α C), .long x1, .long x2]) (n := 5) (Nat.le_of_ble_eq_true rfl)
  rw [lg_entry_eq]
  generalize (lg_sl ([.ref (α C), .long x1, .long x2]) ++ List.replicate (5 - (lg_sl ([.ref (α C), .long x1, .long x2])).length) Slot.unset).toArray = ls at hl ⊢
  have hl : lv_has ls 5 [(0, .ref (α C)), (1, .long x1), (3, .long x2)] := hl
  refine lv_aload_n hx hb d_Channel_takeData_0 rfl (lv_at hl 0 rfl) ?_
  refine sp_ci (va_runV (As := []) (rest := []) ⟨hx, hb, hml, hown, hts⟩ (c_Channel_isConnected l D α κ hα σ C iC) (cwV 0 hts (xa_V xw810 xw811 xw812 xw9 xw813) rfl rfl rfl (by decide +kernel) ⟨Nat.le_of_ble_eq_true rfl, Nat.le_of_ble_eq_true rfl⟩) ⟨sp_blind, va_recv hK hP rfl (sp_at_Channel iC), sp_pre hP hK hN _⟩ rfl rfl hl.1 rfl (lv_room (Nat.le_of_ble_eq_true rfl)) d_Channel_takeData_1 ⟨Nat.le_of_ble_eq_true rfl, Nat.le_of_ble_eq_true rfl⟩) hS (fun _ h_ => h_) (fun H locs hP hS => ?_)
  refine lv_if_eq (tgt := 31) hx hb d_Channel_takeData_4 (by decide) (fun c1 => ?_) (fun c1 => ?_)
  · skip
    refine lv_bipush (v := 7) hx hb d_Channel_takeData_31 (by decide) ?_
    exact W.iret (v := (7 : Int32)) hx hb hr (fun t ht_ hW => ⟨⟨(7 : Int32), σ, rfl, ⟨congrArg Prod.fst ((((if_pos c1)).symm) : ((7 : Int32), σ) = p_Ch_data C x1 x2 σ), congrArg Prod.snd ((((if_pos c1)).symm) : ((7 : Int32), σ) = p_Ch_data C x1 x2 σ)⟩, by rw [sp_B, ht_]; exact hP⟩, hS.F ht_⟩) hS.2.2 d_Channel_takeData_33
  · skip
    refine lv_lload_n hx hb d_Channel_takeData_7 rfl (lv_at hl 1 rfl) ?_
    refine lv_lconst (v := 1) hx hb d_Channel_takeData_8 (by decide) ?_
    refine xb_llt (tgt := 31) hx hb d_Channel_takeData_9 d_Channel_takeData_10 (by decide) (fun c2 => ?_) (fun c2 => ?_)
    · skip
      refine lv_bipush (v := 7) hx hb d_Channel_takeData_31 (by decide) ?_
      exact W.iret (v := (7 : Int32)) hx hb hr (fun t ht_ hW => ⟨⟨(7 : Int32), σ, rfl, ⟨congrArg Prod.fst ((((if_neg c1).trans ((if_pos c2))).symm) : ((7 : Int32), σ) = p_Ch_data C x1 x2 σ), congrArg Prod.snd ((((if_neg c1).trans ((if_pos c2))).symm) : ((7 : Int32), σ) = p_Ch_data C x1 x2 σ)⟩, by rw [sp_B, ht_]; exact hP⟩, hS.F ht_⟩) hS.2.2 d_Channel_takeData_33
    · skip
      refine lv_lload_n hx hb d_Channel_takeData_13 rfl (lv_at hl 1 rfl) ?_
      refine lv_ldc2 hx hb hown (ht _ xw819) d_Channel_takeData_14 ?_
      refine xb_lgt (tgt := 31) hx hb d_Channel_takeData_17 d_Channel_takeData_18 (by decide) (fun c3 => ?_) (fun c3 => ?_)
      · skip
        refine lv_bipush (v := 7) hx hb d_Channel_takeData_31 (by decide) ?_
        exact W.iret (v := (7 : Int32)) hx hb hr (fun t ht_ hW => ⟨⟨(7 : Int32), σ, rfl, ⟨congrArg Prod.fst ((((if_neg c1).trans ((if_neg c2).trans ((if_pos c3)))).symm) : ((7 : Int32), σ) = p_Ch_data C x1 x2 σ), congrArg Prod.snd ((((if_neg c1).trans ((if_neg c2).trans ((if_pos c3)))).symm) : ((7 : Int32), σ) = p_Ch_data C x1 x2 σ)⟩, by rw [sp_B, ht_]; exact hP⟩, hS.F ht_⟩) hS.2.2 d_Channel_takeData_33
      · skip
        refine lv_lload_n hx hb d_Channel_takeData_21 rfl (lv_at hl 1 rfl) ?_
        refine lv_aload_n hx hb d_Channel_takeData_22 rfl (lv_at hl 0 rfl) ?_
        refine sp_g_Channel (v := .int (σ.1 C 5)) hx hb ht hown hK hP iC 5 (by decide) (ht _ xw200) (fun _ h_ => h_) rfl d_Channel_takeData_23 ?_
        refine lv_i2l (v := (σ.1 C 5).toInt64) hx hb d_Channel_takeData_26 (by rfl) ?_
        refine xb_lle (tgt := 34) hx hb d_Channel_takeData_27 d_Channel_takeData_28 (by decide) (fun c4 => ?_) (fun c4 => ?_)
        · skip
          refine lv_aload_n hx hb d_Channel_takeData_34 rfl (lv_at hl 0 rfl) ?_
          refine lv_dup hx hb d_Channel_takeData_35 rfl ?_
          refine sp_g_Channel (v := .int (σ.1 C 5)) hx hb ht hown hK hP iC 5 (by decide) (ht _ xw200) (fun _ h_ => h_) rfl d_Channel_takeData_36 ?_
          refine lv_lload_n hx hb d_Channel_takeData_39 rfl (lv_at hl 1 rfl) ?_
          refine lv_l2i (v := x1.toInt32) hx hb d_Channel_takeData_40 (by rfl) ?_
          refine lv_isub hx hb d_Channel_takeData_41 ?_
          refine sp_pi_Channel (x := ((σ.1 C 5) - x1.toInt32)) (ty := .int) hx hb ht hown hK hP iC 5 (by decide) (ht _ xw200) (fun _ h_ => h_) hD hS rfl (by decide +kernel) rfl rfl hf_Channel_5 d_Channel_takeData_42 (fun H locs hP hS => ?_)
          refine lv_aload_n hx hb d_Channel_takeData_45 rfl (lv_at hl 0 rfl) ?_
          refine sp_g_Channel (v := .int (σ.1 C 2)) hx hb ht hown hK hP iC 2 (by decide) (ht _ xw194) (fun _ h_ => h_) (congrArg (fun z_ => some (Value.int z_)) ((xb_i_nj (by decide)))) d_Channel_takeData_46 ?_
          refine lv_iconst (v := 2) hx hb d_Channel_takeData_49 (by decide) ?_
          refine lv_icmp_ne (tgt := 60) hx hb d_Channel_takeData_50 (by decide) (fun c5 => ?_) (fun c5 => ?_)
          · skip
            refine lv_iconst (v := 0) hx hb d_Channel_takeData_60 (by decide) ?_
            exact W.iret (v := (0 : Int32)) hx hb hr (fun t ht_ hW => ⟨⟨(0 : Int32), (xb_si σ C 5 ((σ.1 C 5) - x1.toInt32)), rfl, ⟨congrArg Prod.fst ((((if_neg c1).trans ((if_neg c2).trans ((if_neg c3).trans ((if_pos c4).trans ((if_neg c5)))))).symm) : ((0 : Int32), (xb_si σ C 5 ((σ.1 C 5) - x1.toInt32))) = p_Ch_data C x1 x2 σ), congrArg Prod.snd ((((if_neg c1).trans ((if_neg c2).trans ((if_neg c3).trans ((if_pos c4).trans ((if_neg c5)))))).symm) : ((0 : Int32), (xb_si σ C 5 ((σ.1 C 5) - x1.toInt32))) = p_Ch_data C x1 x2 σ)⟩, by rw [sp_B, ht_]; exact hP⟩, hS.F ht_⟩) hS.2.2 d_Channel_takeData_61
          · skip
            refine lv_aload_n hx hb d_Channel_takeData_53 rfl (lv_at hl 0 rfl) ?_
            refine lv_lload_n hx hb d_Channel_takeData_54 rfl (lv_at hl 1 rfl) ?_
            refine lv_l2i (v := x1.toInt32) hx hb d_Channel_takeData_55 (by rfl) ?_
            refine lv_lload_n hx hb d_Channel_takeData_56 rfl (lv_at hl 2 rfl) ?_
            refine sp_cv (va_runV (As := [.int x1.toInt32, .long x2]) (rest := []) ⟨hx, hb, hml, hown, hts⟩ (c_Channel_keep l D α κ hα (xb_si σ C 5 ((σ.1 C 5) - x1.toInt32)) C x1.toInt32 x2 iC (ok_si ok (by omega) (by omega)) (sp_c8 c2 c3)) (cwV 2 hts (xa_V xw820 xw821 xw822 xw9 xw823) rfl rfl rfl (by decide +kernel) ⟨Nat.le_of_ble_eq_true rfl, Nat.le_of_ble_eq_true rfl⟩) ⟨sp_blind, va_recv hK hP rfl (sp_at_Channel iC), sp_pre hP hK hN _⟩ rfl rfl hl.1 rfl (lv_room (Nat.le_of_ble_eq_true rfl)) d_Channel_takeData_57 ⟨Nat.le_of_ble_eq_true rfl, Nat.le_of_ble_eq_true rfl⟩) hS (fun _ h_ => h_) (fun H locs hP hS => ?_)
            obtain ⟨τ1, hτ1⟩ : ∃ t_, t_ = (p_Ch_keep C x1.toInt32 x2 (xb_si σ C 5 ((σ.1 C 5) - x1.toInt32))) := ⟨_, rfl⟩
            rw [← hτ1] at hP
            have okτ1 : sp_ok τ1 := by rw [hτ1]; exact (ok_p_Ch_keep C x1.toInt32 x2 iC (ok_si ok (by omega) (by omega)))
            refine lv_iconst (v := 0) hx hb d_Channel_takeData_60 (by decide) ?_
            exact W.iret (v := (0 : Int32)) hx hb hr (fun t ht_ hW => ⟨⟨(0 : Int32), τ1, rfl, ⟨congrArg Prod.fst (((by subst hτ1; exact ((if_neg c1).trans ((if_neg c2).trans ((if_neg c3).trans ((if_pos c4).trans ((if_pos c5)))))).symm)) : ((0 : Int32), τ1) = p_Ch_data C x1 x2 σ), congrArg Prod.snd (((by subst hτ1; exact ((if_neg c1).trans ((if_neg c2).trans ((if_neg c3).trans ((if_pos c4).trans ((if_pos c5)))))).symm)) : ((0 : Int32), τ1) = p_Ch_data C x1 x2 σ)⟩, by rw [sp_B, ht_]; exact hP⟩, hS.F ht_⟩) hS.2.2 d_Channel_takeData_61
        · skip
          refine lv_bipush (v := 7) hx hb d_Channel_takeData_31 (by decide) ?_
          exact W.iret (v := (7 : Int32)) hx hb hr (fun t ht_ hW => ⟨⟨(7 : Int32), σ, rfl, ⟨congrArg Prod.fst ((((if_neg c1).trans ((if_neg c2).trans ((if_neg c3).trans ((if_neg c4))))).symm) : ((7 : Int32), σ) = p_Ch_data C x1 x2 σ), congrArg Prod.snd ((((if_neg c1).trans ((if_neg c2).trans ((if_neg c3).trans ((if_neg c4))))).symm) : ((7 : Int32), σ) = p_Ch_data C x1 x2 σ)⟩, by rw [sp_B, ht_]; exact hP⟩, hS.F ht_⟩) hS.2.2 d_Channel_takeData_33
theorem ok_p_Ch_data {σ : xb_St} (C : Nat) (x1 : Int64) (x2 : Int64) (iC : sp_isChannel C) (ok : sp_ok σ) : sp_ok (p_Ch_data C x1 x2 σ).2 := by
  unfold p_Ch_data
  by_cases c1 : (p_Ch_isConn C σ) = 0
  · rw [if_pos c1]
    exact ok
  · rw [if_neg c1]
    by_cases c2 : x1 < (1 : Int64)
    · rw [if_pos c2]
      exact ok
    · rw [if_neg c2]
      by_cases c3 : (8 : Int64) < x1
      · rw [if_pos c3]
        exact ok
      · rw [if_neg c3]
        by_cases c4 : x1 ≤ (σ.1 C 5).toInt64
        · rw [if_pos c4]
          by_cases c5 : (σ.1 C 2) = (2 : Int32)
          · rw [if_pos c5]
            exact (ok_p_Ch_keep C x1.toInt32 x2 iC (ok_si ok (by omega) (by omega)))
          · rw [if_neg c5]
            exact (ok_si ok (by omega) (by omega))
        · rw [if_neg c4]
          exact ok
