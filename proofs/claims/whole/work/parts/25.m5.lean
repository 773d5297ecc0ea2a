theorem xb_nl {x : Int32} (h : 0 ≤ x) : ¬ x < 0 := by
  rw [Int32.le_iff_toInt_le] at h
  rw [Int32.lt_iff_toInt_lt]
  omega
theorem mk_3 {σ : xb_St} {q : Nat} {v31 v32 v33 : Int32} (h : sm_ok σ) (hv : ∃ a b c : Nat, a + b + c ≤ 24 ∧ v31 = nI a ∧ v32 = nI b ∧ v33 = nI c) : sm_ok (xb_si (xb_si (xb_si σ 31 q v31) 32 q v32) 33 q v33) := by
  refine ⟨fun e he => ?_, fun k hk => ?_⟩
  · rw [xb_i_nk (by decide), xb_i_nk (by decide), xb_i_nk (by decide)]; exact h.1 e he
  · by_cases e : k = q
    · subst e
      rw [xb_i_nk (by decide), xb_i_nk (by decide), xb_i_hit, xb_i_nk (K' := 32) (by decide), xb_i_hit, xb_i_hit]; exact hv
    · rw [xb_i_nk (by decide), xb_i_nk (by decide), xb_i_nj e, xb_i_nk (K' := 32) (by decide), xb_i_nj e, xb_i_nk (K' := 32) (by decide), xb_i_nj e, xb_i_nk (K' := 33) (by decide), xb_i_nk (K' := 33) (by decide)]; exact h.2 k hk
theorem mk_room {S : xb_St} {q : Nat} (h : sm_ok S) (h0 : S.1 32 q = 0 ∧ S.1 33 q = 0) : sm_ok (xb_si S 31 q (24 : Int32)) := by
  refine ⟨fun e he => ?_, fun k hk => ?_⟩
  · rw [xb_i_nk (by decide)]; exact h.1 e he
  · rw [xb_i_nk (K' := 32) (by decide), xb_i_nk (K' := 33) (by decide)]
    by_cases e : k = q
    · subst e; rw [xb_i_hit]; exact ⟨24, 0, 0, by decide, rfl, h0.1, h0.2⟩
    · rw [xb_i_nj e]; exact h.2 k hk
theorem mk_many0 {S : xb_St} {q : Nat} (h : sm_ok S) : sm_ok (xb_si S 32 q (0 : Int32)) := by
  refine ⟨fun e he => ?_, fun k hk => ?_⟩
  · rw [xb_i_nk (by decide)]; exact h.1 e he
  · rw [xb_i_nk (K' := 31) (by decide), xb_i_nk (K' := 33) (by decide)]
    obtain ⟨a, b, c, h1, h2, h3, h4⟩ := h.2 k hk
    by_cases e : k = q
    · subst e; rw [xb_i_hit]; exact ⟨a, 0, c, by omega, h2, rfl, h4⟩
    · rw [xb_i_nj e]; exact ⟨a, b, c, h1, h2, h3, h4⟩
theorem q_free_n {e : Nat} {σ : xb_St} (h : ¬ q_free e σ < 0) : q_free e σ = nI (q_free e σ).toNatClampNeg ∧ (q_free e σ).toNatClampNeg < 3 := by
  have h3 : q_free e σ = 0 ∨ q_free e σ = 1 ∨ q_free e σ = 2 := by
    unfold q_free at h ⊢
    split
    · exact Or.inl rfl
    · rename_i h1
      rw [if_neg h1] at h
      split
      · exact Or.inr (Or.inl rfl)
      · rename_i h2
        rw [if_neg h2] at h
        split
        · exact Or.inr (Or.inr rfl)
        · rename_i h4
          rw [if_neg h4] at h
          exact absurd (by decide) h
  rcases h3 with e3 | e3 | e3 <;> rw [e3] <;> decide
abbrev b_M_release : ByteArray := prog_12_method_30_code
def y_M_release : MethodName := ⟨"SecurePairModel", "release", "(I)V"⟩
abbrev w_M_release : List Cond := .code y_M_release b_M_release 2 none :: xa
theorem d_M_release_0 : decode b_M_release 0 = .ok (.aload_n 0, 1) := by decide +kernel
theorem d_M_release_1 : decode b_M_release 1 = .ok (.getfield 99, 3) := by decide +kernel
theorem d_M_release_4 : decode b_M_release 4 = .ok (.iload_n 1, 1) := by decide +kernel
theorem d_M_release_5 : decode b_M_release 5 = .ok (.iconst 0, 1) := by decide +kernel
theorem d_M_release_6 : decode b_M_release 6 = .ok (.iastore, 1) := by decide +kernel
theorem d_M_release_7 : decode b_M_release 7 = .ok (.aload_n 0, 1) := by decide +kernel
theorem d_M_release_8 : decode b_M_release 8 = .ok (.getfield 102, 3) := by decide +kernel
theorem d_M_release_11 : decode b_M_release 11 = .ok (.iload_n 1, 1) := by decide +kernel
theorem d_M_release_12 : decode b_M_release 12 = .ok (.lconst 0, 1) := by decide +kernel
theorem d_M_release_13 : decode b_M_release 13 = .ok (.lastore, 1) := by decide +kernel
theorem d_M_release_14 : decode b_M_release 14 = .ok (.aload_n 0, 1) := by decide +kernel
theorem d_M_release_15 : decode b_M_release 15 = .ok (.getfield 105, 3) := by decide +kernel
theorem d_M_release_18 : decode b_M_release 18 = .ok (.iload_n 1, 1) := by decide +kernel
theorem d_M_release_19 : decode b_M_release 19 = .ok (.lconst 0, 1) := by decide +kernel
theorem d_M_release_20 : decode b_M_release 20 = .ok (.lastore, 1) := by decide +kernel
theorem d_M_release_21 : decode b_M_release 21 = .ok (.aload_n 0, 1) := by decide +kernel
theorem d_M_release_22 : decode b_M_release 22 = .ok (.getfield 108, 3) := by decide +kernel
theorem d_M_release_25 : decode b_M_release 25 = .ok (.iload_n 1, 1) := by decide +kernel
theorem d_M_release_26 : decode b_M_release 26 = .ok (.iconst 0, 1) := by decide +kernel
theorem d_M_release_27 : decode b_M_release 27 = .ok (.iastore, 1) := by decide +kernel
theorem d_M_release_28 : decode b_M_release 28 = .ok (.aload_n 0, 1) := by decide +kernel
theorem d_M_release_29 : decode b_M_release 29 = .ok (.getfield 111, 3) := by decide +kernel
theorem d_M_release_32 : decode b_M_release 32 = .ok (.iload_n 1, 1) := by decide +kernel
theorem d_M_release_33 : decode b_M_release 33 = .ok (.iconst 0, 1) := by decide +kernel
theorem d_M_release_34 : decode b_M_release 34 = .ok (.iastore, 1) := by decide +kernel
theorem d_M_release_35 : decode b_M_release 35 = .ok (.aload_n 0, 1) := by decide +kernel
theorem d_M_release_36 : decode b_M_release 36 = .ok (.getfield 114, 3) := by decide +kernel
theorem d_M_release_39 : decode b_M_release 39 = .ok (.iload_n 1, 1) := by decide +kernel
theorem d_M_release_40 : decode b_M_release 40 = .ok (.iconst 0, 1) := by decide +kernel
theorem d_M_release_41 : decode b_M_release 41 = .ok (.iastore, 1) := by decide +kernel
theorem d_M_release_42 : decode b_M_release 42 = .ok (.return_, 1) := by decide +kernel
theorem xw987 : (Cond.fieldLink "SecurePairModel" (114 : Nat) "SecurePairModel" "taken" "[I") ∈ xa := xa_t 987 (by decide +kernel) (by decide +kernel)
def q_release (q1 : Nat) (σ : xb_St) : xb_St := (xb_si (xb_si (xb_si (xb_sl (xb_sl (xb_si σ 28 q1 (0 : Int32)) 29 q1 (0 : Int64)) 30 q1 (0 : Int64)) 31 q1 (0 : Int32)) 32 q1 (0 : Int32)) 33 q1 (0 : Int32))
set_option maxHeartbeats 4000000 in
set_option maxRecDepth 100000 in
theorem c_M_release (l : Launch) (D : va_G) (α : Nat → Nat) (κ : Nat → ClassId) (hα : xb_inj α 35) (σ : xb_St) (x_q1 : Int32) (q1 : Nat) (e_q1 : x_q1 = nI q1) (b_q1 : q1 < 6) : Met l y_M_release w_M_release ({ frames := 0, cells := 0, slots := 0, locals := 0 }) (va_Pc ([.ref (α 0), .int x_q1]) (sm_Pre D α κ σ)) (va_Qv (fun u : xb_St => u = q_release q1 σ) (sm_B D α κ) (xb_A α 35)) 0 0 (xb_A α 35) := by
  subst e_q1
  refine Met.ofW (cc := b_M_release) (maxL := 2) (ret := none) (by decide) rfl ?_
  intro p e s m args below meth c s₁ B_ hml hv
  obtain ⟨rfl, hP, hK, hN⟩ := hv
  have hx := B_.exec
  have hb := B_.bytes
  have hr := B_.returns
  have hts := atoms_spec (ws := w_M_release) B_.pre
  have ht : ∀ w ∈ xa, w.before _ s = true := fun w h => hts w (List.mem_cons_of_mem _ h)
  have hown : s.vm.findClass "SecurePairModel" = some m.cls := findClass_of_methodNamed B_.named
  have hlocks := B_.notSynchronized
  have hD := sm_D hα κ
  have hS : va_S (xb_A α 35) s.heap s.heap [] := va_S.rf
  have hl := lv_entry ([.ref (α 0), .int (nI q1)]) (n := 2) (Nat.le_of_ble_eq_true rfl)
  rw [lg_entry_eq]
  generalize (lg_sl ([.ref (α 0), .int (nI q1)]) ++ List.replicate (2 - (lg_sl ([.ref (α 0), .int (nI q1)])).length) Slot.unset).toArray = ls at hl ⊢
  have hl : lv_has ls 2 [(0, .ref (α 0)), (1, .int (nI q1))] := hl
  refine lv_aload_n hx hb d_M_release_0 rfl (lv_at hl 0 rfl) ?_
  refine sm_g (v := .ref (α 28)) hx hb ht hown hK hP 30 (by decide) (ht _ xw982) (fun _ h_ => h_) rfl d_M_release_1 ?_
  refine lv_iload_n hx hb d_M_release_4 rfl (lv_at hl 1 rfl) ?_
  refine lv_iconst (v := 0) hx hb d_M_release_5 (by decide) ?_
  refine sm_paI (L := 6) (n := q1) (x := (0 : Int32)) hx hb hK hP 28 27 rfl rfl hD hS (xb_in (xb_lit q1 rfl) (by omega) (by decide)) (xb_cl (xb_lit q1 rfl) (by omega)) sm_s_28 d_M_release_6 (fun H locs hP hS => ?_)
  refine lv_aload_n hx hb d_M_release_7 rfl (lv_at hl 0 rfl) ?_
  refine sm_g (v := .ref (α 29)) hx hb ht hown hK hP 31 (by decide) (ht _ xw983) (fun _ h_ => h_) rfl d_M_release_8 ?_
  refine lv_iload_n hx hb d_M_release_11 rfl (lv_at hl 1 rfl) ?_
  refine lv_lconst (v := 0) hx hb d_M_release_12 (by decide) ?_
  refine sm_paJ (L := 6) (n := q1) (x := (0 : Int64)) hx hb hK hP 29 28 rfl rfl hD hS (xb_in (xb_lit q1 rfl) (by omega) (by decide)) (xb_cl (xb_lit q1 rfl) (by omega)) sm_s_29 d_M_release_13 (fun H locs hP hS => ?_)
  refine lv_aload_n hx hb d_M_release_14 rfl (lv_at hl 0 rfl) ?_
  refine sm_g (v := .ref (α 30)) hx hb ht hown hK hP 32 (by decide) (ht _ xw984) (fun _ h_ => h_) rfl d_M_release_15 ?_
  refine lv_iload_n hx hb d_M_release_18 rfl (lv_at hl 1 rfl) ?_
  refine lv_lconst (v := 0) hx hb d_M_release_19 (by decide) ?_
  refine sm_paJ (L := 6) (n := q1) (x := (0 : Int64)) hx hb hK hP 30 29 rfl rfl hD hS (xb_in (xb_lit q1 rfl) (by omega) (by decide)) (xb_cl (xb_lit q1 rfl) (by omega)) sm_s_30 d_M_release_20 (fun H locs hP hS => ?_)
  refine lv_aload_n hx hb d_M_release_21 rfl (lv_at hl 0 rfl) ?_
  refine sm_g (v := .ref (α 31)) hx hb ht hown hK hP 33 (by decide) (ht _ xw985) (fun _ h_ => h_) rfl d_M_release_22 ?_
  refine lv_iload_n hx hb d_M_release_25 rfl (lv_at hl 1 rfl) ?_
  refine lv_iconst (v := 0) hx hb d_M_release_26 (by decide) ?_
  refine sm_paI (L := 6) (n := q1) (x := (0 : Int32)) hx hb hK hP 31 30 rfl rfl hD hS (xb_in (xb_lit q1 rfl) (by omega) (by decide)) (xb_cl (xb_lit q1 rfl) (by omega)) sm_s_31 d_M_release_27 (fun H locs hP hS => ?_)
  refine lv_aload_n hx hb d_M_release_28 rfl (lv_at hl 0 rfl) ?_
  refine sm_g (v := .ref (α 32)) hx hb ht hown hK hP 34 (by decide) (ht _ xw986) (fun _ h_ => h_) rfl d_M_release_29 ?_
  refine lv_iload_n hx hb d_M_release_32 rfl (lv_at hl 1 rfl) ?_
  refine lv_iconst (v := 0) hx hb d_M_release_33 (by decide) ?_
  refine sm_paI (L := 6) (n := q1) (x := (0 : Int32)) hx hb hK hP 32 31 rfl rfl hD hS (xb_in (xb_lit q1 rfl) (by omega) (by decide)) (xb_cl (xb_lit q1 rfl) (by omega)) sm_s_32 d_M_release_34 (fun H locs hP hS => ?_)
  refine lv_aload_n hx hb d_M_release_35 rfl (lv_at hl 0 rfl) ?_
  refine sm_g (v := .ref (α 33)) hx hb ht hown hK hP 35 (by decide) (ht _ xw987) (fun _ h_ => h_) rfl d_M_release_36 ?_
  refine lv_iload_n hx hb d_M_release_39 rfl (lv_at hl 1 rfl) ?_
  refine lv_iconst (v := 0) hx hb d_M_release_40 (by decide) ?_
  refine sm_paI (L := 6) (n := q1) (x := (0 : Int32)) hx hb hK hP 33 32 rfl rfl hD hS (xb_in (xb_lit q1 rfl) (by omega) (by decide)) (xb_cl (xb_lit q1 rfl) (by omega)) sm_s_33 d_M_release_41 (fun H locs hP hS => ?_)
  exact W.vret hx hb hr (fun t ht_ hW => ⟨⟨(xb_si (xb_si (xb_si (xb_sl (xb_sl (xb_si σ 28 q1 (0 : Int32)) 29 q1 (0 : Int64)) 30 q1 (0 : Int64)) 31 q1 (0 : Int32)) 32 q1 (0 : Int32)) 33 q1 (0 : Int32)), rfl, rfl, by rw [sm_B, ht_]; exact hP⟩, hS.F ht_⟩) hS.2.2 d_M_release_42
theorem ok_q_release {σ : xb_St} (q1 : Nat) (b_q1 : q1 < 6) (ok : sm_ok σ) : sm_ok (q_release q1 σ) := by
  unfold q_release
  exact mk_3 (mk_sl (mk_sl (mk_si ok (by decide)))) ⟨0, 0, 0, by decide, rfl, rfl, rfl⟩
theorem q_release_0 {q1 : Nat} {σ : xb_St} : (q_release q1 σ).1 32 q1 = 0 ∧ (q_release q1 σ).1 33 q1 = 0 := by
  unfold q_release
  refine ⟨?_, ?_⟩
  · rw [xb_i_nk (by decide), xb_i_hit]
  · rw [xb_i_hit]
abbrev b_M_opened : ByteArray := prog_12_method_31_code
def y_M_opened : MethodName := ⟨"SecurePairModel", "opened", "(IJJ)V"⟩
abbrev w_M_opened : List Cond := .code y_M_opened b_M_opened 8 none :: xa
theorem d_M_opened_0 : decode b_M_opened 0 = .ok (.aload_n 0, 1) := by decide +kernel
theorem d_M_opened_1 : decode b_M_opened 1 = .ok (.iload_n 1, 1) := by decide +kernel
theorem d_M_opened_2 : decode b_M_opened 2 = .ok (.invokevirtual 248, 3) := by decide +kernel
theorem d_M_opened_5 : decode b_M_opened 5 = .ok (.istore 6, 2) := by decide +kernel
theorem d_M_opened_7 : decode b_M_opened 7 = .ok (.iload 6, 2) := by decide +kernel
theorem d_M_opened_9 : decode b_M_opened 9 = .ok (.ifCond .ge 15, 3) := by decide +kernel
theorem d_M_opened_12 : decode b_M_opened 12 = .ok (.aload_n 0, 1) := by decide +kernel
theorem d_M_opened_13 : decode b_M_opened 13 = .ok (.iload_n 1, 1) := by decide +kernel
theorem d_M_opened_14 : decode b_M_opened 14 = .ok (.bipush 92, 2) := by decide +kernel
theorem d_M_opened_16 : decode b_M_opened 16 = .ok (.lload_n 2, 1) := by decide +kernel
theorem d_M_opened_17 : decode b_M_opened 17 = .ok (.lconst 0, 1) := by decide +kernel
theorem d_M_opened_18 : decode b_M_opened 18 = .ok (.lconst 0, 1) := by decide +kernel
theorem d_M_opened_19 : decode b_M_opened 19 = .ok (.lconst 0, 1) := by decide +kernel
theorem d_M_opened_20 : decode b_M_opened 20 = .ok (.invokevirtual 165, 3) := by decide +kernel
theorem d_M_opened_23 : decode b_M_opened 23 = .ok (.return_, 1) := by decide +kernel
theorem d_M_opened_24 : decode b_M_opened 24 = .ok (.iconst 3, 1) := by decide +kernel
theorem d_M_opened_25 : decode b_M_opened 25 = .ok (.iload_n 1, 1) := by decide +kernel
theorem d_M_opened_26 : decode b_M_opened 26 = .ok (.imul, 1) := by decide +kernel
theorem d_M_opened_27 : decode b_M_opened 27 = .ok (.iload 6, 2) := by decide +kernel
theorem d_M_opened_29 : decode b_M_opened 29 = .ok (.iadd, 1) := by decide +kernel
theorem d_M_opened_30 : decode b_M_opened 30 = .ok (.istore 7, 2) := by decide +kernel
theorem d_M_opened_32 : decode b_M_opened 32 = .ok (.aload_n 0, 1) := by decide +kernel
theorem d_M_opened_33 : decode b_M_opened 33 = .ok (.iload 7, 2) := by decide +kernel
theorem d_M_opened_35 : decode b_M_opened 35 = .ok (.invokevirtual 251, 3) := by decide +kernel
theorem d_M_opened_38 : decode b_M_opened 38 = .ok (.aload_n 0, 1) := by decide +kernel
theorem d_M_opened_39 : decode b_M_opened 39 = .ok (.getfield 99, 3) := by decide +kernel
theorem d_M_opened_42 : decode b_M_opened 42 = .ok (.iload 7, 2) := by decide +kernel
theorem d_M_opened_44 : decode b_M_opened 44 = .ok (.iconst 2, 1) := by decide +kernel
theorem d_M_opened_45 : decode b_M_opened 45 = .ok (.iastore, 1) := by decide +kernel
theorem d_M_opened_46 : decode b_M_opened 46 = .ok (.aload_n 0, 1) := by decide +kernel
theorem d_M_opened_47 : decode b_M_opened 47 = .ok (.getfield 102, 3) := by decide +kernel
theorem d_M_opened_50 : decode b_M_opened 50 = .ok (.iload 7, 2) := by decide +kernel
theorem d_M_opened_52 : decode b_M_opened 52 = .ok (.lload_n 2, 1) := by decide +kernel
theorem d_M_opened_53 : decode b_M_opened 53 = .ok (.lastore, 1) := by decide +kernel
theorem d_M_opened_54 : decode b_M_opened 54 = .ok (.aload_n 0, 1) := by decide +kernel
theorem d_M_opened_55 : decode b_M_opened 55 = .ok (.getfield 105, 3) := by decide +kernel
theorem d_M_opened_58 : decode b_M_opened 58 = .ok (.iload 7, 2) := by decide +kernel
theorem d_M_opened_60 : decode b_M_opened 60 = .ok (.lload 4, 2) := by decide +kernel
theorem d_M_opened_62 : decode b_M_opened 62 = .ok (.lastore, 1) := by decide +kernel
theorem d_M_opened_63 : decode b_M_opened 63 = .ok (.aload_n 0, 1) := by decide +kernel
theorem d_M_opened_64 : decode b_M_opened 64 = .ok (.getfield 108, 3) := by decide +kernel
theorem d_M_opened_67 : decode b_M_opened 67 = .ok (.iload 7, 2) := by decide +kernel
theorem d_M_opened_69 : decode b_M_opened 69 = .ok (.bipush 24, 2) := by decide +kernel
theorem d_M_opened_71 : decode b_M_opened 71 = .ok (.iastore, 1) := by decide +kernel
theorem d_M_opened_72 : decode b_M_opened 72 = .ok (.aload_n 0, 1) := by decide +kernel
theorem d_M_opened_73 : decode b_M_opened 73 = .ok (.iload_n 1, 1) := by decide +kernel
theorem d_M_opened_74 : decode b_M_opened 74 = .ok (.bipush 91, 2) := by decide +kernel
theorem d_M_opened_76 : decode b_M_opened 76 = .ok (.lload_n 2, 1) := by decide +kernel
theorem d_M_opened_77 : decode b_M_opened 77 = .ok (.iload 6, 2) := by decide +kernel
theorem d_M_opened_79 : decode b_M_opened 79 = .ok (.i2l, 1) := by decide +kernel
theorem d_M_opened_80 : decode b_M_opened 80 = .ok (.ldc2_w 254, 3) := by decide +kernel
theorem d_M_opened_83 : decode b_M_opened 83 = .ok (.lconst 0, 1) := by decide +kernel
theorem d_M_opened_84 : decode b_M_opened 84 = .ok (.invokevirtual 165, 3) := by decide +kernel
theorem d_M_opened_87 : decode b_M_opened 87 = .ok (.return_, 1) := by decide +kernel
theorem xw1180 : (Cond.methodLink "SecurePairModel" (248 : Nat) ({ cls := "SecurePairModel", name := "freeChannel", desc := "(I)I" } : MethodName)) ∈ xa := xa_t 1180 (by decide +kernel) (by decide +kernel)
theorem xw1182 : (Cond.instanceMethod ({ cls := "SecurePairModel", name := "freeChannel", desc := "(I)I" } : MethodName)) ∈ xa := xa_t 1182 (by decide +kernel) (by decide +kernel)
theorem xw1183 : (Cond.code ({ cls := "SecurePairModel", name := "freeChannel", desc := "(I)I" } : MethodName) prog_12_method_29_code (3 : Nat) (Option.some ClassFile.FieldType.int)) ∈ xa := xa_t 1183 (by decide +kernel) (by decide +kernel)
theorem xw1184 : (Cond.methodLink "SecurePairModel" (251 : Nat) ({ cls := "SecurePairModel", name := "release", desc := "(I)V" } : MethodName)) ∈ xa := xa_t 1184 (by decide +kernel) (by decide +kernel)
theorem xw1186 : (Cond.instanceMethod ({ cls := "SecurePairModel", name := "release", desc := "(I)V" } : MethodName)) ∈ xa := xa_t 1186 (by decide +kernel) (by decide +kernel)
theorem xw1187 : (Cond.code ({ cls := "SecurePairModel", name := "release", desc := "(I)V" } : MethodName) prog_12_method_30_code (2 : Nat) (Option.none : Option ClassFile.FieldType)) ∈ xa := xa_t 1187 (by decide +kernel) (by decide +kernel)
theorem xw1188 : (Cond.constantLong "SecurePairModel" (254 : Nat) (24 : Int64)) ∈ xa := xa_t 1188 (by decide +kernel) (by decide +kernel)
theorem xs19 : (Cond.selects "SecurePairModel" ⟨"SecurePairModel", "freeChannel", "(I)I"⟩ ⟨"SecurePairModel", "freeChannel", "(I)I"⟩) ∈ xa := xa_s 19 (by decide +kernel) (by decide +kernel)
theorem xs20 : (Cond.selects "SecurePairModel" ⟨"SecurePairModel", "release", "(I)V"⟩ ⟨"SecurePairModel", "release", "(I)V"⟩) ∈ xa := xa_s 20 (by decide +kernel) (by decide +kernel)
def q_opened (e1 : Nat) (x2 : Int64) (x3 : Int64) (σ : xb_St) : xb_St := (if 0 ≤ (q_free e1 σ) then (q_send e1 (91 : Int32) x2 ((q_free e1 σ).toInt64) (24 : Int64) (0 : Int64) (xb_si (xb_sl (xb_sl (xb_si (q_release ((3 * e1) + (q_free e1 σ).toNatClampNeg) σ) 28 ((3 * e1) + (q_free e1 σ).toNatClampNeg) (2 : Int32)) 29 ((3 * e1) + (q_free e1 σ).toNatClampNeg) x2) 30 ((3 * e1) + (q_free e1 σ).toNatClampNeg) x3) 31 ((3 * e1) + (q_free e1 σ).toNatClampNeg) (24 : Int32))) else (q_send e1 (92 : Int32) x2 (0 : Int64) (0 : Int64) (0 : Int64) σ))
set_option maxHeartbeats 4000000 in
set_option maxRecDepth 100000 in
theorem c_M_opened (l : Launch) (D : va_G) (α : Nat → Nat) (κ : Nat → ClassId) (hα : xb_inj α 35) (σ : xb_St) (x_e1 : Int32) (e1 : Nat) (e_e1 : x_e1 = nI e1) (b_e1 : e1 < 2) (x2 : Int64) (x3 : Int64) (ok : sm_ok σ) : Met l y_M_opened w_M_opened ({ frames := 3, cells := 0, slots := 0, locals := 92 }) (va_Pc ([.ref (α 0), .int x_e1, .long x2, .long x3]) (sm_Pre D α κ σ)) (va_Qv (fun u : xb_St => u = q_opened e1 x2 x3 σ) (sm_B D α κ) (xb_A α 35)) 0 0 (xb_A α 35) := by
  subst e_e1
  refine Met.ofW (cc := b_M_opened) (maxL := 8) (ret := none) (by decide) rfl ?_
  intro p e s m args below meth c s₁ B_ hml hv
  obtain ⟨rfl, hP, hK, hN⟩ := hv
  have hx := B_.exec
  have hb := B_.bytes
  have hr := B_.returns
  have hts := atoms_spec (ws := w_M_opened) B_.pre
  have ht : ∀ w ∈ xa, w.before _ s = true := fun w h => hts w (List.mem_cons_of_mem _ h)
  have hown : s.vm.findClass "SecurePairModel" = some m.cls := findClass_of_methodNamed B_.named
  have hlocks := B_.notSynchronized
  have hD := sm_D hα κ
  have hS : va_S (xb_A α 35) s.heap s.heap [] := va_S.rf
  have hl := lv_entry ([.ref (α 0), .int (nI e1), .long x2, .long x3]) (n := 8) (Nat.le_of_ble_eq_true rfl)
  rw [lg_entry_eq]
  generalize (lg_sl ([.ref (α 0), .int (nI e1), .long x2, .long x3]) ++ List.replicate (8 - (lg_sl ([.ref (α 0), .int (nI e1), .long x2, .long x3])).length) Slot.unset).toArray = ls at hl ⊢
  have hl : lv_has ls 8 [(0, .ref (α 0)), (1, .int (nI e1)), (2, .long x2), (4, .long x3)] := hl
  refine lv_aload_n hx hb d_M_opened_0 rfl (lv_at hl 0 rfl) ?_
  refine lv_iload_n hx hb d_M_opened_1 rfl (lv_at hl 1 rfl) ?_
  refine sm_ci (va_runV (As := [.int (nI e1)]) (rest := []) ⟨hx, hb, hml, hown, hts⟩ (c_M_freeChannel l D α κ hα σ (nI e1) e1 (xb_lit e1 rfl) (by omega)) (cwV 1 hts (xa_V xw1180 xw1182 xs19 xw11 xw1183) rfl rfl rfl (by decide +kernel) ⟨Nat.le_of_ble_eq_true rfl, Nat.le_of_ble_eq_true rfl⟩) ⟨sm_blind, va_recv (q0 := 0) (ci := 9) hK hP rfl rfl, sm_pre hP hK hN _⟩ rfl rfl hl.1 rfl (lv_room (Nat.le_of_ble_eq_true rfl)) d_M_opened_2 ⟨Nat.le_of_ble_eq_true rfl, Nat.le_of_ble_eq_true rfl⟩) hS (fun _ h_ => h_) (fun H locs hP hS => ?_)
  refine lv_istore (lv' := [(6, .int (q_free e1 σ)), (0, .ref (α 0)), (1, .int (nI e1)), (2, .long x2), (4, .long x3)]) hx hb d_M_opened_5 hl (by decide) rfl (fun ls hl => ?_)
  refine lv_iload hx hb d_M_opened_7 (lv_at hl 0 rfl) ?_
  refine lv_if_ge (tgt := 24) hx hb d_M_opened_9 (by decide) (fun c1 => ?_) (fun c1 => ?_)
  · skip
    have zc1 := q_free_n (xb_nl c1)
    refine lv_iconst (v := 3) hx hb d_M_opened_24 (by decide) ?_
    refine lv_iload_n hx hb d_M_opened_25 rfl (lv_at hl 2 rfl) ?_
    refine lv_imul hx hb d_M_opened_26 ?_
    refine lv_iload hx hb d_M_opened_27 (lv_at hl 0 rfl) ?_
    refine lv_iadd hx hb d_M_opened_29 ?_
    refine lv_istore (lv' := [(7, .int (((3 : Int32) * (nI e1)) + (q_free e1 σ))), (6, .int (q_free e1 σ)), (0, .ref (α 0)), (1, .int (nI e1)), (2, .long x2), (4, .long x3)]) hx hb d_M_opened_30 hl (by decide) rfl (fun ls hl => ?_)
    refine lv_aload_n hx hb d_M_opened_32 rfl (lv_at hl 2 rfl) ?_
    refine lv_iload hx hb d_M_opened_33 (lv_at hl 0 rfl) ?_
    refine sm_cv (va_runV (As := [.int (((3 : Int32) * (nI e1)) + (q_free e1 σ))]) (rest := []) ⟨hx, hb, hml, hown, hts⟩ (c_M_release l D α κ hα σ (((3 : Int32) * (nI e1)) + (q_free e1 σ)) ((3 * e1) + (q_free e1 σ).toNatClampNeg) (xb_na (xb_nm (xb_lit (x := (3 : Int32)) 3 rfl) (xb_lit e1 rfl)) zc1.1) (by omega)) (cwV 1 hts (xa_V xw1184 xw1186 xs20 xw11 xw1187) rfl rfl rfl (by decide +kernel) ⟨Nat.le_of_ble_eq_true rfl, Nat.le_of_ble_eq_true rfl⟩) ⟨sm_blind, va_recv (q0 := 0) (ci := 9) hK hP rfl rfl, sm_pre hP hK hN _⟩ rfl rfl hl.1 rfl (lv_room (Nat.le_of_ble_eq_true rfl)) d_M_opened_35 ⟨Nat.le_of_ble_eq_true rfl, Nat.le_of_ble_eq_true rfl⟩) hS (fun _ h_ => h_) (fun H locs hP hS => ?_)
    obtain ⟨τ1, hτ1⟩ : ∃ t_, t_ = (q_release ((3 * e1) + (q_free e1 σ).toNatClampNeg) σ) := ⟨_, rfl⟩
    rw [← hτ1] at hP
    have okτ1 : sm_ok τ1 := by rw [hτ1]; exact (ok_q_release ((3 * e1) + (q_free e1 σ).toNatClampNeg) (by omega) ok)
    refine lv_aload_n hx hb d_M_opened_38 rfl (lv_at hl 2 rfl) ?_
    refine sm_g (v := .ref (α 28)) hx hb ht hown hK hP 30 (by decide) (ht _ xw982) (fun _ h_ => h_) rfl d_M_opened_39 ?_
    refine lv_iload hx hb d_M_opened_42 (lv_at hl 0 rfl) ?_
    refine lv_iconst (v := 2) hx hb d_M_opened_44 (by decide) ?_
    refine sm_paI (L := 6) (n := ((3 * e1) + (q_free e1 σ).toNatClampNeg)) (x := (2 : Int32)) hx hb hK hP 28 27 rfl rfl hD hS (xb_in (xb_na (xb_nm (xb_lit (x := (3 : Int32)) 3 rfl) (xb_lit e1 rfl)) zc1.1) (by omega) (by decide)) (xb_cl (xb_na (xb_nm (xb_lit (x := (3 : Int32)) 3 rfl) (xb_lit e1 rfl)) zc1.1) (by omega)) sm_s_28 d_M_opened_45 (fun H locs hP hS => ?_)
    refine lv_aload_n hx hb d_M_opened_46 rfl (lv_at hl 2 rfl) ?_
    refine sm_g (v := .ref (α 29)) hx hb ht hown hK hP 31 (by decide) (ht _ xw983) (fun _ h_ => h_) rfl d_M_opened_47 ?_
    refine lv_iload hx hb d_M_opened_50 (lv_at hl 0 rfl) ?_
    refine lv_lload_n hx hb d_M_opened_52 rfl (lv_at hl 4 rfl) ?_
    refine sm_paJ (L := 6) (n := ((3 * e1) + (q_free e1 σ).toNatClampNeg)) (x := x2) hx hb hK hP 29 28 rfl rfl hD hS (xb_in (xb_na (xb_nm (xb_lit (x := (3 : Int32)) 3 rfl) (xb_lit e1 rfl)) zc1.1) (by omega) (by decide)) (xb_cl (xb_na (xb_nm (xb_lit (x := (3 : Int32)) 3 rfl) (xb_lit e1 rfl)) zc1.1) (by omega)) sm_s_29 d_M_opened_53 (fun H locs hP hS => ?_)
    refine lv_aload_n hx hb d_M_opened_54 rfl (lv_at hl 2 rfl) ?_
    refine sm_g (v := .ref (α 30)) hx hb ht hown hK hP 32 (by decide) (ht _ xw984) (fun _ h_ => h_) rfl d_M_opened_55 ?_
    refine lv_iload hx hb d_M_opened_58 (lv_at hl 0 rfl) ?_
    refine lv_lload hx hb d_M_opened_60 (lv_at hl 5 rfl) ?_
    refine sm_paJ (L := 6) (n := ((3 * e1) + (q_free e1 σ).toNatClampNeg)) (x := x3) hx hb hK hP 30 29 rfl rfl hD hS (xb_in (xb_na (xb_nm (xb_lit (x := (3 : Int32)) 3 rfl) (xb_lit e1 rfl)) zc1.1) (by omega) (by decide)) (xb_cl (xb_na (xb_nm (xb_lit (x := (3 : Int32)) 3 rfl) (xb_lit e1 rfl)) zc1.1) (by omega)) sm_s_30 d_M_opened_62 (fun H locs hP hS => ?_)
    refine lv_aload_n hx hb d_M_opened_63 rfl (lv_at hl 2 rfl) ?_
    refine sm_g (v := .ref (α 31)) hx hb ht hown hK hP 33 (by decide) (ht _ xw985) (fun _ h_ => h_) rfl d_M_opened_64 ?_
    refine lv_iload hx hb d_M_opened_67 (lv_at hl 0 rfl) ?_
    refine lv_bipush (v := 24) hx hb d_M_opened_69 (by decide) ?_
    refine sm_paI (L := 6) (n := ((3 * e1) + (q_free e1 σ).toNatClampNeg)) (x := (24 : Int32)) hx hb hK hP 31 30 rfl rfl hD hS (xb_in (xb_na (xb_nm (xb_lit (x := (3 : Int32)) 3 rfl) (xb_lit e1 rfl)) zc1.1) (by omega) (by decide)) (xb_cl (xb_na (xb_nm (xb_lit (x := (3 : Int32)) 3 rfl) (xb_lit e1 rfl)) zc1.1) (by omega)) sm_s_31 d_M_opened_71 (fun H locs hP hS => ?_)
    refine lv_aload_n hx hb d_M_opened_72 rfl (lv_at hl 2 rfl) ?_
    refine lv_iload_n hx hb d_M_opened_73 rfl (lv_at hl 3 rfl) ?_
    refine lv_bipush (v := 91) hx hb d_M_opened_74 (by decide) ?_
    refine lv_lload_n hx hb d_M_opened_76 rfl (lv_at hl 4 rfl) ?_
    refine lv_iload hx hb d_M_opened_77 (lv_at hl 1 rfl) ?_
    refine lv_i2l (v := (q_free e1 σ).toInt64) hx hb d_M_opened_79 (by rfl) ?_
    refine lv_ldc2 hx hb hown (ht _ xw1188) d_M_opened_80 ?_
    refine lv_lconst (v := 0) hx hb d_M_opened_83 (by decide) ?_
    refine sm_cv (va_runV (As := [.int (nI e1), .int (91 : Int32), .long x2, .long ((q_free e1 σ).toInt64), .long (24 : Int64), .long (0 : Int64)]) (rest := []) ⟨hx, hb, hml, hown, hts⟩ (c_M_send l D α κ hα (xb_si (xb_sl (xb_sl (xb_si τ1 28 ((3 * e1) + (q_free e1 σ).toNatClampNeg) (2 : Int32)) 29 ((3 * e1) + (q_free e1 σ).toNatClampNeg) x2) 30 ((3 * e1) + (q_free e1 σ).toNatClampNeg) x3) 31 ((3 * e1) + (q_free e1 σ).toNatClampNeg) (24 : Int32)) (nI e1) e1 (xb_lit e1 rfl) (by omega) (91 : Int32) x2 ((q_free e1 σ).toInt64) (24 : Int64) (0 : Int64) (mk_room (mk_sl (mk_sl (mk_si okτ1 (by decide)))) (by first | (subst hτ1; exact q_release_0) | exact q_release_0))) (cwV 6 hts (xa_V xw1084 xw1086 xs6 xw11 xw1087) rfl rfl rfl (by decide +kernel) ⟨Nat.le_of_ble_eq_true rfl, Nat.le_of_ble_eq_true rfl⟩) ⟨sm_blind, va_recv (q0 := 0) (ci := 9) hK hP rfl rfl, sm_pre hP hK hN _⟩ rfl rfl hl.1 rfl (lv_room (Nat.le_of_ble_eq_true rfl)) d_M_opened_84 ⟨Nat.le_of_ble_eq_true rfl, Nat.le_of_ble_eq_true rfl⟩) hS (fun _ h_ => h_) (fun H locs hP hS => ?_)
    obtain ⟨τ2, hτ2⟩ : ∃ t_, t_ = (q_send e1 (91 : Int32) x2 ((q_free e1 σ).toInt64) (24 : Int64) (0 : Int64) (xb_si (xb_sl (xb_sl (xb_si τ1 28 ((3 * e1) + (q_free e1 σ).toNatClampNeg) (2 : Int32)) 29 ((3 * e1) + (q_free e1 σ).toNatClampNeg) x2) 30 ((3 * e1) + (q_free e1 σ).toNatClampNeg) x3) 31 ((3 * e1) + (q_free e1 σ).toNatClampNeg) (24 : Int32))) := ⟨_, rfl⟩
    rw [← hτ2] at hP
    have okτ2 : sm_ok τ2 := by rw [hτ2]; exact (ok_q_send e1 (91 : Int32) x2 ((q_free e1 σ).toInt64) (24 : Int64) (0 : Int64) (by omega) (mk_room (mk_sl (mk_sl (mk_si okτ1 (by decide)))) (by first | (subst hτ1; exact q_release_0) | exact q_release_0)))
    exact W.vret hx hb hr (fun t ht_ hW => ⟨⟨τ2, rfl, (by subst hτ2; subst hτ1; exact ((if_pos c1)).symm), by rw [sm_B, ht_]; exact hP⟩, hS.F ht_⟩) hS.2.2 d_M_opened_87
  · skip
    refine lv_aload_n hx hb d_M_opened_12 rfl (lv_at hl 1 rfl) ?_
    refine lv_iload_n hx hb d_M_opened_13 rfl (lv_at hl 2 rfl) ?_
    refine lv_bipush (v := 92) hx hb d_M_opened_14 (by decide) ?_
    refine lv_lload_n hx hb d_M_opened_16 rfl (lv_at hl 3 rfl) ?_
    refine lv_lconst (v := 0) hx hb d_M_opened_17 (by decide) ?_
    refine lv_lconst (v := 0) hx hb d_M_opened_18 (by decide) ?_
    refine lv_lconst (v := 0) hx hb d_M_opened_19 (by decide) ?_
    refine sm_cv (va_runV (As := [.int (nI e1), .int (92 : Int32), .long x2, .long (0 : Int64), .long (0 : Int64), .long (0 : Int64)]) (rest := []) ⟨hx, hb, hml, hown, hts⟩ (c_M_send l D α κ hα σ (nI e1) e1 (xb_lit e1 rfl) (by omega) (92 : Int32) x2 (0 : Int64) (0 : Int64) (0 : Int64) ok) (cwV 6 hts (xa_V xw1084 xw1086 xs6 xw11 xw1087) rfl rfl rfl (by decide +kernel) ⟨Nat.le_of_ble_eq_true rfl, Nat.le_of_ble_eq_true rfl⟩) ⟨sm_blind, va_recv (q0 := 0) (ci := 9) hK hP rfl rfl, sm_pre hP hK hN _⟩ rfl rfl hl.1 rfl (lv_room (Nat.le_of_ble_eq_true rfl)) d_M_opened_20 ⟨Nat.le_of_ble_eq_true rfl, Nat.le_of_ble_eq_true rfl⟩) hS (fun _ h_ => h_) (fun H locs hP hS => ?_)
    obtain ⟨τ3, hτ3⟩ : ∃ t_, t_ = (q_send e1 (92 : Int32) x2 (0 : Int64) (0 : Int64) (0 : Int64) σ) := ⟨_, rfl⟩
    rw [← hτ3] at hP
    have okτ3 : sm_ok τ3 := by rw [hτ3]; exact (ok_q_send e1 (92 : Int32) x2 (0 : Int64) (0 : Int64) (0 : Int64) (by omega) ok)
    exact W.vret hx hb hr (fun t ht_ hW => ⟨⟨τ3, rfl, (by subst hτ3; exact ((if_neg c1)).symm), by rw [sm_B, ht_]; exact hP⟩, hS.F ht_⟩) hS.2.2 d_M_opened_23
theorem ok_q_opened {σ : xb_St} (e1 : Nat) (x2 : Int64) (x3 : Int64) (b_e1 : e1 < 2) (ok : sm_ok σ) : sm_ok (q_opened e1 x2 x3 σ) := by
  unfold q_opened
  by_cases c1 : 0 ≤ (q_free e1 σ)
  · rw [if_pos c1]
    have zc1 := q_free_n (xb_nl c1)
    exact (ok_q_send e1 (91 : Int32) x2 ((q_free e1 σ).toInt64) (24 : Int64) (0 : Int64) (by omega) (mk_room (mk_sl (mk_sl (mk_si (ok_q_release ((3 * e1) + (q_free e1 σ).toNatClampNeg) (by omega) ok) (by decide)))) (by first | (subst hτ1; exact q_release_0) | exact q_release_0)))
  · rw [if_neg c1]
    exact (ok_q_send e1 (92 : Int32) x2 (0 : Int64) (0 : Int64) (0 : Int64) (by omega) ok)
abbrev b_M_begin : ByteArray := prog_12_method_19_code
def y_M_begin : MethodName := ⟨"SecurePairModel", "begin", "(I)I"⟩
abbrev w_M_begin : List Cond := .code y_M_begin b_M_begin 2 (some .int) :: xa
theorem d_M_begin_0 : decode b_M_begin 0 = .ok (.iload_n 1, 1) := by decide +kernel
theorem d_M_begin_1 : decode b_M_begin 1 = .ok (.invokestatic 169, 3) := by decide +kernel
theorem d_M_begin_4 : decode b_M_begin 4 = .ok (.ifCond .ne 9, 3) := by decide +kernel
theorem d_M_begin_7 : decode b_M_begin 7 = .ok (.aload_n 0, 1) := by decide +kernel
theorem d_M_begin_8 : decode b_M_begin 8 = .ok (.iconst 1, 1) := by decide +kernel
theorem d_M_begin_9 : decode b_M_begin 9 = .ok (.invokevirtual 173, 3) := by decide +kernel
theorem d_M_begin_12 : decode b_M_begin 12 = .ok (.ireturn, 1) := by decide +kernel
theorem d_M_begin_13 : decode b_M_begin 13 = .ok (.aload_n 0, 1) := by decide +kernel
theorem d_M_begin_14 : decode b_M_begin 14 = .ok (.getfield 25, 3) := by decide +kernel
theorem d_M_begin_17 : decode b_M_begin 17 = .ok (.iload_n 1, 1) := by decide +kernel
theorem d_M_begin_18 : decode b_M_begin 18 = .ok (.iaload, 1) := by decide +kernel
theorem d_M_begin_19 : decode b_M_begin 19 = .ok (.ifCond .eq 19, 3) := by decide +kernel
theorem d_M_begin_22 : decode b_M_begin 22 = .ok (.aload_n 0, 1) := by decide +kernel
theorem d_M_begin_23 : decode b_M_begin 23 = .ok (.getfield 25, 3) := by decide +kernel
theorem d_M_begin_26 : decode b_M_begin 26 = .ok (.iload_n 1, 1) := by decide +kernel
theorem d_M_begin_27 : decode b_M_begin 27 = .ok (.iaload, 1) := by decide +kernel
theorem d_M_begin_28 : decode b_M_begin 28 = .ok (.iconst 4, 1) := by decide +kernel
theorem d_M_begin_29 : decode b_M_begin 29 = .ok (.if_icmp .eq 9, 3) := by decide +kernel
theorem d_M_begin_32 : decode b_M_begin 32 = .ok (.aload_n 0, 1) := by decide +kernel
theorem d_M_begin_33 : decode b_M_begin 33 = .ok (.iconst 2, 1) := by decide +kernel
theorem d_M_begin_34 : decode b_M_begin 34 = .ok (.invokevirtual 173, 3) := by decide +kernel
theorem d_M_begin_37 : decode b_M_begin 37 = .ok (.ireturn, 1) := by decide +kernel
theorem d_M_begin_38 : decode b_M_begin 38 = .ok (.aload_n 0, 1) := by decide +kernel
theorem d_M_begin_39 : decode b_M_begin 39 = .ok (.iconst 0, 1) := by decide +kernel
theorem d_M_begin_40 : decode b_M_begin 40 = .ok (.putfield 120, 3) := by decide +kernel
theorem d_M_begin_43 : decode b_M_begin 43 = .ok (.aload_n 0, 1) := by decide +kernel
theorem d_M_begin_44 : decode b_M_begin 44 = .ok (.iload_n 1, 1) := by decide +kernel
theorem d_M_begin_45 : decode b_M_begin 45 = .ok (.invokevirtual 177, 3) := by decide +kernel
theorem d_M_begin_48 : decode b_M_begin 48 = .ok (.aload_n 0, 1) := by decide +kernel
theorem d_M_begin_49 : decode b_M_begin 49 = .ok (.getfield 32, 3) := by decide +kernel
theorem d_M_begin_52 : decode b_M_begin 52 = .ok (.iload_n 1, 1) := by decide +kernel
theorem d_M_begin_53 : decode b_M_begin 53 = .ok (.iaload, 1) := by decide +kernel
theorem d_M_begin_54 : decode b_M_begin 54 = .ok (.ireturn, 1) := by decide +kernel
theorem xw1076 : (Cond.methodLink "SecurePairModel" (173 : Nat) ({ cls := "SecurePairModel", name := "raise", desc := "(I)I" } : MethodName)) ∈ xa := xa_t 1076 (by decide +kernel) (by decide +kernel)
theorem xw1078 : (Cond.instanceMethod ({ cls := "SecurePairModel", name := "raise", desc := "(I)I" } : MethodName)) ∈ xa := xa_t 1078 (by decide +kernel) (by decide +kernel)
theorem xw1079 : (Cond.code ({ cls := "SecurePairModel", name := "raise", desc := "(I)I" } : MethodName) prog_12_method_3_code (2 : Nat) (Option.some ClassFile.FieldType.int)) ∈ xa := xa_t 1079 (by decide +kernel) (by decide +kernel)
theorem xs4 : (Cond.selects "SecurePairModel" ⟨"SecurePairModel", "raise", "(I)I"⟩ ⟨"SecurePairModel", "raise", "(I)I"⟩) ∈ xa := xa_s 4 (by decide +kernel) (by decide +kernel)
def q_begin (x1 : Int32) (σ : xb_St) : Int32 × xb_St := (if (g_isEnd x1) = 0 then ((q_raise (1 : Int32) σ).1, (q_raise (1 : Int32) σ).2) else (if (σ.1 4 x1.toNatClampNeg) = 0 then (((q_start x1.toNatClampNeg (xb_si σ 0 0 (0 : Int32))).1 6 x1.toNatClampNeg), (q_start x1.toNatClampNeg (xb_si σ 0 0 (0 : Int32)))) else (if (σ.1 4 x1.toNatClampNeg) = (4 : Int32) then (((q_start x1.toNatClampNeg (xb_si σ 0 0 (0 : Int32))).1 6 x1.toNatClampNeg), (q_start x1.toNatClampNeg (xb_si σ 0 0 (0 : Int32)))) else ((q_raise (2 : Int32) σ).1, (q_raise (2 : Int32) σ).2))))
set_option maxHeartbeats 4000000 in
set_option maxRecDepth 100000 in
theorem c_M_begin (l : Launch) (D : va_G) (α : Nat → Nat) (κ : Nat → ClassId) (hα : xb_inj α 35) (σ : xb_St) (x1 : Int32) (ok : sm_ok σ) : Met l y_M_begin w_M_begin ({ frames := 4, cells := 0, slots := 0, locals := 114 }) (va_Pc ([.ref (α 0), .int x1]) (sm_Pre D α κ σ)) (va_Qi (fun r (u : xb_St) => r = (q_begin x1 σ).1 ∧ u = (q_begin x1 σ).2) (sm_B D α κ) (xb_A α 35)) 0 0 (xb_A α 35) := by
  refine Met.ofW (cc := b_M_begin) (maxL := 2) (ret := (some .int)) (by decide) rfl ?_
  intro p e s m args below meth c s₁ B_ hml hv
  obtain ⟨rfl, hP, hK, hN⟩ := hv
  have hx := B_.exec
  have hb := B_.bytes
  have hr := B_.returns
  have hts := atoms_spec (ws := w_M_begin) B_.pre
  have ht : ∀ w ∈ xa, w.before _ s = true := fun w h => hts w (List.mem_cons_of_mem _ h)
  have hown : s.vm.findClass "SecurePairModel" = some m.cls := findClass_of_methodNamed B_.named
  have hlocks := B_.notSynchronized
  have hD := sm_D hα κ
  have hS : va_S (xb_A α 35) s.heap s.heap [] := va_S.rf
  have hl := lv_entry ([.ref (α 0), .int x1]) (n := 2) (Nat.le_of_ble_eq_true rfl)
  rw [lg_entry_eq]
  generalize (lg_sl ([.ref (α 0), .int x1]) ++ List.replicate (2 - (lg_sl ([.ref (α 0), .int x1])).length) Slot.unset).toArray = ls at hl ⊢
  have hl : lv_has ls 2 [(0, .ref (α 0)), (1, .int x1)] := hl
  refine lv_iload_n hx hb d_M_begin_0 rfl (lv_at hl 1 rfl) ?_
  refine vp_callSi (W.runS (As := [.int x1]) (rest := []) ⟨hx, hb, hml, hown, hts⟩ (c_M_isEnd l x1) (cwS 1 hts (xa_S xw1073 xw1074 xw11 xw1075) rfl rfl rfl (by decide +kernel) ⟨Nat.le_of_ble_eq_true rfl, Nat.le_of_ble_eq_true rfl⟩) preEq rfl rfl hl.1 rfl (lv_room (Nat.le_of_ble_eq_true rfl)) d_M_begin_1 ⟨Nat.le_of_ble_eq_true rfl, Nat.le_of_ble_eq_true rfl⟩) (fun r_ e_ => ?_)
  subst e_
  refine lv_if_ne (tgt := 13) hx hb d_M_begin_4 (by decide) (fun c1 => ?_) (fun c1 => ?_)
  · skip
    have zc1 := sm_end c1
    refine lv_aload_n hx hb d_M_begin_13 rfl (lv_at hl 0 rfl) ?_
    refine sm_g (v := .ref (α 4)) hx hb ht hown hK hP 6 (by decide) (ht _ xw958) (fun _ h_ => h_) rfl d_M_begin_14 ?_
    refine lv_iload_n hx hb d_M_begin_17 rfl (lv_at hl 1 rfl) ?_
    refine sm_gaI (L := 2) (n := x1.toNatClampNeg) (v := (σ.1 4 x1.toNatClampNeg)) hx hb hK hP 4 3 rfl rfl (xb_in zc1.1 (by omega) (by decide)) (xb_cl zc1.1 (by omega)) rfl d_M_begin_18 ?_
    refine lv_if_eq (tgt := 38) hx hb d_M_begin_19 (by decide) (fun c2 => ?_) (fun c2 => ?_)
    · skip
      refine lv_aload_n hx hb d_M_begin_38 rfl (lv_at hl 0 rfl) ?_
      refine lv_iconst (v := 0) hx hb d_M_begin_39 (by decide) ?_
      refine sm_pi (x := (0 : Int32)) (ty := .int) hx hb ht hown hK hP 0 (by decide) (ht _ xw952) (fun _ h_ => h_) hD hS rfl (by decide +kernel) rfl rfl sm_f_0 d_M_begin_40 (fun H locs hP hS => ?_)
      refine lv_aload_n hx hb d_M_begin_43 rfl (lv_at hl 0 rfl) ?_
      refine lv_iload_n hx hb d_M_begin_44 rfl (lv_at hl 1 rfl) ?_
      refine sm_cv (va_runV (As := [.int x1]) (rest := []) ⟨hx, hb, hml, hown, hts⟩ (c_M_start l D α κ hα (xb_si σ 0 0 (0 : Int32)) x1 x1.toNatClampNeg zc1.1 (by omega) (mk_si ok (by decide))) (cwV 1 hts (xa_V xw1080 xw1082 xs5 xw11 xw1083) rfl rfl rfl (by decide +kernel) ⟨Nat.le_of_ble_eq_true rfl, Nat.le_of_ble_eq_true rfl⟩) ⟨sm_blind, va_recv (q0 := 0) (ci := 9) hK hP rfl rfl, sm_pre hP hK hN _⟩ rfl rfl hl.1 rfl (lv_room (Nat.le_of_ble_eq_true rfl)) d_M_begin_45 ⟨Nat.le_of_ble_eq_true rfl, Nat.le_of_ble_eq_true rfl⟩) hS (fun _ h_ => h_) (fun H locs hP hS => ?_)
      obtain ⟨τ1, hτ1⟩ : ∃ t_, t_ = (q_start x1.toNatClampNeg (xb_si σ 0 0 (0 : Int32))) := ⟨_, rfl⟩
      rw [← hτ1] at hP
      have okτ1 : sm_ok τ1 := by rw [hτ1]; exact (ok_q_start x1.toNatClampNeg (by omega) (mk_si ok (by decide)))
      refine lv_aload_n hx hb d_M_begin_48 rfl (lv_at hl 0 rfl) ?_
      refine sm_g (v := .ref (α 6)) hx hb ht hown hK hP 8 (by decide) (ht _ xw960) (fun _ h_ => h_) rfl d_M_begin_49 ?_
      refine lv_iload_n hx hb d_M_begin_52 rfl (lv_at hl 1 rfl) ?_
      refine sm_gaI (L := 2) (n := x1.toNatClampNeg) (v := (τ1.1 6 x1.toNatClampNeg)) hx hb hK hP 6 5 rfl rfl (xb_in zc1.1 (by omega) (by decide)) (xb_cl zc1.1 (by omega)) rfl d_M_begin_53 ?_
      exact W.iret (v := (τ1.1 6 x1.toNatClampNeg)) hx hb hr (fun t ht_ hW => ⟨⟨(τ1.1 6 x1.toNatClampNeg), τ1, rfl, ⟨congrArg Prod.fst (((by subst hτ1; exact ((if_neg c1).trans ((if_pos c2))).symm)) : ((τ1.1 6 x1.toNatClampNeg), τ1) = q_begin x1 σ), congrArg Prod.snd (((by subst hτ1; exact ((if_neg c1).trans ((if_pos c2))).symm)) : ((τ1.1 6 x1.toNatClampNeg), τ1) = q_begin x1 σ)⟩, by rw [sm_B, ht_]; exact hP⟩, hS.F ht_⟩) hS.2.2 d_M_begin_54
    · skip
      refine lv_aload_n hx hb d_M_begin_22 rfl (lv_at hl 0 rfl) ?_
      refine sm_g (v := .ref (α 4)) hx hb ht hown hK hP 6 (by decide) (ht _ xw958) (fun _ h_ => h_) rfl d_M_begin_23 ?_
      refine lv_iload_n hx hb d_M_begin_26 rfl (lv_at hl 1 rfl) ?_
      refine sm_gaI (L := 2) (n := x1.toNatClampNeg) (v := (σ.1 4 x1.toNatClampNeg)) hx hb hK hP 4 3 rfl rfl (xb_in zc1.1 (by omega) (by decide)) (xb_cl zc1.1 (by omega)) rfl d_M_begin_27 ?_
      refine lv_iconst (v := 4) hx hb d_M_begin_28 (by decide) ?_
      refine lv_icmp_eq (tgt := 38) hx hb d_M_begin_29 (by decide) (fun c3 => ?_) (fun c3 => ?_)
      · skip
        refine lv_aload_n hx hb d_M_begin_38 rfl (lv_at hl 0 rfl) ?_
        refine lv_iconst (v := 0) hx hb d_M_begin_39 (by decide) ?_
        refine sm_pi (x := (0 : Int32)) (ty := .int) hx hb ht hown hK hP 0 (by decide) (ht _ xw952) (fun _ h_ => h_) hD hS rfl (by decide +kernel) rfl rfl sm_f_0 d_M_begin_40 (fun H locs hP hS => ?_)
        refine lv_aload_n hx hb d_M_begin_43 rfl (lv_at hl 0 rfl) ?_
        refine lv_iload_n hx hb d_M_begin_44 rfl (lv_at hl 1 rfl) ?_
        refine sm_cv (va_runV (As := [.int x1]) (rest := []) ⟨hx, hb, hml, hown, hts⟩ (c_M_start l D α κ hα (xb_si σ 0 0 (0 : Int32)) x1 x1.toNatClampNeg zc1.1 (by omega) (mk_si ok (by decide))) (cwV 1 hts (xa_V xw1080 xw1082 xs5 xw11 xw1083) rfl rfl rfl (by decide +kernel) ⟨Nat.le_of_ble_eq_true rfl, Nat.le_of_ble_eq_true rfl⟩) ⟨sm_blind, va_recv (q0 := 0) (ci := 9) hK hP rfl rfl, sm_pre hP hK hN _⟩ rfl rfl hl.1 rfl (lv_room (Nat.le_of_ble_eq_true rfl)) d_M_begin_45 ⟨Nat.le_of_ble_eq_true rfl, Nat.le_of_ble_eq_true rfl⟩) hS (fun _ h_ => h_) (fun H locs hP hS => ?_)
        obtain ⟨τ2, hτ2⟩ : ∃ t_, t_ = (q_start x1.toNatClampNeg (xb_si σ 0 0 (0 : Int32))) := ⟨_, rfl⟩
        rw [← hτ2] at hP
        have okτ2 : sm_ok τ2 := by rw [hτ2]; exact (ok_q_start x1.toNatClampNeg (by omega) (mk_si ok (by decide)))
        refine lv_aload_n hx hb d_M_begin_48 rfl (lv_at hl 0 rfl) ?_
        refine sm_g (v := .ref (α 6)) hx hb ht hown hK hP 8 (by decide) (ht _ xw960) (fun _ h_ => h_) rfl d_M_begin_49 ?_
        refine lv_iload_n hx hb d_M_begin_52 rfl (lv_at hl 1 rfl) ?_
        refine sm_gaI (L := 2) (n := x1.toNatClampNeg) (v := (τ2.1 6 x1.toNatClampNeg)) hx hb hK hP 6 5 rfl rfl (xb_in zc1.1 (by omega) (by decide)) (xb_cl zc1.1 (by omega)) rfl d_M_begin_53 ?_
        exact W.iret (v := (τ2.1 6 x1.toNatClampNeg)) hx hb hr (fun t ht_ hW => ⟨⟨(τ2.1 6 x1.toNatClampNeg), τ2, rfl, ⟨congrArg Prod.fst (((by subst hτ2; exact ((if_neg c1).trans ((if_neg c2).trans ((if_pos c3)))).symm)) : ((τ2.1 6 x1.toNatClampNeg), τ2) = q_begin x1 σ), congrArg Prod.snd (((by subst hτ2; exact ((if_neg c1).trans ((if_neg c2).trans ((if_pos c3)))).symm)) : ((τ2.1 6 x1.toNatClampNeg), τ2) = q_begin x1 σ)⟩, by rw [sm_B, ht_]; exact hP⟩, hS.F ht_⟩) hS.2.2 d_M_begin_54
      · skip
        refine lv_aload_n hx hb d_M_begin_32 rfl (lv_at hl 0 rfl) ?_
        refine lv_iconst (v := 2) hx hb d_M_begin_33 (by decide) ?_
        refine sm_ci (va_runV (As := [.int (2 : Int32)]) (rest := []) ⟨hx, hb, hml, hown, hts⟩ (c_M_raise l D α κ hα σ (2 : Int32)) (cwV 1 hts (xa_V xw1076 xw1078 xs4 xw11 xw1079) rfl rfl rfl (by decide +kernel) ⟨Nat.le_of_ble_eq_true rfl, Nat.le_of_ble_eq_true rfl⟩) ⟨sm_blind, va_recv (q0 := 0) (ci := 9) hK hP rfl rfl, sm_pre hP hK hN _⟩ rfl rfl hl.1 rfl (lv_room (Nat.le_of_ble_eq_true rfl)) d_M_begin_34 ⟨Nat.le_of_ble_eq_true rfl, Nat.le_of_ble_eq_true rfl⟩) hS (fun _ h_ => h_) (fun H locs hP hS => ?_)
        obtain ⟨τ3, hτ3⟩ : ∃ t_, t_ = (q_raise (2 : Int32) σ).2 := ⟨_, rfl⟩
        rw [← hτ3] at hP
        have okτ3 : sm_ok τ3 := by rw [hτ3]; exact (ok_q_raise (2 : Int32)  ok)
        obtain ⟨ρ3, hρ3⟩ : ∃ r_, r_ = (q_raise (2 : Int32) σ).1 := ⟨_, rfl⟩
        refine xb_ti (y := ρ3) hρ3.symm ?_
        exact W.iret (v := ρ3) hx hb hr (fun t ht_ hW => ⟨⟨ρ3, τ3, rfl, ⟨congrArg Prod.fst (((by subst hρ3; subst hτ3; exact ((if_neg c1).trans ((if_neg c2).trans ((if_neg c3)))).symm)) : (ρ3, τ3) = q_begin x1 σ), congrArg Prod.snd (((by subst hρ3; subst hτ3; exact ((if_neg c1).trans ((if_neg c2).trans ((if_neg c3)))).symm)) : (ρ3, τ3) = q_begin x1 σ)⟩, by rw [sm_B, ht_]; exact hP⟩, hS.F ht_⟩) hS.2.2 d_M_begin_37
  · skip
    refine lv_aload_n hx hb d_M_begin_7 rfl (lv_at hl 0 rfl) ?_
    refine lv_iconst (v := 1) hx hb d_M_begin_8 (by decide) ?_
    refine sm_ci (va_runV (As := [.int (1 : Int32)]) (rest := []) ⟨hx, hb, hml, hown, hts⟩ (c_M_raise l D α κ hα σ (1 : Int32)) (cwV 1 hts (xa_V xw1076 xw1078 xs4 xw11 xw1079) rfl rfl rfl (by decide +kernel) ⟨Nat.le_of_ble_eq_true rfl, Nat.le_of_ble_eq_true rfl⟩) ⟨sm_blind, va_recv (q0 := 0) (ci := 9) hK hP rfl rfl, sm_pre hP hK hN _⟩ rfl rfl hl.1 rfl (lv_room (Nat.le_of_ble_eq_true rfl)) d_M_begin_9 ⟨Nat.le_of_ble_eq_true rfl, Nat.le_of_ble_eq_true rfl⟩) hS (fun _ h_ => h_) (fun H locs hP hS => ?_)
    obtain ⟨τ4, hτ4⟩ : ∃ t_, t_ = (q_raise (1 : Int32) σ).2 := ⟨_, rfl⟩
    rw [← hτ4] at hP
    have okτ4 : sm_ok τ4 := by rw [hτ4]; exact (ok_q_raise (1 : Int32)  ok)
    obtain ⟨ρ4, hρ4⟩ : ∃ r_, r_ = (q_raise (1 : Int32) σ).1 := ⟨_, rfl⟩
    refine xb_ti (y := ρ4) hρ4.symm ?_
    exact W.iret (v := ρ4) hx hb hr (fun t ht_ hW => ⟨⟨ρ4, τ4, rfl, ⟨congrArg Prod.fst (((by subst hρ4; subst hτ4; exact ((if_pos c1)).symm)) : (ρ4, τ4) = q_begin x1 σ), congrArg Prod.snd (((by subst hρ4; subst hτ4; exact ((if_pos c1)).symm)) : (ρ4, τ4) = q_begin x1 σ)⟩, by rw [sm_B, ht_]; exact hP⟩, hS.F ht_⟩) hS.2.2 d_M_begin_12
theorem ok_q_begin {σ : xb_St} (x1 : Int32)  (ok : sm_ok σ) : sm_ok (q_begin x1 σ).2 := by
  unfold q_begin
  by_cases c1 : (g_isEnd x1) = 0
  · rw [if_pos c1]
    exact (ok_q_raise (1 : Int32)  ok)
  · rw [if_neg c1]
    have zc1 := sm_end c1
    by_cases c2 : (σ.1 4 x1.toNatClampNeg) = 0
    · rw [if_pos c2]
      exact (ok_q_start x1.toNatClampNeg (by omega) (mk_si ok (by decide)))
    · rw [if_neg c2]
      by_cases c3 : (σ.1 4 x1.toNatClampNeg) = (4 : Int32)
      · rw [if_pos c3]
        exact (ok_q_start x1.toNatClampNeg (by omega) (mk_si ok (by decide)))
      · rw [if_neg c3]
        exact (ok_q_raise (2 : Int32)  ok)
abbrev b_M_write : ByteArray := prog_12_method_35_code
def y_M_write : MethodName := ⟨"SecurePairModel", "write", "(IIJI)I"⟩
abbrev w_M_write : List Cond := .code y_M_write b_M_write 10 (some .int) :: xa
theorem d_M_write_0 : decode b_M_write 0 = .ok (.iload_n 1, 1) := by decide +kernel
theorem d_M_write_1 : decode b_M_write 1 = .ok (.iload_n 2, 1) := by decide +kernel
theorem d_M_write_2 : decode b_M_write 2 = .ok (.invokestatic 260, 3) := by decide +kernel
theorem d_M_write_5 : decode b_M_write 5 = .ok (.ifCond .ne 9, 3) := by decide +kernel
theorem d_M_write_8 : decode b_M_write 8 = .ok (.aload_n 0, 1) := by decide +kernel
theorem d_M_write_9 : decode b_M_write 9 = .ok (.iconst 1, 1) := by decide +kernel
theorem d_M_write_10 : decode b_M_write 10 = .ok (.invokevirtual 173, 3) := by decide +kernel
theorem d_M_write_13 : decode b_M_write 13 = .ok (.ireturn, 1) := by decide +kernel
theorem d_M_write_14 : decode b_M_write 14 = .ok (.iconst 3, 1) := by decide +kernel
theorem d_M_write_15 : decode b_M_write 15 = .ok (.iload_n 1, 1) := by decide +kernel
theorem d_M_write_16 : decode b_M_write 16 = .ok (.imul, 1) := by decide +kernel
theorem d_M_write_17 : decode b_M_write 17 = .ok (.iload_n 2, 1) := by decide +kernel
theorem d_M_write_18 : decode b_M_write 18 = .ok (.iadd, 1) := by decide +kernel
theorem d_M_write_19 : decode b_M_write 19 = .ok (.istore 6, 2) := by decide +kernel
theorem d_M_write_21 : decode b_M_write 21 = .ok (.aload_n 0, 1) := by decide +kernel
theorem d_M_write_22 : decode b_M_write 22 = .ok (.getfield 25, 3) := by decide +kernel
theorem d_M_write_25 : decode b_M_write 25 = .ok (.iload_n 1, 1) := by decide +kernel
theorem d_M_write_26 : decode b_M_write 26 = .ok (.iaload, 1) := by decide +kernel
theorem d_M_write_27 : decode b_M_write 27 = .ok (.iconst 4, 1) := by decide +kernel
theorem d_M_write_28 : decode b_M_write 28 = .ok (.if_icmp .ne 14, 3) := by decide +kernel
theorem d_M_write_31 : decode b_M_write 31 = .ok (.aload_n 0, 1) := by decide +kernel
theorem d_M_write_32 : decode b_M_write 32 = .ok (.getfield 99, 3) := by decide +kernel
theorem d_M_write_35 : decode b_M_write 35 = .ok (.iload 6, 2) := by decide +kernel
theorem d_M_write_37 : decode b_M_write 37 = .ok (.iaload, 1) := by decide +kernel
theorem d_M_write_38 : decode b_M_write 38 = .ok (.iconst 2, 1) := by decide +kernel
theorem d_M_write_39 : decode b_M_write 39 = .ok (.if_icmp .eq 9, 3) := by decide +kernel
theorem d_M_write_42 : decode b_M_write 42 = .ok (.aload_n 0, 1) := by decide +kernel
theorem d_M_write_43 : decode b_M_write 43 = .ok (.iconst 2, 1) := by decide +kernel
theorem d_M_write_44 : decode b_M_write 44 = .ok (.invokevirtual 173, 3) := by decide +kernel
theorem d_M_write_47 : decode b_M_write 47 = .ok (.ireturn, 1) := by decide +kernel
theorem d_M_write_48 : decode b_M_write 48 = .ok (.iload 5, 2) := by decide +kernel
theorem d_M_write_50 : decode b_M_write 50 = .ok (.iconst 1, 1) := by decide +kernel
theorem d_M_write_51 : decode b_M_write 51 = .ok (.if_icmp .lt 10, 3) := by decide +kernel
theorem d_M_write_54 : decode b_M_write 54 = .ok (.iload 5, 2) := by decide +kernel
theorem d_M_write_56 : decode b_M_write 56 = .ok (.bipush 8, 2) := by decide +kernel
theorem d_M_write_58 : decode b_M_write 58 = .ok (.if_icmp .le 9, 3) := by decide +kernel
theorem d_M_write_61 : decode b_M_write 61 = .ok (.aload_n 0, 1) := by decide +kernel
theorem d_M_write_62 : decode b_M_write 62 = .ok (.iconst 3, 1) := by decide +kernel
theorem d_M_write_63 : decode b_M_write 63 = .ok (.invokevirtual 173, 3) := by decide +kernel
theorem d_M_write_66 : decode b_M_write 66 = .ok (.ireturn, 1) := by decide +kernel
theorem d_M_write_67 : decode b_M_write 67 = .ok (.aload_n 0, 1) := by decide +kernel
theorem d_M_write_68 : decode b_M_write 68 = .ok (.iconst 0, 1) := by decide +kernel
theorem d_M_write_69 : decode b_M_write 69 = .ok (.putfield 120, 3) := by decide +kernel
theorem d_M_write_72 : decode b_M_write 72 = .ok (.aload_n 0, 1) := by decide +kernel
theorem d_M_write_73 : decode b_M_write 73 = .ok (.getfield 105, 3) := by decide +kernel
theorem d_M_write_76 : decode b_M_write 76 = .ok (.iload 6, 2) := by decide +kernel
theorem d_M_write_78 : decode b_M_write 78 = .ok (.laload, 1) := by decide +kernel
theorem d_M_write_79 : decode b_M_write 79 = .ok (.lconst 1, 1) := by decide +kernel
theorem d_M_write_80 : decode b_M_write 80 = .ok (.lcmp, 1) := by decide +kernel
theorem d_M_write_81 : decode b_M_write 81 = .ok (.ifCond .ge 7, 3) := by decide +kernel
theorem d_M_write_84 : decode b_M_write 84 = .ok (.iconst 0, 1) := by decide +kernel
theorem d_M_write_85 : decode b_M_write 85 = .ok (.goto 30, 3) := by decide +kernel
theorem d_M_write_88 : decode b_M_write 88 = .ok (.aload_n 0, 1) := by decide +kernel
theorem d_M_write_89 : decode b_M_write 89 = .ok (.getfield 105, 3) := by decide +kernel
theorem d_M_write_92 : decode b_M_write 92 = .ok (.iload 6, 2) := by decide +kernel
theorem d_M_write_94 : decode b_M_write 94 = .ok (.laload, 1) := by decide +kernel
theorem d_M_write_95 : decode b_M_write 95 = .ok (.iload 5, 2) := by decide +kernel
theorem d_M_write_97 : decode b_M_write 97 = .ok (.i2l, 1) := by decide +kernel
theorem d_M_write_98 : decode b_M_write 98 = .ok (.lcmp, 1) := by decide +kernel
theorem d_M_write_99 : decode b_M_write 99 = .ok (.ifCond .ge 14, 3) := by decide +kernel
theorem d_M_write_102 : decode b_M_write 102 = .ok (.aload_n 0, 1) := by decide +kernel
theorem d_M_write_103 : decode b_M_write 103 = .ok (.getfield 105, 3) := by decide +kernel
theorem d_M_write_106 : decode b_M_write 106 = .ok (.iload 6, 2) := by decide +kernel
theorem d_M_write_108 : decode b_M_write 108 = .ok (.laload, 1) := by decide +kernel
theorem d_M_write_109 : decode b_M_write 109 = .ok (.l2i, 1) := by decide +kernel
theorem d_M_write_110 : decode b_M_write 110 = .ok (.goto 5, 3) := by decide +kernel
theorem d_M_write_113 : decode b_M_write 113 = .ok (.iload 5, 2) := by decide +kernel
theorem d_M_write_115 : decode b_M_write 115 = .ok (.istore 7, 2) := by decide +kernel
theorem d_M_write_117 : decode b_M_write 117 = .ok (.iload 7, 2) := by decide +kernel
theorem d_M_write_119 : decode b_M_write 119 = .ok (.ifCond .le 69, 3) := by decide +kernel
theorem d_M_write_122 : decode b_M_write 122 = .ok (.iload 5, 2) := by decide +kernel
theorem d_M_write_124 : decode b_M_write 124 = .ok (.bipush 8, 2) := by decide +kernel
theorem d_M_write_126 : decode b_M_write 126 = .ok (.if_icmp .ne 7, 3) := by decide +kernel
theorem d_M_write_129 : decode b_M_write 129 = .ok (.lload_n 3, 1) := by decide +kernel
theorem d_M_write_130 : decode b_M_write 130 = .ok (.goto 14, 3) := by decide +kernel
theorem d_M_write_133 : decode b_M_write 133 = .ok (.lload_n 3, 1) := by decide +kernel
theorem d_M_write_134 : decode b_M_write 134 = .ok (.lconst 1, 1) := by decide +kernel
theorem d_M_write_135 : decode b_M_write 135 = .ok (.bipush 8, 2) := by decide +kernel
theorem d_M_write_137 : decode b_M_write 137 = .ok (.iload 5, 2) := by decide +kernel
theorem d_M_write_139 : decode b_M_write 139 = .ok (.imul, 1) := by decide +kernel
theorem d_M_write_140 : decode b_M_write 140 = .ok (.lshl, 1) := by decide +kernel
theorem d_M_write_141 : decode b_M_write 141 = .ok (.lconst 1, 1) := by decide +kernel
theorem d_M_write_142 : decode b_M_write 142 = .ok (.lsub, 1) := by decide +kernel
theorem d_M_write_143 : decode b_M_write 143 = .ok (.land, 1) := by decide +kernel
theorem d_M_write_144 : decode b_M_write 144 = .ok (.lstore 8, 2) := by decide +kernel
theorem d_M_write_146 : decode b_M_write 146 = .ok (.aload_n 0, 1) := by decide +kernel
theorem d_M_write_147 : decode b_M_write 147 = .ok (.getfield 105, 3) := by decide +kernel
theorem d_M_write_150 : decode b_M_write 150 = .ok (.iload 6, 2) := by decide +kernel
theorem d_M_write_152 : decode b_M_write 152 = .ok (.dup2, 1) := by decide +kernel
theorem d_M_write_153 : decode b_M_write 153 = .ok (.laload, 1) := by decide +kernel
theorem d_M_write_154 : decode b_M_write 154 = .ok (.iload 7, 2) := by decide +kernel
theorem d_M_write_156 : decode b_M_write 156 = .ok (.i2l, 1) := by decide +kernel
theorem d_M_write_157 : decode b_M_write 157 = .ok (.lsub, 1) := by decide +kernel
theorem d_M_write_158 : decode b_M_write 158 = .ok (.lastore, 1) := by decide +kernel
theorem d_M_write_159 : decode b_M_write 159 = .ok (.aload_n 0, 1) := by decide +kernel
theorem d_M_write_160 : decode b_M_write 160 = .ok (.iload_n 1, 1) := by decide +kernel
theorem d_M_write_161 : decode b_M_write 161 = .ok (.bipush 94, 2) := by decide +kernel
theorem d_M_write_163 : decode b_M_write 163 = .ok (.aload_n 0, 1) := by decide +kernel
theorem d_M_write_164 : decode b_M_write 164 = .ok (.getfield 102, 3) := by decide +kernel
theorem d_M_write_167 : decode b_M_write 167 = .ok (.iload 6, 2) := by decide +kernel
theorem d_M_write_169 : decode b_M_write 169 = .ok (.laload, 1) := by decide +kernel
theorem d_M_write_170 : decode b_M_write 170 = .ok (.iload 7, 2) := by decide +kernel
theorem d_M_write_172 : decode b_M_write 172 = .ok (.i2l, 1) := by decide +kernel
theorem d_M_write_173 : decode b_M_write 173 = .ok (.lload 8, 2) := by decide +kernel
theorem d_M_write_175 : decode b_M_write 175 = .ok (.bipush 8, 2) := by decide +kernel
theorem d_M_write_177 : decode b_M_write 177 = .ok (.iload 5, 2) := by decide +kernel
theorem d_M_write_179 : decode b_M_write 179 = .ok (.iload 7, 2) := by decide +kernel
theorem d_M_write_181 : decode b_M_write 181 = .ok (.isub, 1) := by decide +kernel
theorem d_M_write_182 : decode b_M_write 182 = .ok (.imul, 1) := by decide +kernel
theorem d_M_write_183 : decode b_M_write 183 = .ok (.lushr, 1) := by decide +kernel
theorem d_M_write_184 : decode b_M_write 184 = .ok (.lconst 0, 1) := by decide +kernel
theorem d_M_write_185 : decode b_M_write 185 = .ok (.invokevirtual 165, 3) := by decide +kernel
theorem d_M_write_188 : decode b_M_write 188 = .ok (.iload 7, 2) := by decide +kernel
theorem d_M_write_190 : decode b_M_write 190 = .ok (.ireturn, 1) := by decide +kernel
def q_write (x1 : Int32) (x2 : Int32) (x3 : Int64) (x4 : Int32) (σ : xb_St) : Int32 × xb_St := (if (g_isChannel x1 x2) = 0 then ((q_raise (1 : Int32) σ).1, (q_raise (1 : Int32) σ).2) else (if (σ.1 4 x1.toNatClampNeg) = (4 : Int32) then (if (σ.1 28 ((3 * x1.toNatClampNeg) + x2.toNatClampNeg)) = (2 : Int32) then (if x4 < (1 : Int32) then ((q_raise (3 : Int32) σ).1, (q_raise (3 : Int32) σ).2) else (if x4 ≤ (8 : Int32) then (if (1 : Int64) ≤ (σ.2 30 ((3 * x1.toNatClampNeg) + x2.toNatClampNeg)) then (if x4.toInt64 ≤ (σ.2 30 ((3 * x1.toNatClampNeg) + x2.toNatClampNeg)) then (if x4 ≤ 0 then (x4, (xb_si σ 0 0 (0 : Int32))) else (if x4 = (8 : Int32) then (x4, (q_send x1.toNatClampNeg (94 : Int32) (σ.2 29 ((3 * x1.toNatClampNeg) + x2.toNatClampNeg)) x4.toInt64 (xb_lushr x3 ((8 : Int32) * (x4 - x4))) (0 : Int64) (xb_sl (xb_si σ 0 0 (0 : Int32)) 30 ((3 * x1.toNatClampNeg) + x2.toNatClampNeg) ((σ.2 30 ((3 * x1.toNatClampNeg) + x2.toNatClampNeg)) - x4.toInt64)))) else (x4, (q_send x1.toNatClampNeg (94 : Int32) (σ.2 29 ((3 * x1.toNatClampNeg) + x2.toNatClampNeg)) x4.toInt64 (xb_lushr (x3 &&& ((xb_lshl (1 : Int64) ((8 : Int32) * x4)) - (1 : Int64))) ((8 : Int32) * (x4 - x4))) (0 : Int64) (xb_sl (xb_si σ 0 0 (0 : Int32)) 30 ((3 * x1.toNatClampNeg) + x2.toNatClampNeg) ((σ.2 30 ((3 * x1.toNatClampNeg) + x2.toNatClampNeg)) - x4.toInt64)))))) else (if (σ.2 30 ((3 * x1.toNatClampNeg) + x2.toNatClampNeg)).toInt32 ≤ 0 then ((σ.2 30 ((3 * x1.toNatClampNeg) + x2.toNatClampNeg)).toInt32, (xb_si σ 0 0 (0 : Int32))) else (if x4 = (8 : Int32) then ((σ.2 30 ((3 * x1.toNatClampNeg) + x2.toNatClampNeg)).toInt32, (q_send x1.toNatClampNeg (94 : Int32) (σ.2 29 ((3 * x1.toNatClampNeg) + x2.toNatClampNeg)) (((σ.2 30 ((3 * x1.toNatClampNeg) + x2.toNatClampNeg)).toInt32).toInt64) (xb_lushr x3 ((8 : Int32) * (x4 - (σ.2 30 ((3 * x1.toNatClampNeg) + x2.toNatClampNeg)).toInt32))) (0 : Int64) (xb_sl (xb_si σ 0 0 (0 : Int32)) 30 ((3 * x1.toNatClampNeg) + x2.toNatClampNeg) ((σ.2 30 ((3 * x1.toNatClampNeg) + x2.toNatClampNeg)) - ((σ.2 30 ((3 * x1.toNatClampNeg) + x2.toNatClampNeg)).toInt32).toInt64)))) else ((σ.2 30 ((3 * x1.toNatClampNeg) + x2.toNatClampNeg)).toInt32, (q_send x1.toNatClampNeg (94 : Int32) (σ.2 29 ((3 * x1.toNatClampNeg) + x2.toNatClampNeg)) (((σ.2 30 ((3 * x1.toNatClampNeg) + x2.toNatClampNeg)).toInt32).toInt64) (xb_lushr (x3 &&& ((xb_lshl (1 : Int64) ((8 : Int32) * x4)) - (1 : Int64))) ((8 : Int32) * (x4 - (σ.2 30 ((3 * x1.toNatClampNeg) + x2.toNatClampNeg)).toInt32))) (0 : Int64) (xb_sl (xb_si σ 0 0 (0 : Int32)) 30 ((3 * x1.toNatClampNeg) + x2.toNatClampNeg) ((σ.2 30 ((3 * x1.toNatClampNeg) + x2.toNatClampNeg)) - ((σ.2 30 ((3 * x1.toNatClampNeg) + x2.toNatClampNeg)).toInt32).toInt64))))))) else ((0 : Int32), (xb_si σ 0 0 (0 : Int32)))) else ((q_raise (3 : Int32) σ).1, (q_raise (3 : Int32) σ).2))) else ((q_raise (2 : Int32) σ).1, (q_raise (2 : Int32) σ).2)) else ((q_raise (2 : Int32) σ).1, (q_raise (2 : Int32) σ).2)))
set_option maxHeartbeats 4000000 in
set_option maxRecDepth 100000 in
theorem c_M_write (l : Launch) (D : va_G) (α : Nat → Nat) (κ : Nat → ClassId) (hα : xb_inj α 35) (σ : xb_St) (x1 : Int32) (x2 : Int32) (x3 : Int64) (x4 : Int32) (ok : sm_ok σ) : Met l y_M_write w_M_write ({ frames := 3, cells := 0, slots := 0, locals := 92 }) (va_Pc ([.ref (α 0), .int x1, .int x2, .long x3, .int x4]) (sm_Pre D α κ σ)) (va_Qi (fun r (u : xb_St) => r = (q_write x1 x2 x3 x4 σ).1 ∧ u = (q_write x1 x2 x3 x4 σ).2) (sm_B D α κ) (xb_A α 35)) 0 0 (xb_A α 35) := by
  refine Met.ofW (cc := b_M_write) (maxL := 10) (ret := (some .int)) (by decide) rfl ?_
  intro p e s m args below meth c s₁ B_ hml hv
  obtain ⟨rfl, hP, hK, hN⟩ := hv
  have hx := B_.exec
  have hb := B_.bytes
  have hr := B_.returns
  have hts := atoms_spec (ws := w_M_write) B_.pre
  have ht : ∀ w ∈ xa, w.before _ s = true := fun w h => hts w (List.mem_cons_of_mem _ h)
  have hown : s.vm.findClass "SecurePairModel" = some m.cls := findClass_of_methodNamed B_.named
  have hlocks := B_.notSynchronized
  have hD := sm_D hα κ
  have hS : va_S (xb_A α 35) s.heap s.heap [] := va_S.rf
  have hl := lv_entry ([.ref (α 0), .int x1, .int x2, .long x3, .int x4]) (n := 10) (Nat.le_of_ble_eq_true rfl)
  rw [lg_entry_eq]
  generalize (lg_sl ([.ref (α 0), .int x1, .int x2, .long x3, .int x4]) ++ List.replicate (10 - (lg_sl ([.ref (α 0), .int x1, .int x2, .long x3, .int x4])).length) Slot.unset).toArray = ls at hl ⊢
  have hl : lv_has ls 10 [(0, .ref (α 0)), (1, .int x1), (2, .int x2), (3, .long x3), (5, .int x4)] := hl
  refine lv_iload_n hx hb d_M_write_0 rfl (lv_at hl 1 rfl) ?_
  refine lv_iload_n hx hb d_M_write_1 rfl (lv_at hl 2 rfl) ?_
  refine vp_callSi (W.runS (As := [.int x1, .int x2]) (rest := []) ⟨hx, hb, hml, hown, hts⟩ (c_M_isChannel l x1 x2) (cwS 2 hts (xa_S xw1203 xw1204 xw11 xw1205) rfl rfl rfl (by decide +kernel) ⟨Nat.le_of_ble_eq_true rfl, Nat.le_of_ble_eq_true rfl⟩) preEq rfl rfl hl.1 rfl (lv_room (Nat.le_of_ble_eq_true rfl)) d_M_write_2 ⟨Nat.le_of_ble_eq_true rfl, Nat.le_of_ble_eq_true rfl⟩) (fun r_ e_ => ?_)
  subst e_
  refine lv_if_ne (tgt := 14) hx hb d_M_write_5 (by decide) (fun c1 => ?_) (fun c1 => ?_)
  · skip
    have zc1 := sm_chan c1
    refine lv_iconst (v := 3) hx hb d_M_write_14 (by decide) ?_
    refine lv_iload_n hx hb d_M_write_15 rfl (lv_at hl 1 rfl) ?_
    refine lv_imul hx hb d_M_write_16 ?_
    refine lv_iload_n hx hb d_M_write_17 rfl (lv_at hl 2 rfl) ?_
    refine lv_iadd hx hb d_M_write_18 ?_
    refine lv_istore (lv' := [(6, .int (((3 : Int32) * x1) + x2)), (0, .ref (α 0)), (1, .int x1), (2, .int x2), (3, .long x3), (5, .int x4)]) hx hb d_M_write_19 hl (by decide) rfl (fun ls hl => ?_)
    refine lv_aload_n hx hb d_M_write_21 rfl (lv_at hl 1 rfl) ?_
    refine sm_g (v := .ref (α 4)) hx hb ht hown hK hP 6 (by decide) (ht _ xw958) (fun _ h_ => h_) rfl d_M_write_22 ?_
    refine lv_iload_n hx hb d_M_write_25 rfl (lv_at hl 2 rfl) ?_
    refine sm_gaI (L := 2) (n := x1.toNatClampNeg) (v := (σ.1 4 x1.toNatClampNeg)) hx hb hK hP 4 3 rfl rfl (xb_in zc1.1.1 (by omega) (by decide)) (xb_cl zc1.1.1 (by omega)) rfl d_M_write_26 ?_
    refine lv_iconst (v := 4) hx hb d_M_write_27 (by decide) ?_
    refine lv_icmp_ne (tgt := 42) hx hb d_M_write_28 (by decide) (fun c2 => ?_) (fun c2 => ?_)
    · skip
      refine lv_aload_n hx hb d_M_write_42 rfl (lv_at hl 1 rfl) ?_
      refine lv_iconst (v := 2) hx hb d_M_write_43 (by decide) ?_
      refine sm_ci (va_runV (As := [.int (2 : Int32)]) (rest := []) ⟨hx, hb, hml, hown, hts⟩ (c_M_raise l D α κ hα σ (2 : Int32)) (cwV 1 hts (xa_V xw1076 xw1078 xs4 xw11 xw1079) rfl rfl rfl (by decide +kernel) ⟨Nat.le_of_ble_eq_true rfl, Nat.le_of_ble_eq_true rfl⟩) ⟨sm_blind, va_recv (q0 := 0) (ci := 9) hK hP rfl rfl, sm_pre hP hK hN _⟩ rfl rfl hl.1 rfl (lv_room (Nat.le_of_ble_eq_true rfl)) d_M_write_44 ⟨Nat.le_of_ble_eq_true rfl, Nat.le_of_ble_eq_true rfl⟩) hS (fun _ h_ => h_) (fun H locs hP hS => ?_)
      obtain ⟨τ1, hτ1⟩ : ∃ t_, t_ = (q_raise (2 : Int32) σ).2 := ⟨_, rfl⟩
      rw [← hτ1] at hP
      have okτ1 : sm_ok τ1 := by rw [hτ1]; exact (ok_q_raise (2 : Int32)  ok)
      obtain ⟨ρ1, hρ1⟩ : ∃ r_, r_ = (q_raise (2 : Int32) σ).1 := ⟨_, rfl⟩
      refine xb_ti (y := ρ1) hρ1.symm ?_
      exact W.iret (v := ρ1) hx hb hr (fun t ht_ hW => ⟨⟨ρ1, τ1, rfl, ⟨congrArg Prod.fst (((by subst hρ1; subst hτ1; exact ((if_neg c1).trans ((if_neg c2))).symm)) : (ρ1, τ1) = q_write x1 x2 x3 x4 σ), congrArg Prod.snd (((by subst hρ1; subst hτ1; exact ((if_neg c1).trans ((if_neg c2))).symm)) : (ρ1, τ1) = q_write x1 x2 x3 x4 σ)⟩, by rw [sm_B, ht_]; exact hP⟩, hS.F ht_⟩) hS.2.2 d_M_write_47
    · skip
      refine lv_aload_n hx hb d_M_write_31 rfl (lv_at hl 1 rfl) ?_
      refine sm_g (v := .ref (α 28)) hx hb ht hown hK hP 30 (by decide) (ht _ xw982) (fun _ h_ => h_) rfl d_M_write_32 ?_
      refine lv_iload hx hb d_M_write_35 (lv_at hl 0 rfl) ?_
      refine sm_gaI (L := 6) (n := ((3 * x1.toNatClampNeg) + x2.toNatClampNeg)) (v := (σ.1 28 ((3 * x1.toNatClampNeg) + x2.toNatClampNeg))) hx hb hK hP 28 27 rfl rfl (xb_in (xb_na (xb_nm (xb_lit (x := (3 : Int32)) 3 rfl) zc1.1.1) zc1.2.1) (by omega) (by decide)) (xb_cl (xb_na (xb_nm (xb_lit (x := (3 : Int32)) 3 rfl) zc1.1.1) zc1.2.1) (by omega)) rfl d_M_write_37 ?_
      refine lv_iconst (v := 2) hx hb d_M_write_38 (by decide) ?_
      refine lv_icmp_eq (tgt := 48) hx hb d_M_write_39 (by decide) (fun c3 => ?_) (fun c3 => ?_)
      · skip
        refine lv_iload hx hb d_M_write_48 (lv_at hl 5 rfl) ?_
        refine lv_iconst (v := 1) hx hb d_M_write_50 (by decide) ?_
        refine lv_icmp_lt (tgt := 61) hx hb d_M_write_51 (by decide) (fun c4 => ?_) (fun c4 => ?_)
        · skip
          refine lv_aload_n hx hb d_M_write_61 rfl (lv_at hl 1 rfl) ?_
          refine lv_iconst (v := 3) hx hb d_M_write_62 (by decide) ?_
          refine sm_ci (va_runV (As := [.int (3 : Int32)]) (rest := []) ⟨hx, hb, hml, hown, hts⟩ (c_M_raise l D α κ hα σ (3 : Int32)) (cwV 1 hts (xa_V xw1076 xw1078 xs4 xw11 xw1079) rfl rfl rfl (by decide +kernel) ⟨Nat.le_of_ble_eq_true rfl, Nat.le_of_ble_eq_true rfl⟩) ⟨sm_blind, va_recv (q0 := 0) (ci := 9) hK hP rfl rfl, sm_pre hP hK hN _⟩ rfl rfl hl.1 rfl (lv_room (Nat.le_of_ble_eq_true rfl)) d_M_write_63 ⟨Nat.le_of_ble_eq_true rfl, Nat.le_of_ble_eq_true rfl⟩) hS (fun _ h_ => h_) (fun H locs hP hS => ?_)
          obtain ⟨τ2, hτ2⟩ : ∃ t_, t_ = (q_raise (3 : Int32) σ).2 := ⟨_, rfl⟩
          rw [← hτ2] at hP
          have okτ2 : sm_ok τ2 := by rw [hτ2]; exact (ok_q_raise (3 : Int32)  ok)
          obtain ⟨ρ2, hρ2⟩ : ∃ r_, r_ = (q_raise (3 : Int32) σ).1 := ⟨_, rfl⟩
          refine xb_ti (y := ρ2) hρ2.symm ?_
          exact W.iret (v := ρ2) hx hb hr (fun t ht_ hW => ⟨⟨ρ2, τ2, rfl, ⟨congrArg Prod.fst (((by subst hρ2; subst hτ2; exact ((if_neg c1).trans ((if_pos c2).trans ((if_pos c3).trans ((if_pos c4))))).symm)) : (ρ2, τ2) = q_write x1 x2 x3 x4 σ), congrArg Prod.snd (((by subst hρ2; subst hτ2; exact ((if_neg c1).trans ((if_pos c2).trans ((if_pos c3).trans ((if_pos c4))))).symm)) : (ρ2, τ2) = q_write x1 x2 x3 x4 σ)⟩, by rw [sm_B, ht_]; exact hP⟩, hS.F ht_⟩) hS.2.2 d_M_write_66
        · skip
          refine lv_iload hx hb d_M_write_54 (lv_at hl 5 rfl) ?_
          refine lv_bipush (v := 8) hx hb d_M_write_56 (by decide) ?_
          refine lv_icmp_le (tgt := 67) hx hb d_M_write_58 (by decide) (fun c5 => ?_) (fun c5 => ?_)
          · skip
            refine lv_aload_n hx hb d_M_write_67 rfl (lv_at hl 1 rfl) ?_
            refine lv_iconst (v := 0) hx hb d_M_write_68 (by decide) ?_
            refine sm_pi (x := (0 : Int32)) (ty := .int) hx hb ht hown hK hP 0 (by decide) (ht _ xw952) (fun _ h_ => h_) hD hS rfl (by decide +kernel) rfl rfl sm_f_0 d_M_write_69 (fun H locs hP hS => ?_)
            refine lv_aload_n hx hb d_M_write_72 rfl (lv_at hl 1 rfl) ?_
            refine sm_g (v := .ref (α 30)) hx hb ht hown hK hP 32 (by decide) (ht _ xw984) (fun _ h_ => h_) rfl d_M_write_73 ?_
            refine lv_iload hx hb d_M_write_76 (lv_at hl 0 rfl) ?_
            refine sm_gaJ (L := 6) (n := ((3 * x1.toNatClampNeg) + x2.toNatClampNeg)) (v := (σ.2 30 ((3 * x1.toNatClampNeg) + x2.toNatClampNeg))) hx hb hK hP 30 29 rfl rfl (xb_in (xb_na (xb_nm (xb_lit (x := (3 : Int32)) 3 rfl) zc1.1.1) zc1.2.1) (by omega) (by decide)) (xb_cl (xb_na (xb_nm (xb_lit (x := (3 : Int32)) 3 rfl) zc1.1.1) zc1.2.1) (by omega)) xb_l_i d_M_write_78 ?_
            refine lv_lconst (v := 1) hx hb d_M_write_79 (by decide) ?_
            refine xb_lge (tgt := 88) hx hb d_M_write_80 d_M_write_81 (by decide) (fun c6 => ?_) (fun c6 => ?_)
            · skip
              refine lv_aload_n hx hb d_M_write_88 rfl (lv_at hl 1 rfl) ?_
              refine sm_g (v := .ref (α 30)) hx hb ht hown hK hP 32 (by decide) (ht _ xw984) (fun _ h_ => h_) rfl d_M_write_89 ?_
              refine lv_iload hx hb d_M_write_92 (lv_at hl 0 rfl) ?_
              refine sm_gaJ (L := 6) (n := ((3 * x1.toNatClampNeg) + x2.toNatClampNeg)) (v := (σ.2 30 ((3 * x1.toNatClampNeg) + x2.toNatClampNeg))) hx hb hK hP 30 29 rfl rfl (xb_in (xb_na (xb_nm (xb_lit (x := (3 : Int32)) 3 rfl) zc1.1.1) zc1.2.1) (by omega) (by decide)) (xb_cl (xb_na (xb_nm (xb_lit (x := (3 : Int32)) 3 rfl) zc1.1.1) zc1.2.1) (by omega)) xb_l_i d_M_write_94 ?_
              refine lv_iload hx hb d_M_write_95 (lv_at hl 5 rfl) ?_
              refine lv_i2l (v := x4.toInt64) hx hb d_M_write_97 (by rfl) ?_
              refine xb_lge (tgt := 113) hx hb d_M_write_98 d_M_write_99 (by decide) (fun c7 => ?_) (fun c7 => ?_)
              · skip
                refine lv_iload hx hb d_M_write_113 (lv_at hl 5 rfl) ?_
                refine lv_istore (lv' := [(7, .int x4), (6, .int (((3 : Int32) * x1) + x2)), (0, .ref (α 0)), (1, .int x1), (2, .int x2), (3, .long x3), (5, .int x4)]) hx hb d_M_write_115 hl (by decide) rfl (fun ls hl => ?_)
                refine lv_iload hx hb d_M_write_117 (lv_at hl 0 rfl) ?_
                refine lv_if_le (tgt := 188) hx hb d_M_write_119 (by decide) (fun c8 => ?_) (fun c8 => ?_)
                · skip
                  refine lv_iload hx hb d_M_write_188 (lv_at hl 0 rfl) ?_
                  exact W.iret (v := x4) hx hb hr (fun t ht_ hW => ⟨⟨x4, (xb_si σ 0 0 (0 : Int32)), rfl, ⟨congrArg Prod.fst ((((if_neg c1).trans ((if_pos c2).trans ((if_pos c3).trans ((if_neg c4).trans ((if_pos c5).trans ((if_pos c6).trans ((if_pos c7).trans ((if_pos c8))))))))).symm) : (x4, (xb_si σ 0 0 (0 : Int32))) = q_write x1 x2 x3 x4 σ), congrArg Prod.snd ((((if_neg c1).trans ((if_pos c2).trans ((if_pos c3).trans ((if_neg c4).trans ((if_pos c5).trans ((if_pos c6).trans ((if_pos c7).trans ((if_pos c8))))))))).symm) : (x4, (xb_si σ 0 0 (0 : Int32))) = q_write x1 x2 x3 x4 σ)⟩, by rw [sm_B, ht_]; exact hP⟩, hS.F ht_⟩) hS.2.2 d_M_write_190
                · skip
                  refine lv_iload hx hb d_M_write_122 (lv_at hl 6 rfl) ?_
                  refine lv_bipush (v := 8) hx hb d_M_write_124 (by decide) ?_
                  refine lv_icmp_ne (tgt := 133) hx hb d_M_write_126 (by decide) (fun c9 => ?_) (fun c9 => ?_)
                  · skip
                    refine lv_lload_n hx hb d_M_write_133 rfl (lv_at hl 5 rfl) ?_
                    refine lv_lconst (v := 1) hx hb d_M_write_134 (by decide) ?_
                    refine lv_bipush (v := 8) hx hb d_M_write_135 (by decide) ?_
                    refine lv_iload hx hb d_M_write_137 (lv_at hl 6 rfl) ?_
                    refine lv_imul hx hb d_M_write_139 ?_
                    refine lv_lshl (v := (xb_lshl (1 : Int64) ((8 : Int32) * x4))) hx hb d_M_write_140 rfl ?_
                    refine lv_lconst (v := 1) hx hb d_M_write_141 (by decide) ?_
                    refine lv_lsub hx hb d_M_write_142 ?_
                    refine lv_land hx hb d_M_write_143 ?_
                    refine lv_lstore (lv' := [(8, .long (x3 &&& ((xb_lshl (1 : Int64) ((8 : Int32) * x4)) - (1 : Int64)))), (7, .int x4), (6, .int (((3 : Int32) * x1) + x2)), (0, .ref (α 0)), (1, .int x1), (2, .int x2), (3, .long x3), (5, .int x4)]) hx hb d_M_write_144 hl (by decide) rfl (fun ls hl => ?_)
                    refine lv_aload_n hx hb d_M_write_146 rfl (lv_at hl 3 rfl) ?_
                    refine sm_g (v := .ref (α 30)) hx hb ht hown hK hP 32 (by decide) (ht _ xw984) (fun _ h_ => h_) rfl d_M_write_147 ?_
                    refine lv_iload hx hb d_M_write_150 (lv_at hl 2 rfl) ?_
                    refine lv_dup2_11 hx hb d_M_write_152 rfl rfl ?_
                    refine sm_gaJ (L := 6) (n := ((3 * x1.toNatClampNeg) + x2.toNatClampNeg)) (v := (σ.2 30 ((3 * x1.toNatClampNeg) + x2.toNatClampNeg))) hx hb hK hP 30 29 rfl rfl (xb_in (xb_na (xb_nm (xb_lit (x := (3 : Int32)) 3 rfl) zc1.1.1) zc1.2.1) (by omega) (by decide)) (xb_cl (xb_na (xb_nm (xb_lit (x := (3 : Int32)) 3 rfl) zc1.1.1) zc1.2.1) (by omega)) xb_l_i d_M_write_153 ?_
                    refine lv_iload hx hb d_M_write_154 (lv_at hl 1 rfl) ?_
                    refine lv_i2l (v := x4.toInt64) hx hb d_M_write_156 (by rfl) ?_
                    refine lv_lsub hx hb d_M_write_157 ?_
                    refine sm_paJ (L := 6) (n := ((3 * x1.toNatClampNeg) + x2.toNatClampNeg)) (x := ((σ.2 30 ((3 * x1.toNatClampNeg) + x2.toNatClampNeg)) - x4.toInt64)) hx hb hK hP 30 29 rfl rfl hD hS (xb_in (xb_na (xb_nm (xb_lit (x := (3 : Int32)) 3 rfl) zc1.1.1) zc1.2.1) (by omega) (by decide)) (xb_cl (xb_na (xb_nm (xb_lit (x := (3 : Int32)) 3 rfl) zc1.1.1) zc1.2.1) (by omega)) sm_s_30 d_M_write_158 (fun H locs hP hS => ?_)
                    refine lv_aload_n hx hb d_M_write_159 rfl (lv_at hl 3 rfl) ?_
                    refine lv_iload_n hx hb d_M_write_160 rfl (lv_at hl 4 rfl) ?_
                    refine lv_bipush (v := 94) hx hb d_M_write_161 (by decide) ?_
                    refine lv_aload_n hx hb d_M_write_163 rfl (lv_at hl 3 rfl) ?_
                    refine sm_g (v := .ref (α 29)) hx hb ht hown hK hP 31 (by decide) (ht _ xw983) (fun _ h_ => h_) rfl d_M_write_164 ?_
                    refine lv_iload hx hb d_M_write_167 (lv_at hl 2 rfl) ?_
                    refine sm_gaJ (L := 6) (n := ((3 * x1.toNatClampNeg) + x2.toNatClampNeg)) (v := (σ.2 29 ((3 * x1.toNatClampNeg) + x2.toNatClampNeg))) hx hb hK hP 29 28 rfl rfl (xb_in (xb_na (xb_nm (xb_lit (x := (3 : Int32)) 3 rfl) zc1.1.1) zc1.2.1) (by omega) (by decide)) (xb_cl (xb_na (xb_nm (xb_lit (x := (3 : Int32)) 3 rfl) zc1.1.1) zc1.2.1) (by omega)) (((xb_l_nk (by decide))).trans (xb_l_i)) d_M_write_169 ?_
                    refine lv_iload hx hb d_M_write_170 (lv_at hl 1 rfl) ?_
                    refine lv_i2l (v := x4.toInt64) hx hb d_M_write_172 (by rfl) ?_
                    refine lv_lload hx hb d_M_write_173 (lv_at hl 0 rfl) ?_
                    refine lv_bipush (v := 8) hx hb d_M_write_175 (by decide) ?_
                    refine lv_iload hx hb d_M_write_177 (lv_at hl 7 rfl) ?_
                    refine lv_iload hx hb d_M_write_179 (lv_at hl 1 rfl) ?_
                    refine lv_isub hx hb d_M_write_181 ?_
                    refine lv_imul hx hb d_M_write_182 ?_
                    refine lv_lushr (v := (xb_lushr (x3 &&& ((xb_lshl (1 : Int64) ((8 : Int32) * x4)) - (1 : Int64))) ((8 : Int32) * (x4 - x4)))) hx hb d_M_write_183 rfl ?_
                    refine lv_lconst (v := 0) hx hb d_M_write_184 (by decide) ?_
                    refine sm_cv (va_runV (As := [.int x1, .int (94 : Int32), .long (σ.2 29 ((3 * x1.toNatClampNeg) + x2.toNatClampNeg)), .long x4.toInt64, .long (xb_lushr (x3 &&& ((xb_lshl (1 : Int64) ((8 : Int32) * x4)) - (1 : Int64))) ((8 : Int32) * (x4 - x4))), .long (0 : Int64)]) (rest := []) ⟨hx, hb, hml, hown, hts⟩ (c_M_send l D α κ hα (xb_sl (xb_si σ 0 0 (0 : Int32)) 30 ((3 * x1.toNatClampNeg) + x2.toNatClampNeg) ((σ.2 30 ((3 * x1.toNatClampNeg) + x2.toNatClampNeg)) - x4.toInt64)) x1 x1.toNatClampNeg zc1.1.1 (by omega) (94 : Int32) (σ.2 29 ((3 * x1.toNatClampNeg) + x2.toNatClampNeg)) x4.toInt64 (xb_lushr (x3 &&& ((xb_lshl (1 : Int64) ((8 : Int32) * x4)) - (1 : Int64))) ((8 : Int32) * (x4 - x4))) (0 : Int64) (mk_sl (mk_si ok (by decide)))) (cwV 6 hts (xa_V xw1084 xw1086 xs6 xw11 xw1087) rfl rfl rfl (by decide +kernel) ⟨Nat.le_of_ble_eq_true rfl, Nat.le_of_ble_eq_true rfl⟩) ⟨sm_blind, va_recv (q0 := 0) (ci := 9) hK hP rfl rfl, sm_pre hP hK hN _⟩ rfl rfl hl.1 rfl (lv_room (Nat.le_of_ble_eq_true rfl)) d_M_write_185 ⟨Nat.le_of_ble_eq_true rfl, Nat.le_of_ble_eq_true rfl⟩) hS (fun _ h_ => h_) (fun H locs hP hS => ?_)
                    obtain ⟨τ3, hτ3⟩ : ∃ t_, t_ = (q_send x1.toNatClampNeg (94 : Int32) (σ.2 29 ((3 * x1.toNatClampNeg) + x2.toNatClampNeg)) x4.toInt64 (xb_lushr (x3 &&& ((xb_lshl (1 : Int64) ((8 : Int32) * x4)) - (1 : Int64))) ((8 : Int32) * (x4 - x4))) (0 : Int64) (xb_sl (xb_si σ 0 0 (0 : Int32)) 30 ((3 * x1.toNatClampNeg) + x2.toNatClampNeg) ((σ.2 30 ((3 * x1.toNatClampNeg) + x2.toNatClampNeg)) - x4.toInt64))) := ⟨_, rfl⟩
                    rw [← hτ3] at hP
                    have okτ3 : sm_ok τ3 := by rw [hτ3]; exact (ok_q_send x1.toNatClampNeg (94 : Int32) (σ.2 29 ((3 * x1.toNatClampNeg) + x2.toNatClampNeg)) x4.toInt64 (xb_lushr (x3 &&& ((xb_lshl (1 : Int64) ((8 : Int32) * x4)) - (1 : Int64))) ((8 : Int32) * (x4 - x4))) (0 : Int64) (by omega) (mk_sl (mk_si ok (by decide))))
                    refine lv_iload hx hb d_M_write_188 (lv_at hl 1 rfl) ?_
                    exact W.iret (v := x4) hx hb hr (fun t ht_ hW => ⟨⟨x4, τ3, rfl, ⟨congrArg Prod.fst (((by subst hτ3; exact ((if_neg c1).trans ((if_pos c2).trans ((if_pos c3).trans ((if_neg c4).trans ((if_pos c5).trans ((if_pos c6).trans ((if_pos c7).trans ((if_neg c8).trans ((if_neg c9)))))))))).symm)) : (x4, τ3) = q_write x1 x2 x3 x4 σ), congrArg Prod.snd (((by subst hτ3; exact ((if_neg c1).trans ((if_pos c2).trans ((if_pos c3).trans ((if_neg c4).trans ((if_pos c5).trans ((if_pos c6).trans ((if_pos c7).trans ((if_neg c8).trans ((if_neg c9)))))))))).symm)) : (x4, τ3) = q_write x1 x2 x3 x4 σ)⟩, by rw [sm_B, ht_]; exact hP⟩, hS.F ht_⟩) hS.2.2 d_M_write_190
                  · skip
                    refine lv_lload_n hx hb d_M_write_129 rfl (lv_at hl 5 rfl) ?_
                    refine lv_goto (tgt := 144) hx hb d_M_write_130 (by decide) ?_
                    refine lv_lstore (lv' := [(8, .long x3), (7, .int x4), (6, .int (((3 : Int32) * x1) + x2)), (0, .ref (α 0)), (1, .int x1), (2, .int x2), (3, .long x3), (5, .int x4)]) hx hb d_M_write_144 hl (by decide) rfl (fun ls hl => ?_)
                    refine lv_aload_n hx hb d_M_write_146 rfl (lv_at hl 3 rfl) ?_
                    refine sm_g (v := .ref (α 30)) hx hb ht hown hK hP 32 (by decide) (ht _ xw984) (fun _ h_ => h_) rfl d_M_write_147 ?_
                    refine lv_iload hx hb d_M_write_150 (lv_at hl 2 rfl) ?_
                    refine lv_dup2_11 hx hb d_M_write_152 rfl rfl ?_
                    refine sm_gaJ (L := 6) (n := ((3 * x1.toNatClampNeg) + x2.toNatClampNeg)) (v := (σ.2 30 ((3 * x1.toNatClampNeg) + x2.toNatClampNeg))) hx hb hK hP 30 29 rfl rfl (xb_in (xb_na (xb_nm (xb_lit (x := (3 : Int32)) 3 rfl) zc1.1.1) zc1.2.1) (by omega) (by decide)) (xb_cl (xb_na (xb_nm (xb_lit (x := (3 : Int32)) 3 rfl) zc1.1.1) zc1.2.1) (by omega)) xb_l_i d_M_write_153 ?_
                    refine lv_iload hx hb d_M_write_154 (lv_at hl 1 rfl) ?_
                    refine lv_i2l (v := x4.toInt64) hx hb d_M_write_156 (by rfl) ?_
                    refine lv_lsub hx hb d_M_write_157 ?_
                    refine sm_paJ (L := 6) (n := ((3 * x1.toNatClampNeg) + x2.toNatClampNeg)) (x := ((σ.2 30 ((3 * x1.toNatClampNeg) + x2.toNatClampNeg)) - x4.toInt64)) hx hb hK hP 30 29 rfl rfl hD hS (xb_in (xb_na (xb_nm (xb_lit (x := (3 : Int32)) 3 rfl) zc1.1.1) zc1.2.1) (by omega) (by decide)) (xb_cl (xb_na (xb_nm (xb_lit (x := (3 : Int32)) 3 rfl) zc1.1.1) zc1.2.1) (by omega)) sm_s_30 d_M_write_158 (fun H locs hP hS => ?_)
                    refine lv_aload_n hx hb d_M_write_159 rfl (lv_at hl 3 rfl) ?_
                    refine lv_iload_n hx hb d_M_write_160 rfl (lv_at hl 4 rfl) ?_
                    refine lv_bipush (v := 94) hx hb d_M_write_161 (by decide) ?_
                    refine lv_aload_n hx hb d_M_write_163 rfl (lv_at hl 3 rfl) ?_
                    refine sm_g (v := .ref (α 29)) hx hb ht hown hK hP 31 (by decide) (ht _ xw983) (fun _ h_ => h_) rfl d_M_write_164 ?_
                    refine lv_iload hx hb d_M_write_167 (lv_at hl 2 rfl) ?_
                    refine sm_gaJ (L := 6) (n := ((3 * x1.toNatClampNeg) + x2.toNatClampNeg)) (v := (σ.2 29 ((3 * x1.toNatClampNeg) + x2.toNatClampNeg))) hx hb hK hP 29 28 rfl rfl (xb_in (xb_na (xb_nm (xb_lit (x := (3 : Int32)) 3 rfl) zc1.1.1) zc1.2.1) (by omega) (by decide)) (xb_cl (xb_na (xb_nm (xb_lit (x := (3 : Int32)) 3 rfl) zc1.1.1) zc1.2.1) (by omega)) (((xb_l_nk (by decide))).trans (xb_l_i)) d_M_write_169 ?_
                    refine lv_iload hx hb d_M_write_170 (lv_at hl 1 rfl) ?_
                    refine lv_i2l (v := x4.toInt64) hx hb d_M_write_172 (by rfl) ?_
                    refine lv_lload hx hb d_M_write_173 (lv_at hl 0 rfl) ?_
                    refine lv_bipush (v := 8) hx hb d_M_write_175 (by decide) ?_
                    refine lv_iload hx hb d_M_write_177 (lv_at hl 7 rfl) ?_
                    refine lv_iload hx hb d_M_write_179 (lv_at hl 1 rfl) ?_
                    refine lv_isub hx hb d_M_write_181 ?_
                    refine lv_imul hx hb d_M_write_182 ?_
                    refine lv_lushr (v := (xb_lushr x3 ((8 : Int32) * (x4 - x4)))) hx hb d_M_write_183 rfl ?_
                    refine lv_lconst (v := 0) hx hb d_M_write_184 (by decide) ?_
                    refine sm_cv (va_runV (As := [.int x1, .int (94 : Int32), .long (σ.2 29 ((3 * x1.toNatClampNeg) + x2.toNatClampNeg)), .long x4.toInt64, .long (xb_lushr x3 ((8 : Int32) * (x4 - x4))), .long (0 : Int64)]) (rest := []) ⟨hx, hb, hml, hown, hts⟩ (c_M_send l D α κ hα (xb_sl (xb_si σ 0 0 (0 : Int32)) 30 ((3 * x1.toNatClampNeg) + x2.toNatClampNeg) ((σ.2 30 ((3 * x1.toNatClampNeg) + x2.toNatClampNeg)) - x4.toInt64)) x1 x1.toNatClampNeg zc1.1.1 (by omega) (94 : Int32) (σ.2 29 ((3 * x1.toNatClampNeg) + x2.toNatClampNeg)) x4.toInt64 (xb_lushr x3 ((8 : Int32) * (x4 - x4))) (0 : Int64) (mk_sl (mk_si ok (by decide)))) (cwV 6 hts (xa_V xw1084 xw1086 xs6 xw11 xw1087) rfl rfl rfl (by decide +kernel) ⟨Nat.le_of_ble_eq_true rfl, Nat.le_of_ble_eq_true rfl⟩) ⟨sm_blind, va_recv (q0 := 0) (ci := 9) hK hP rfl rfl, sm_pre hP hK hN _⟩ rfl rfl hl.1 rfl (lv_room (Nat.le_of_ble_eq_true rfl)) d_M_write_185 ⟨Nat.le_of_ble_eq_true rfl, Nat.le_of_ble_eq_true rfl⟩) hS (fun _ h_ => h_) (fun H locs hP hS => ?_)
                    obtain ⟨τ4, hτ4⟩ : ∃ t_, t_ = (q_send x1.toNatClampNeg (94 : Int32) (σ.2 29 ((3 * x1.toNatClampNeg) + x2.toNatClampNeg)) x4.toInt64 (xb_lushr x3 ((8 : Int32) * (x4 - x4))) (0 : Int64) (xb_sl (xb_si σ 0 0 (0 : Int32)) 30 ((3 * x1.toNatClampNeg) + x2.toNatClampNeg) ((σ.2 30 ((3 * x1.toNatClampNeg) + x2.toNatClampNeg)) - x4.toInt64))) := ⟨_, rfl⟩
                    rw [← hτ4] at hP
                    have okτ4 : sm_ok τ4 := by rw [hτ4]; exact (ok_q_send x1.toNatClampNeg (94 : Int32) (σ.2 29 ((3 * x1.toNatClampNeg) + x2.toNatClampNeg)) x4.toInt64 (xb_lushr x3 ((8 : Int32) * (x4 - x4))) (0 : Int64) (by omega) (mk_sl (mk_si ok (by decide))))
                    refine lv_iload hx hb d_M_write_188 (lv_at hl 1 rfl) ?_
                    exact W.iret (v := x4) hx hb hr (fun t ht_ hW => ⟨⟨x4, τ4, rfl, ⟨congrArg Prod.fst (((by subst hτ4; exact ((if_neg c1).trans ((if_pos c2).trans ((if_pos c3).trans ((if_neg c4).trans ((if_pos c5).trans ((if_pos c6).trans ((if_pos c7).trans ((if_neg c8).trans ((if_pos c9)))))))))).symm)) : (x4, τ4) = q_write x1 x2 x3 x4 σ), congrArg Prod.snd (((by subst hτ4; exact ((if_neg c1).trans ((if_pos c2).trans ((if_pos c3).trans ((if_neg c4).trans ((if_pos c5).trans ((if_pos c6).trans ((if_pos c7).trans ((if_neg c8).trans ((if_pos c9)))))))))).symm)) : (x4, τ4) = q_write x1 x2 x3 x4 σ)⟩, by rw [sm_B, ht_]; exact hP⟩, hS.F ht_⟩) hS.2.2 d_M_write_190
              · skip
                refine lv_aload_n hx hb d_M_write_102 rfl (lv_at hl 1 rfl) ?_
                refine sm_g (v := .ref (α 30)) hx hb ht hown hK hP 32 (by decide) (ht _ xw984) (fun _ h_ => h_) rfl d_M_write_103 ?_
                refine lv_iload hx hb d_M_write_106 (lv_at hl 0 rfl) ?_
                refine sm_gaJ (L := 6) (n := ((3 * x1.toNatClampNeg) + x2.toNatClampNeg)) (v := (σ.2 30 ((3 * x1.toNatClampNeg) + x2.toNatClampNeg))) hx hb hK hP 30 29 rfl rfl (xb_in (xb_na (xb_nm (xb_lit (x := (3 : Int32)) 3 rfl) zc1.1.1) zc1.2.1) (by omega) (by decide)) (xb_cl (xb_na (xb_nm (xb_lit (x := (3 : Int32)) 3 rfl) zc1.1.1) zc1.2.1) (by omega)) xb_l_i d_M_write_108 ?_
                refine lv_l2i (v := (σ.2 30 ((3 * x1.toNatClampNeg) + x2.toNatClampNeg)).toInt32) hx hb d_M_write_109 (by rfl) ?_
                refine lv_goto (tgt := 115) hx hb d_M_write_110 (by decide) ?_
                refine lv_istore (lv' := [(7, .int ((σ.2 30 ((3 * x1.toNatClampNeg) + x2.toNatClampNeg)).toInt32)), (6, .int (((3 : Int32) * x1) + x2)), (0, .ref (α 0)), (1, .int x1), (2, .int x2), (3, .long x3), (5, .int x4)]) hx hb d_M_write_115 hl (by decide) rfl (fun ls hl => ?_)
                refine lv_iload hx hb d_M_write_117 (lv_at hl 0 rfl) ?_
                refine lv_if_le (tgt := 188) hx hb d_M_write_119 (by decide) (fun c10 => ?_) (fun c10 => ?_)
                · skip
                  refine lv_iload hx hb d_M_write_188 (lv_at hl 0 rfl) ?_
                  exact W.iret (v := (σ.2 30 ((3 * x1.toNatClampNeg) + x2.toNatClampNeg)).toInt32) hx hb hr (fun t ht_ hW => ⟨⟨(σ.2 30 ((3 * x1.toNatClampNeg) + x2.toNatClampNeg)).toInt32, (xb_si σ 0 0 (0 : Int32)), rfl, ⟨congrArg Prod.fst ((((if_neg c1).trans ((if_pos c2).trans ((if_pos c3).trans ((if_neg c4).trans ((if_pos c5).trans ((if_pos c6).trans ((if_neg c7).trans ((if_pos c10))))))))).symm) : ((σ.2 30 ((3 * x1.toNatClampNeg) + x2.toNatClampNeg)).toInt32, (xb_si σ 0 0 (0 : Int32))) = q_write x1 x2 x3 x4 σ), congrArg Prod.snd ((((if_neg c1).trans ((if_pos c2).trans ((if_pos c3).trans ((if_neg c4).trans ((if_pos c5).trans ((if_pos c6).trans ((if_neg c7).trans ((if_pos c10))))))))).symm) : ((σ.2 30 ((3 * x1.toNatClampNeg) + x2.toNatClampNeg)).toInt32, (xb_si σ 0 0 (0 : Int32))) = q_write x1 x2 x3 x4 σ)⟩, by rw [sm_B, ht_]; exact hP⟩, hS.F ht_⟩) hS.2.2 d_M_write_190
                · skip
                  refine lv_iload hx hb d_M_write_122 (lv_at hl 6 rfl) ?_
                  refine lv_bipush (v := 8) hx hb d_M_write_124 (by decide) ?_
                  refine lv_icmp_ne (tgt := 133) hx hb d_M_write_126 (by decide) (fun c11 => ?_) (fun c11 => ?_)
                  · skip
                    refine lv_lload_n hx hb d_M_write_133 rfl (lv_at hl 5 rfl) ?_
                    refine lv_lconst (v := 1) hx hb d_M_write_134 (by decide) ?_
                    refine lv_bipush (v := 8) hx hb d_M_write_135 (by decide) ?_
                    refine lv_iload hx hb d_M_write_137 (lv_at hl 6 rfl) ?_
                    refine lv_imul hx hb d_M_write_139 ?_
                    refine lv_lshl (v := (xb_lshl (1 : Int64) ((8 : Int32) * x4))) hx hb d_M_write_140 rfl ?_
                    refine lv_lconst (v := 1) hx hb d_M_write_141 (by decide) ?_
                    refine lv_lsub hx hb d_M_write_142 ?_
                    refine lv_land hx hb d_M_write_143 ?_
                    refine lv_lstore (lv' := [(8, .long (x3 &&& ((xb_lshl (1 : Int64) ((8 : Int32) * x4)) - (1 : Int64)))), (7, .int ((σ.2 30 ((3 * x1.toNatClampNeg) + x2.toNatClampNeg)).toInt32)), (6, .int (((3 : Int32) * x1) + x2)), (0, .ref (α 0)), (1, .int x1), (2, .int x2), (3, .long x3), (5, .int x4)]) hx hb d_M_write_144 hl (by decide) rfl (fun ls hl => ?_)
                    refine lv_aload_n hx hb d_M_write_146 rfl (lv_at hl 3 rfl) ?_
                    refine sm_g (v := .ref (α 30)) hx hb ht hown hK hP 32 (by decide) (ht _ xw984) (fun _ h_ => h_) rfl d_M_write_147 ?_
                    refine lv_iload hx hb d_M_write_150 (lv_at hl 2 rfl) ?_
                    refine lv_dup2_11 hx hb d_M_write_152 rfl rfl ?_
                    refine sm_gaJ (L := 6) (n := ((3 * x1.toNatClampNeg) + x2.toNatClampNeg)) (v := (σ.2 30 ((3 * x1.toNatClampNeg) + x2.toNatClampNeg))) hx hb hK hP 30 29 rfl rfl (xb_in (xb_na (xb_nm (xb_lit (x := (3 : Int32)) 3 rfl) zc1.1.1) zc1.2.1) (by omega) (by decide)) (xb_cl (xb_na (xb_nm (xb_lit (x := (3 : Int32)) 3 rfl) zc1.1.1) zc1.2.1) (by omega)) xb_l_i d_M_write_153 ?_
                    refine lv_iload hx hb d_M_write_154 (lv_at hl 1 rfl) ?_
                    refine lv_i2l (v := ((σ.2 30 ((3 * x1.toNatClampNeg) + x2.toNatClampNeg)).toInt32).toInt64) hx hb d_M_write_156 (by rfl) ?_
                    refine lv_lsub hx hb d_M_write_157 ?_
                    refine sm_paJ (L := 6) (n := ((3 * x1.toNatClampNeg) + x2.toNatClampNeg)) (x := ((σ.2 30 ((3 * x1.toNatClampNeg) + x2.toNatClampNeg)) - ((σ.2 30 ((3 * x1.toNatClampNeg) + x2.toNatClampNeg)).toInt32).toInt64)) hx hb hK hP 30 29 rfl rfl hD hS (xb_in (xb_na (xb_nm (xb_lit (x := (3 : Int32)) 3 rfl) zc1.1.1) zc1.2.1) (by omega) (by decide)) (xb_cl (xb_na (xb_nm (xb_lit (x := (3 : Int32)) 3 rfl) zc1.1.1) zc1.2.1) (by omega)) sm_s_30 d_M_write_158 (fun H locs hP hS => ?_)
                    refine lv_aload_n hx hb d_M_write_159 rfl (lv_at hl 3 rfl) ?_
                    refine lv_iload_n hx hb d_M_write_160 rfl (lv_at hl 4 rfl) ?_
                    refine lv_bipush (v := 94) hx hb d_M_write_161 (by decide) ?_
                    refine lv_aload_n hx hb d_M_write_163 rfl (lv_at hl 3 rfl) ?_
                    refine sm_g (v := .ref (α 29)) hx hb ht hown hK hP 31 (by decide) (ht _ xw983) (fun _ h_ => h_) rfl d_M_write_164 ?_
                    refine lv_iload hx hb d_M_write_167 (lv_at hl 2 rfl) ?_
                    refine sm_gaJ (L := 6) (n := ((3 * x1.toNatClampNeg) + x2.toNatClampNeg)) (v := (σ.2 29 ((3 * x1.toNatClampNeg) + x2.toNatClampNeg))) hx hb hK hP 29 28 rfl rfl (xb_in (xb_na (xb_nm (xb_lit (x := (3 : Int32)) 3 rfl) zc1.1.1) zc1.2.1) (by omega) (by decide)) (xb_cl (xb_na (xb_nm (xb_lit (x := (3 : Int32)) 3 rfl) zc1.1.1) zc1.2.1) (by omega)) (((xb_l_nk (by decide))).trans (xb_l_i)) d_M_write_169 ?_
                    refine lv_iload hx hb d_M_write_170 (lv_at hl 1 rfl) ?_
                    refine lv_i2l (v := ((σ.2 30 ((3 * x1.toNatClampNeg) + x2.toNatClampNeg)).toInt32).toInt64) hx hb d_M_write_172 (by rfl) ?_
                    refine lv_lload hx hb d_M_write_173 (lv_at hl 0 rfl) ?_
                    refine lv_bipush (v := 8) hx hb d_M_write_175 (by decide) ?_
                    refine lv_iload hx hb d_M_write_177 (lv_at hl 7 rfl) ?_
                    refine lv_iload hx hb d_M_write_179 (lv_at hl 1 rfl) ?_
                    refine lv_isub hx hb d_M_write_181 ?_
                    refine lv_imul hx hb d_M_write_182 ?_
                    refine lv_lushr (v := (xb_lushr (x3 &&& ((xb_lshl (1 : Int64) ((8 : Int32) * x4)) - (1 : Int64))) ((8 : Int32) * (x4 - (σ.2 30 ((3 * x1.toNatClampNeg) + x2.toNatClampNeg)).toInt32)))) hx hb d_M_write_183 rfl ?_
                    refine lv_lconst (v := 0) hx hb d_M_write_184 (by decide) ?_
                    refine sm_cv (va_runV (As := [.int x1, .int (94 : Int32), .long (σ.2 29 ((3 * x1.toNatClampNeg) + x2.toNatClampNeg)), .long (((σ.2 30 ((3 * x1.toNatClampNeg) + x2.toNatClampNeg)).toInt32).toInt64), .long (xb_lushr (x3 &&& ((xb_lshl (1 : Int64) ((8 : Int32) * x4)) - (1 : Int64))) ((8 : Int32) * (x4 - (σ.2 30 ((3 * x1.toNatClampNeg) + x2.toNatClampNeg)).toInt32))), .long (0 : Int64)]) (rest := []) ⟨hx, hb, hml, hown, hts⟩ (c_M_send l D α κ hα (xb_sl (xb_si σ 0 0 (0 : Int32)) 30 ((3 * x1.toNatClampNeg) + x2.toNatClampNeg) ((σ.2 30 ((3 * x1.toNatClampNeg) + x2.toNatClampNeg)) - ((σ.2 30 ((3 * x1.toNatClampNeg) + x2.toNatClampNeg)).toInt32).toInt64)) x1 x1.toNatClampNeg zc1.1.1 (by omega) (94 : Int32) (σ.2 29 ((3 * x1.toNatClampNeg) + x2.toNatClampNeg)) (((σ.2 30 ((3 * x1.toNatClampNeg) + x2.toNatClampNeg)).toInt32).toInt64) (xb_lushr (x3 &&& ((xb_lshl (1 : Int64) ((8 : Int32) * x4)) - (1 : Int64))) ((8 : Int32) * (x4 - (σ.2 30 ((3 * x1.toNatClampNeg) + x2.toNatClampNeg)).toInt32))) (0 : Int64) (mk_sl (mk_si ok (by decide)))) (cwV 6 hts (xa_V xw1084 xw1086 xs6 xw11 xw1087) rfl rfl rfl (by decide +kernel) ⟨Nat.le_of_ble_eq_true rfl, Nat.le_of_ble_eq_true rfl⟩) ⟨sm_blind, va_recv (q0 := 0) (ci := 9) hK hP rfl rfl, sm_pre hP hK hN _⟩ rfl rfl hl.1 rfl (lv_room (Nat.le_of_ble_eq_true rfl)) d_M_write_185 ⟨Nat.le_of_ble_eq_true rfl, Nat.le_of_ble_eq_true rfl⟩) hS (fun _ h_ => h_) (fun H locs hP hS => ?_)
                    obtain ⟨τ5, hτ5⟩ : ∃ t_, t_ = (q_send x1.toNatClampNeg (94 : Int32) (σ.2 29 ((3 * x1.toNatClampNeg) + x2.toNatClampNeg)) (((σ.2 30 ((3 * x1.toNatClampNeg) + x2.toNatClampNeg)).toInt32).toInt64) (xb_lushr (x3 &&& ((xb_lshl (1 : Int64) ((8 : Int32) * x4)) - (1 : Int64))) ((8 : Int32) * (x4 - (σ.2 30 ((3 * x1.toNatClampNeg) + x2.toNatClampNeg)).toInt32))) (0 : Int64) (xb_sl (xb_si σ 0 0 (0 : Int32)) 30 ((3 * x1.toNatClampNeg) + x2.toNatClampNeg) ((σ.2 30 ((3 * x1.toNatClampNeg) + x2.toNatClampNeg)) - ((σ.2 30 ((3 * x1.toNatClampNeg) + x2.toNatClampNeg)).toInt32).toInt64))) := ⟨_, rfl⟩
                    rw [← hτ5] at hP
                    have okτ5 : sm_ok τ5 := by rw [hτ5]; exact (ok_q_send x1.toNatClampNeg (94 : Int32) (σ.2 29 ((3 * x1.toNatClampNeg) + x2.toNatClampNeg)) (((σ.2 30 ((3 * x1.toNatClampNeg) + x2.toNatClampNeg)).toInt32).toInt64) (xb_lushr (x3 &&& ((xb_lshl (1 : Int64) ((8 : Int32) * x4)) - (1 : Int64))) ((8 : Int32) * (x4 - (σ.2 30 ((3 * x1.toNatClampNeg) + x2.toNatClampNeg)).toInt32))) (0 : Int64) (by omega) (mk_sl (mk_si ok (by decide))))
                    refine lv_iload hx hb d_M_write_188 (lv_at hl 1 rfl) ?_
                    exact W.iret (v := (σ.2 30 ((3 * x1.toNatClampNeg) + x2.toNatClampNeg)).toInt32) hx hb hr (fun t ht_ hW => ⟨⟨(σ.2 30 ((3 * x1.toNatClampNeg) + x2.toNatClampNeg)).toInt32, τ5, rfl, ⟨congrArg Prod.fst (((by subst hτ5; exact ((if_neg c1).trans ((if_pos c2).trans ((if_pos c3).trans ((if_neg c4).trans ((if_pos c5).trans ((if_pos c6).trans ((if_neg c7).trans ((if_neg c10).trans ((if_neg c11)))))))))).symm)) : ((σ.2 30 ((3 * x1.toNatClampNeg) + x2.toNatClampNeg)).toInt32, τ5) = q_write x1 x2 x3 x4 σ), congrArg Prod.snd (((by subst hτ5; exact ((if_neg c1).trans ((if_pos c2).trans ((if_pos c3).trans ((if_neg c4).trans ((if_pos c5).trans ((if_pos c6).trans ((if_neg c7).trans ((if_neg c10).trans ((if_neg c11)))))))))).symm)) : ((σ.2 30 ((3 * x1.toNatClampNeg) + x2.toNatClampNeg)).toInt32, τ5) = q_write x1 x2 x3 x4 σ)⟩, by rw [sm_B, ht_]; exact hP⟩, hS.F ht_⟩) hS.2.2 d_M_write_190
                  · skip
                    refine lv_lload_n hx hb d_M_write_129 rfl (lv_at hl 5 rfl) ?_
                    refine lv_goto (tgt := 144) hx hb d_M_write_130 (by decide) ?_
                    refine lv_lstore (lv' := [(8, .long x3), (7, .int ((σ.2 30 ((3 * x1.toNatClampNeg) + x2.toNatClampNeg)).toInt32)), (6, .int (((3 : Int32) * x1) + x2)), (0, .ref (α 0)), (1, .int x1), (2, .int x2), (3, .long x3), (5, .int x4)]) hx hb d_M_write_144 hl (by decide) rfl (fun ls hl => ?_)
                    refine lv_aload_n hx hb d_M_write_146 rfl (lv_at hl 3 rfl) ?_
                    refine sm_g (v := .ref (α 30)) hx hb ht hown hK hP 32 (by decide) (ht _ xw984) (fun _ h_ => h_) rfl d_M_write_147 ?_
                    refine lv_iload hx hb d_M_write_150 (lv_at hl 2 rfl) ?_
                    refine lv_dup2_11 hx hb d_M_write_152 rfl rfl ?_
                    refine sm_gaJ (L := 6) (n := ((3 * x1.toNatClampNeg) + x2.toNatClampNeg)) (v := (σ.2 30 ((3 * x1.toNatClampNeg) + x2.toNatClampNeg))) hx hb hK hP 30 29 rfl rfl (xb_in (xb_na (xb_nm (xb_lit (x := (3 : Int32)) 3 rfl) zc1.1.1) zc1.2.1) (by omega) (by decide)) (xb_cl (xb_na (xb_nm (xb_lit (x := (3 : Int32)) 3 rfl) zc1.1.1) zc1.2.1) (by omega)) xb_l_i d_M_write_153 ?_
                    refine lv_iload hx hb d_M_write_154 (lv_at hl 1 rfl) ?_
                    refine lv_i2l (v := ((σ.2 30 ((3 * x1.toNatClampNeg) + x2.toNatClampNeg)).toInt32).toInt64) hx hb d_M_write_156 (by rfl) ?_
                    refine lv_lsub hx hb d_M_write_157 ?_
                    refine sm_paJ (L := 6) (n := ((3 * x1.toNatClampNeg) + x2.toNatClampNeg)) (x := ((σ.2 30 ((3 * x1.toNatClampNeg) + x2.toNatClampNeg)) - ((σ.2 30 ((3 * x1.toNatClampNeg) + x2.toNatClampNeg)).toInt32).toInt64)) hx hb hK hP 30 29 rfl rfl hD hS (xb_in (xb_na (xb_nm (xb_lit (x := (3 : Int32)) 3 rfl) zc1.1.1) zc1.2.1) (by omega) (by decide)) (xb_cl (xb_na (xb_nm (xb_lit (x := (3 : Int32)) 3 rfl) zc1.1.1) zc1.2.1) (by omega)) sm_s_30 d_M_write_158 (fun H locs hP hS => ?_)
                    refine lv_aload_n hx hb d_M_write_159 rfl (lv_at hl 3 rfl) ?_
                    refine lv_iload_n hx hb d_M_write_160 rfl (lv_at hl 4 rfl) ?_
                    refine lv_bipush (v := 94) hx hb d_M_write_161 (by decide) ?_
                    refine lv_aload_n hx hb d_M_write_163 rfl (lv_at hl 3 rfl) ?_
                    refine sm_g (v := .ref (α 29)) hx hb ht hown hK hP 31 (by decide) (ht _ xw983) (fun _ h_ => h_) rfl d_M_write_164 ?_
                    refine lv_iload hx hb d_M_write_167 (lv_at hl 2 rfl) ?_
                    refine sm_gaJ (L := 6) (n := ((3 * x1.toNatClampNeg) + x2.toNatClampNeg)) (v := (σ.2 29 ((3 * x1.toNatClampNeg) + x2.toNatClampNeg))) hx hb hK hP 29 28 rfl rfl (xb_in (xb_na (xb_nm (xb_lit (x := (3 : Int32)) 3 rfl) zc1.1.1) zc1.2.1) (by omega) (by decide)) (xb_cl (xb_na (xb_nm (xb_lit (x := (3 : Int32)) 3 rfl) zc1.1.1) zc1.2.1) (by omega)) (((xb_l_nk (by decide))).trans (xb_l_i)) d_M_write_169 ?_
                    refine lv_iload hx hb d_M_write_170 (lv_at hl 1 rfl) ?_
                    refine lv_i2l (v := ((σ.2 30 ((3 * x1.toNatClampNeg) + x2.toNatClampNeg)).toInt32).toInt64) hx hb d_M_write_172 (by rfl) ?_
                    refine lv_lload hx hb d_M_write_173 (lv_at hl 0 rfl) ?_
                    refine lv_bipush (v := 8) hx hb d_M_write_175 (by decide) ?_
                    refine lv_iload hx hb d_M_write_177 (lv_at hl 7 rfl) ?_
                    refine lv_iload hx hb d_M_write_179 (lv_at hl 1 rfl) ?_
                    refine lv_isub hx hb d_M_write_181 ?_
                    refine lv_imul hx hb d_M_write_182 ?_
                    refine lv_lushr (v := (xb_lushr x3 ((8 : Int32) * (x4 - (σ.2 30 ((3 * x1.toNatClampNeg) + x2.toNatClampNeg)).toInt32)))) hx hb d_M_write_183 rfl ?_
                    refine lv_lconst (v := 0) hx hb d_M_write_184 (by decide) ?_
                    refine sm_cv (va_runV (As := [.int x1, .int (94 : Int32), .long (σ.2 29 ((3 * x1.toNatClampNeg) + x2.toNatClampNeg)), .long (((σ.2 30 ((3 * x1.toNatClampNeg) + x2.toNatClampNeg)).toInt32).toInt64), .long (xb_lushr x3 ((8 : Int32) * (x4 - (σ.2 30 ((3 * x1.toNatClampNeg) + x2.toNatClampNeg)).toInt32))), .long (0 : Int64)]) (rest := []) ⟨hx, hb, hml, hown, hts⟩ (c_M_send l D α κ hα (xb_sl (xb_si σ 0 0 (0 : Int32)) 30 ((3 * x1.toNatClampNeg) + x2.toNatClampNeg) ((σ.2 30 ((3 * x1.toNatClampNeg) + x2.toNatClampNeg)) - ((σ.2 30 ((3 * x1.toNatClampNeg) + x2.toNatClampNeg)).toInt32).toInt64)) x1 x1.toNatClampNeg zc1.1.1 (by omega) (94 : Int32) (σ.2 29 ((3 * x1.toNatClampNeg) + x2.toNatClampNeg)) (((σ.2 30 ((3 * x1.toNatClampNeg) + x2.toNatClampNeg)).toInt32).toInt64) (xb_lushr x3 ((8 : Int32) * (x4 - (σ.2 30 ((3 * x1.toNatClampNeg) + x2.toNatClampNeg)).toInt32))) (0 : Int64) (mk_sl (mk_si ok (by decide)))) (cwV 6 hts (xa_V xw1084 xw1086 xs6 xw11 xw1087) rfl rfl rfl (by decide +kernel) ⟨Nat.le_of_ble_eq_true rfl, Nat.le_of_ble_eq_true rfl⟩) ⟨sm_blind, va_recv (q0 := 0) (ci := 9) hK hP rfl rfl, sm_pre hP hK hN _⟩ rfl rfl hl.1 rfl (lv_room (Nat.le_of_ble_eq_true rfl)) d_M_write_185 ⟨Nat.le_of_ble_eq_true rfl, Nat.le_of_ble_eq_true rfl⟩) hS (fun _ h_ => h_) (fun H locs hP hS => ?_)
                    obtain ⟨τ6, hτ6⟩ : ∃ t_, t_ = (q_send x1.toNatClampNeg (94 : Int32) (σ.2 29 ((3 * x1.toNatClampNeg) + x2.toNatClampNeg)) (((σ.2 30 ((3 * x1.toNatClampNeg) + x2.toNatClampNeg)).toInt32).toInt64) (xb_lushr x3 ((8 : Int32) * (x4 - (σ.2 30 ((3 * x1.toNatClampNeg) + x2.toNatClampNeg)).toInt32))) (0 : Int64) (xb_sl (xb_si σ 0 0 (0 : Int32)) 30 ((3 * x1.toNatClampNeg) + x2.toNatClampNeg) ((σ.2 30 ((3 * x1.toNatClampNeg) + x2.toNatClampNeg)) - ((σ.2 30 ((3 * x1.toNatClampNeg) + x2.toNatClampNeg)).toInt32).toInt64))) := ⟨_, rfl⟩
                    rw [← hτ6] at hP
                    have okτ6 : sm_ok τ6 := by rw [hτ6]; exact (ok_q_send x1.toNatClampNeg (94 : Int32) (σ.2 29 ((3 * x1.toNatClampNeg) + x2.toNatClampNeg)) (((σ.2 30 ((3 * x1.toNatClampNeg) + x2.toNatClampNeg)).toInt32).toInt64) (xb_lushr x3 ((8 : Int32) * (x4 - (σ.2 30 ((3 * x1.toNatClampNeg) + x2.toNatClampNeg)).toInt32))) (0 : Int64) (by omega) (mk_sl (mk_si ok (by decide))))
                    refine lv_iload hx hb d_M_write_188 (lv_at hl 1 rfl) ?_
                    exact W.iret (v := (σ.2 30 ((3 * x1.toNatClampNeg) + x2.toNatClampNeg)).toInt32) hx hb hr (fun t ht_ hW => ⟨⟨(σ.2 30 ((3 * x1.toNatClampNeg) + x2.toNatClampNeg)).toInt32, τ6, rfl, ⟨congrArg Prod.fst (((by subst hτ6; exact ((if_neg c1).trans ((if_pos c2).trans ((if_pos c3).trans ((if_neg c4).trans ((if_pos c5).trans ((if_pos c6).trans ((if_neg c7).trans ((if_neg c10).trans ((if_pos c11)))))))))).symm)) : ((σ.2 30 ((3 * x1.toNatClampNeg) + x2.toNatClampNeg)).toInt32, τ6) = q_write x1 x2 x3 x4 σ), congrArg Prod.snd (((by subst hτ6; exact ((if_neg c1).trans ((if_pos c2).trans ((if_pos c3).trans ((if_neg c4).trans ((if_pos c5).trans ((if_pos c6).trans ((if_neg c7).trans ((if_neg c10).trans ((if_pos c11)))))))))).symm)) : ((σ.2 30 ((3 * x1.toNatClampNeg) + x2.toNatClampNeg)).toInt32, τ6) = q_write x1 x2 x3 x4 σ)⟩, by rw [sm_B, ht_]; exact hP⟩, hS.F ht_⟩) hS.2.2 d_M_write_190
            · skip
              refine lv_iconst (v := 0) hx hb d_M_write_84 (by decide) ?_
              refine lv_goto (tgt := 115) hx hb d_M_write_85 (by decide) ?_
              refine lv_istore (lv' := [(7, .int (0 : Int32)), (6, .int (((3 : Int32) * x1) + x2)), (0, .ref (α 0)), (1, .int x1), (2, .int x2), (3, .long x3), (5, .int x4)]) hx hb d_M_write_115 hl (by decide) rfl (fun ls hl => ?_)
              refine lv_iload hx hb d_M_write_117 (lv_at hl 0 rfl) ?_
              refine lv_if_le (tgt := 188) hx hb d_M_write_119 (by decide) (fun _ => ?_) (fun h_ => absurd h_ (by decide))
              refine lv_iload hx hb d_M_write_188 (lv_at hl 0 rfl) ?_
              exact W.iret (v := (0 : Int32)) hx hb hr (fun t ht_ hW => ⟨⟨(0 : Int32), (xb_si σ 0 0 (0 : Int32)), rfl, ⟨congrArg Prod.fst ((((if_neg c1).trans ((if_pos c2).trans ((if_pos c3).trans ((if_neg c4).trans ((if_pos c5).trans ((if_neg c6))))))).symm) : ((0 : Int32), (xb_si σ 0 0 (0 : Int32))) = q_write x1 x2 x3 x4 σ), congrArg Prod.snd ((((if_neg c1).trans ((if_pos c2).trans ((if_pos c3).trans ((if_neg c4).trans ((if_pos c5).trans ((if_neg c6))))))).symm) : ((0 : Int32), (xb_si σ 0 0 (0 : Int32))) = q_write x1 x2 x3 x4 σ)⟩, by rw [sm_B, ht_]; exact hP⟩, hS.F ht_⟩) hS.2.2 d_M_write_190
          · skip
            refine lv_aload_n hx hb d_M_write_61 rfl (lv_at hl 1 rfl) ?_
            refine lv_iconst (v := 3) hx hb d_M_write_62 (by decide) ?_
            refine sm_ci (va_runV (As := [.int (3 : Int32)]) (rest := []) ⟨hx, hb, hml, hown, hts⟩ (c_M_raise l D α κ hα σ (3 : Int32)) (cwV 1 hts (xa_V xw1076 xw1078 xs4 xw11 xw1079) rfl rfl rfl (by decide +kernel) ⟨Nat.le_of_ble_eq_true rfl, Nat.le_of_ble_eq_true rfl⟩) ⟨sm_blind, va_recv (q0 := 0) (ci := 9) hK hP rfl rfl, sm_pre hP hK hN _⟩ rfl rfl hl.1 rfl (lv_room (Nat.le_of_ble_eq_true rfl)) d_M_write_63 ⟨Nat.le_of_ble_eq_true rfl, Nat.le_of_ble_eq_true rfl⟩) hS (fun _ h_ => h_) (fun H locs hP hS => ?_)
            obtain ⟨τ7, hτ7⟩ : ∃ t_, t_ = (q_raise (3 : Int32) σ).2 := ⟨_, rfl⟩
            rw [← hτ7] at hP
            have okτ7 : sm_ok τ7 := by rw [hτ7]; exact (ok_q_raise (3 : Int32)  ok)
            obtain ⟨ρ7, hρ7⟩ : ∃ r_, r_ = (q_raise (3 : Int32) σ).1 := ⟨_, rfl⟩
            refine xb_ti (y := ρ7) hρ7.symm ?_
            exact W.iret (v := ρ7) hx hb hr (fun t ht_ hW => ⟨⟨ρ7, τ7, rfl, ⟨congrArg Prod.fst (((by subst hρ7; subst hτ7; exact ((if_neg c1).trans ((if_pos c2).trans ((if_pos c3).trans ((if_neg c4).trans ((if_neg c5)))))).symm)) : (ρ7, τ7) = q_write x1 x2 x3 x4 σ), congrArg Prod.snd (((by subst hρ7; subst hτ7; exact ((if_neg c1).trans ((if_pos c2).trans ((if_pos c3).trans ((if_neg c4).trans ((if_neg c5)))))).symm)) : (ρ7, τ7) = q_write x1 x2 x3 x4 σ)⟩, by rw [sm_B, ht_]; exact hP⟩, hS.F ht_⟩) hS.2.2 d_M_write_66
      · skip
        refine lv_aload_n hx hb d_M_write_42 rfl (lv_at hl 1 rfl) ?_
        refine lv_iconst (v := 2) hx hb d_M_write_43 (by decide) ?_
        refine sm_ci (va_runV (As := [.int (2 : Int32)]) (rest := []) ⟨hx, hb, hml, hown, hts⟩ (c_M_raise l D α κ hα σ (2 : Int32)) (cwV 1 hts (xa_V xw1076 xw1078 xs4 xw11 xw1079) rfl rfl rfl (by decide +kernel) ⟨Nat.le_of_ble_eq_true rfl, Nat.le_of_ble_eq_true rfl⟩) ⟨sm_blind, va_recv (q0 := 0) (ci := 9) hK hP rfl rfl, sm_pre hP hK hN _⟩ rfl rfl hl.1 rfl (lv_room (Nat.le_of_ble_eq_true rfl)) d_M_write_44 ⟨Nat.le_of_ble_eq_true rfl, Nat.le_of_ble_eq_true rfl⟩) hS (fun _ h_ => h_) (fun H locs hP hS => ?_)
        obtain ⟨τ8, hτ8⟩ : ∃ t_, t_ = (q_raise (2 : Int32) σ).2 := ⟨_, rfl⟩
        rw [← hτ8] at hP
        have okτ8 : sm_ok τ8 := by rw [hτ8]; exact (ok_q_raise (2 : Int32)  ok)
        obtain ⟨ρ8, hρ8⟩ : ∃ r_, r_ = (q_raise (2 : Int32) σ).1 := ⟨_, rfl⟩
        refine xb_ti (y := ρ8) hρ8.symm ?_
        exact W.iret (v := ρ8) hx hb hr (fun t ht_ hW => ⟨⟨ρ8, τ8, rfl, ⟨congrArg Prod.fst (((by subst hρ8; subst hτ8; exact ((if_neg c1).trans ((if_pos c2).trans ((if_neg c3)))).symm)) : (ρ8, τ8) = q_write x1 x2 x3 x4 σ), congrArg Prod.snd (((by subst hρ8; subst hτ8; exact ((if_neg c1).trans ((if_pos c2).trans ((if_neg c3)))).symm)) : (ρ8, τ8) = q_write x1 x2 x3 x4 σ)⟩, by rw [sm_B, ht_]; exact hP⟩, hS.F ht_⟩) hS.2.2 d_M_write_47
  · skip
    refine lv_aload_n hx hb d_M_write_8 rfl (lv_at hl 0 rfl) ?_
    refine lv_iconst (v := 1) hx hb d_M_write_9 (by decide) ?_
    refine sm_ci (va_runV (As := [.int (1 : Int32)]) (rest := []) ⟨hx, hb, hml, hown, hts⟩ (c_M_raise l D α κ hα σ (1 : Int32)) (cwV 1 hts (xa_V xw1076 xw1078 xs4 xw11 xw1079) rfl rfl rfl (by decide +kernel) ⟨Nat.le_of_ble_eq_true rfl, Nat.le_of_ble_eq_true rfl⟩) ⟨sm_blind, va_recv (q0 := 0) (ci := 9) hK hP rfl rfl, sm_pre hP hK hN _⟩ rfl rfl hl.1 rfl (lv_room (Nat.le_of_ble_eq_true rfl)) d_M_write_10 ⟨Nat.le_of_ble_eq_true rfl, Nat.le_of_ble_eq_true rfl⟩) hS (fun _ h_ => h_) (fun H locs hP hS => ?_)
    obtain ⟨τ9, hτ9⟩ : ∃ t_, t_ = (q_raise (1 : Int32) σ).2 := ⟨_, rfl⟩
    rw [← hτ9] at hP
    have okτ9 : sm_ok τ9 := by rw [hτ9]; exact (ok_q_raise (1 : Int32)  ok)
    obtain ⟨ρ9, hρ9⟩ : ∃ r_, r_ = (q_raise (1 : Int32) σ).1 := ⟨_, rfl⟩
    refine xb_ti (y := ρ9) hρ9.symm ?_
    exact W.iret (v := ρ9) hx hb hr (fun t ht_ hW => ⟨⟨ρ9, τ9, rfl, ⟨congrArg Prod.fst (((by subst hρ9; subst hτ9; exact ((if_pos c1)).symm)) : (ρ9, τ9) = q_write x1 x2 x3 x4 σ), congrArg Prod.snd (((by subst hρ9; subst hτ9; exact ((if_pos c1)).symm)) : (ρ9, τ9) = q_write x1 x2 x3 x4 σ)⟩, by rw [sm_B, ht_]; exact hP⟩, hS.F ht_⟩) hS.2.2 d_M_write_13
theorem ok_q_write {σ : xb_St} (x1 : Int32) (x2 : Int32) (x3 : Int64) (x4 : Int32)  (ok : sm_ok σ) : sm_ok (q_write x1 x2 x3 x4 σ).2 := by
  unfold q_write
  by_cases c1 : (g_isChannel x1 x2) = 0
  · rw [if_pos c1]
    exact (ok_q_raise (1 : Int32)  ok)
  · rw [if_neg c1]
    have zc1 := sm_chan c1
    by_cases c2 : (σ.1 4 x1.toNatClampNeg) = (4 : Int32)
    · rw [if_pos c2]
      by_cases c3 : (σ.1 28 ((3 * x1.toNatClampNeg) + x2.toNatClampNeg)) = (2 : Int32)
      · rw [if_pos c3]
        by_cases c4 : x4 < (1 : Int32)
        · rw [if_pos c4]
          exact (ok_q_raise (3 : Int32)  ok)
        · rw [if_neg c4]
          by_cases c5 : x4 ≤ (8 : Int32)
          · rw [if_pos c5]
            by_cases c6 : (1 : Int64) ≤ (σ.2 30 ((3 * x1.toNatClampNeg) + x2.toNatClampNeg))
            · rw [if_pos c6]
              by_cases c7 : x4.toInt64 ≤ (σ.2 30 ((3 * x1.toNatClampNeg) + x2.toNatClampNeg))
              · rw [if_pos c7]
                by_cases c8 : x4 ≤ 0
                · rw [if_pos c8]
                  exact (mk_si ok (by decide))
                · rw [if_neg c8]
                  by_cases c9 : x4 = (8 : Int32)
                  · rw [if_pos c9]
                    exact (ok_q_send x1.toNatClampNeg (94 : Int32) (σ.2 29 ((3 * x1.toNatClampNeg) + x2.toNatClampNeg)) x4.toInt64 (xb_lushr x3 ((8 : Int32) * (x4 - x4))) (0 : Int64) (by omega) (mk_sl (mk_si ok (by decide))))
                  · rw [if_neg c9]
                    exact (ok_q_send x1.toNatClampNeg (94 : Int32) (σ.2 29 ((3 * x1.toNatClampNeg) + x2.toNatClampNeg)) x4.toInt64 (xb_lushr (x3 &&& ((xb_lshl (1 : Int64) ((8 : Int32) * x4)) - (1 : Int64))) ((8 : Int32) * (x4 - x4))) (0 : Int64) (by omega) (mk_sl (mk_si ok (by decide))))
              · rw [if_neg c7]
                by_cases c10 : (σ.2 30 ((3 * x1.toNatClampNeg) + x2.toNatClampNeg)).toInt32 ≤ 0
                · rw [if_pos c10]
                  exact (mk_si ok (by decide))
                · rw [if_neg c10]
                  by_cases c11 : x4 = (8 : Int32)
                  · rw [if_pos c11]
                    exact (ok_q_send x1.toNatClampNeg (94 : Int32) (σ.2 29 ((3 * x1.toNatClampNeg) + x2.toNatClampNeg)) (((σ.2 30 ((3 * x1.toNatClampNeg) + x2.toNatClampNeg)).toInt32).toInt64) (xb_lushr x3 ((8 : Int32) * (x4 - (σ.2 30 ((3 * x1.toNatClampNeg) + x2.toNatClampNeg)).toInt32))) (0 : Int64) (by omega) (mk_sl (mk_si ok (by decide))))
                  · rw [if_neg c11]
                    exact (ok_q_send x1.toNatClampNeg (94 : Int32) (σ.2 29 ((3 * x1.toNatClampNeg) + x2.toNatClampNeg)) (((σ.2 30 ((3 * x1.toNatClampNeg) + x2.toNatClampNeg)).toInt32).toInt64) (xb_lushr (x3 &&& ((xb_lshl (1 : Int64) ((8 : Int32) * x4)) - (1 : Int64))) ((8 : Int32) * (x4 - (σ.2 30 ((3 * x1.toNatClampNeg) + x2.toNatClampNeg)).toInt32))) (0 : Int64) (by omega) (mk_sl (mk_si ok (by decide))))
            · rw [if_neg c6]
              exact (mk_si ok (by decide))
          · rw [if_neg c5]
            exact (ok_q_raise (3 : Int32)  ok)
      · rw [if_neg c3]
        exact (ok_q_raise (2 : Int32)  ok)
    · rw [if_neg c2]
      exact (ok_q_raise (2 : Int32)  ok)
