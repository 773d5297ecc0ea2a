abbrev b_Init_set : ByteArray := prog_6_method_2_code
def y_Init_set : MethodName := ⟨"SecurePair$Init", "set", "(JJJ)V"⟩
abbrev w_Init_set : List Cond := .code y_Init_set b_Init_set 7 none :: xa
theorem d_Init_set_0 : decode b_Init_set 0 = .ok (.aload_n 0, 1) := by decide +kernel
theorem d_Init_set_1 : decode b_Init_set 1 = .ok (.lload_n 1, 1) := by decide +kernel
theorem d_Init_set_2 : decode b_Init_set 2 = .ok (.putfield 7, 3) := by decide +kernel
theorem d_Init_set_5 : decode b_Init_set 5 = .ok (.aload_n 0, 1) := by decide +kernel
theorem d_Init_set_6 : decode b_Init_set 6 = .ok (.lload_n 3, 1) := by decide +kernel
theorem d_Init_set_7 : decode b_Init_set 7 = .ok (.putfield 13, 3) := by decide +kernel
theorem d_Init_set_10 : decode b_Init_set 10 = .ok (.aload_n 0, 1) := by decide +kernel
theorem d_Init_set_11 : decode b_Init_set 11 = .ok (.lload 5, 2) := by decide +kernel
theorem d_Init_set_13 : decode b_Init_set 13 = .ok (.putfield 16, 3) := by decide +kernel
theorem d_Init_set_16 : decode b_Init_set 16 = .ok (.return_, 1) := by decide +kernel
theorem xw138 : (Cond.fieldLink "SecurePair$Init" (7 : Nat) "SecurePair$Init" "count" "J") ∈ xa := xa_t 138 (by decide +kernel) (by decide +kernel)
theorem xw141 : (Cond.fieldLink "SecurePair$Init" (13 : Nat) "SecurePair$Init" "ciphers" "J") ∈ xa := xa_t 141 (by decide +kernel) (by decide +kernel)
theorem xw142 : (Cond.fieldLink "SecurePair$Init" (16 : Nat) "SecurePair$Init" "tags" "J") ∈ xa := xa_t 142 (by decide +kernel) (by decide +kernel)
def p_Init_set (K : Nat) (x1 : Int64) (x2 : Int64) (x3 : Int64) (σ : xb_St) : xb_St := (xb_sl (xb_sl (xb_sl σ K 0 x1) K 1 x2) K 2 x3)
set_option maxHeartbeats 4000000 in
set_option maxRecDepth 100000 in
theorem c_Init_set (l : Launch) (D : va_G) (α : Nat → Nat) (κ : Nat → ClassId) (hα : xb_inj α 35) (σ : xb_St) (K : Nat) (x1 : Int64) (x2 : Int64) (x3 : Int64) (iK : sp_isInit K) : Met l y_Init_set w_Init_set ({ frames := 0, cells := 0, slots := 0, locals := 0 }) (va_Pc ([.ref (α K), .long x1, .long x2, .long x3]) (sp_Pre D α κ σ)) (va_Qv (fun u : xb_St => u = p_Init_set K x1 x2 x3 σ) (sp_B D α κ) (xb_A α 35)) 0 0 (xb_A α 35) := by
  refine Met.ofW (cc := b_Init_set) (maxL := 7) (ret := none) (by decide) rfl ?_
  intro p e s m args below meth c s₁ B_ hml hv
  obtain ⟨rfl, hP, hK, hN⟩ := hv
  have hx := B_.exec
  have hb := B_.bytes
  have hr := B_.returns
  have hts := atoms_spec (ws := w_Init_set) B_.pre
  have ht : ∀ w ∈ xa, w.before _ s = true := fun w h => hts w (List.mem_cons_of_mem _ h)
  have hown : s.vm.findClass "SecurePair$Init" = some m.cls := findClass_of_methodNamed B_.named
  have hlocks := B_.notSynchronized
  have hD := sp_D hα κ
  have hS : va_S (xb_A α 35) s.heap s.heap [] := va_S.rf
  have hl := lv_entry ([.ref (α K), .long x1, .long x2, .long x3]) (n := 7) (Nat.le_of_ble_eq_true rfl)
  rw [lg_entry_eq]
  generalize (lg_sl ([.ref (α K), .long x1, .long x2, .long x3]) ++ List.replicate (7 - (lg_sl ([.ref (α K), .long x1, .long x2, .long x3])).length) Slot.unset).toArray = ls at hl ⊢
  have hl : lv_has ls 7 [(0, .ref (α K)), (1, .long x1), (3, .long x2), (5, .long x3)] := hl
  refine lv_aload_n hx hb d_Init_set_0 rfl (lv_at hl 0 rfl) ?_
  refine lv_lload_n hx hb d_Init_set_1 rfl (lv_at hl 1 rfl) ?_
  refine sp_pl_Init (x := x1) (ty := .long) hx hb ht hown hK hP iK 0 (by decide) (ht _ xw138) (fun _ h_ => h_) hD hS rfl (by decide +kernel) rfl rfl hf_Init_0 d_Init_set_2 (fun H locs hP hS => ?_)
  refine lv_aload_n hx hb d_Init_set_5 rfl (lv_at hl 0 rfl) ?_
  refine lv_lload_n hx hb d_Init_set_6 rfl (lv_at hl 2 rfl) ?_
  refine sp_pl_Init (x := x2) (ty := .long) hx hb ht hown hK hP iK 1 (by decide) (ht _ xw141) (fun _ h_ => h_) hD hS rfl (by decide +kernel) rfl rfl hf_Init_1 d_Init_set_7 (fun H locs hP hS => ?_)
  refine lv_aload_n hx hb d_Init_set_10 rfl (lv_at hl 0 rfl) ?_
  refine lv_lload hx hb d_Init_set_11 (lv_at hl 3 rfl) ?_
  refine sp_pl_Init (x := x3) (ty := .long) hx hb ht hown hK hP iK 2 (by decide) (ht _ xw142) (fun _ h_ => h_) hD hS rfl (by decide +kernel) rfl rfl hf_Init_2 d_Init_set_13 (fun H locs hP hS => ?_)
  exact W.vret hx hb hr (fun t ht_ hW => ⟨⟨(xb_sl (xb_sl (xb_sl σ K 0 x1) K 1 x2) K 2 x3), rfl, rfl, by rw [sp_B, ht_]; exact hP⟩, hS.F ht_⟩) hS.2.2 d_Init_set_16
theorem ok_p_Init_set {σ : xb_St} (K : Nat) (x1 : Int64) (x2 : Int64) (x3 : Int64) (iK : sp_isInit K) (ok : sp_ok σ) : sp_ok (p_Init_set K x1 x2 x3 σ) := by
  unfold p_Init_set
  exact (ok_sl (ok_sl (ok_sl ok)))
abbrev b_Init_mixedInto : ByteArray := prog_6_method_3_code
def y_Init_mixedInto : MethodName := ⟨"SecurePair$Init", "mixedInto", "(J)J"⟩
abbrev w_Init_mixedInto : List Cond := .code y_Init_mixedInto b_Init_mixedInto 3 (some .long) :: xa
theorem d_Init_mixedInto_0 : decode b_Init_mixedInto 0 = .ok (.lload_n 1, 1) := by decide +kernel
theorem d_Init_mixedInto_1 : decode b_Init_mixedInto 1 = .ok (.aload_n 0, 1) := by decide +kernel
theorem d_Init_mixedInto_2 : decode b_Init_mixedInto 2 = .ok (.getfield 7, 3) := by decide +kernel
theorem d_Init_mixedInto_5 : decode b_Init_mixedInto 5 = .ok (.invokestatic 19, 3) := by decide +kernel
theorem d_Init_mixedInto_8 : decode b_Init_mixedInto 8 = .ok (.aload_n 0, 1) := by decide +kernel
theorem d_Init_mixedInto_9 : decode b_Init_mixedInto 9 = .ok (.getfield 13, 3) := by decide +kernel
theorem d_Init_mixedInto_12 : decode b_Init_mixedInto 12 = .ok (.invokestatic 19, 3) := by decide +kernel
theorem d_Init_mixedInto_15 : decode b_Init_mixedInto 15 = .ok (.aload_n 0, 1) := by decide +kernel
theorem d_Init_mixedInto_16 : decode b_Init_mixedInto 16 = .ok (.getfield 16, 3) := by decide +kernel
theorem d_Init_mixedInto_19 : decode b_Init_mixedInto 19 = .ok (.invokestatic 19, 3) := by decide +kernel
theorem d_Init_mixedInto_22 : decode b_Init_mixedInto 22 = .ok (.lreturn, 1) := by decide +kernel
def p_Init_mixed (K : Nat) (x1 : Int64) (σ : xb_St) : Int64 := (f_mix (f_mix (f_mix x1 (σ.2 K 0)) (σ.2 K 1)) (σ.2 K 2))
set_option maxHeartbeats 4000000 in
set_option maxRecDepth 100000 in
theorem c_Init_mixedInto (l : Launch) (D : va_G) (α : Nat → Nat) (κ : Nat → ClassId) (hα : xb_inj α 35) (σ : xb_St) (K : Nat) (x1 : Int64) (iK : sp_isInit K) : Met l y_Init_mixedInto w_Init_mixedInto ({ frames := 1, cells := 0, slots := 0, locals := 25 }) (va_Pc ([.ref (α K), .long x1]) (sp_Pre D α κ σ)) (va_Ql (fun r (u : xb_St) => r = p_Init_mixed K x1 σ ∧ u = σ) (sp_B D α κ) (xb_A α 35)) 0 0 (xb_A α 35) := by
  refine Met.ofW (cc := b_Init_mixedInto) (maxL := 3) (ret := (some .long)) (by decide) rfl ?_
  intro p e s m args below meth c s₁ B_ hml hv
  obtain ⟨rfl, hP, hK, hN⟩ := hv
  have hx := B_.exec
  have hb := B_.bytes
  have hr := B_.returns
  have hts := atoms_spec (ws := w_Init_mixedInto) B_.pre
  have ht : ∀ w ∈ xa, w.before _ s = true := fun w h => hts w (List.mem_cons_of_mem _ h)
  have hown : s.vm.findClass "SecurePair$Init" = some m.cls := findClass_of_methodNamed B_.named
  have hlocks := B_.notSynchronized
  have hD := sp_D hα κ
  have hS : va_S (xb_A α 35) s.heap s.heap [] := va_S.rf
  have hl := lv_entry ([.ref (α K), .long x1]) (n := 3) (Nat.le_of_ble_eq_true rfl)
  rw [lg_entry_eq]
  generalize (lg_sl ([.ref (α K), .long x1]) ++ List.replicate (3 - (lg_sl ([.ref (α K), .long x1])).length) Slot.unset).toArray = ls at hl ⊢
  have hl : lv_has ls 3 [(0, .ref (α K)), (1, .long x1)] := hl
  refine lv_lload_n hx hb d_Init_mixedInto_0 rfl (lv_at hl 1 rfl) ?_
  refine lv_aload_n hx hb d_Init_mixedInto_1 rfl (lv_at hl 0 rfl) ?_
  refine sp_g_Init (v := .long (σ.2 K 0)) hx hb ht hown hK hP iK 0 (by decide) (ht _ xw138) (fun _ h_ => h_) rfl d_Init_mixedInto_2 ?_
  refine vp_callSl (va_runSN (As := [.long x1, .long (σ.2 K 0)]) (rest := []) ⟨hx, hb, hml, hown, hts⟩ (c_P_mix l x1 (σ.2 K 0)) ⟨va_cnB 2 hts (xa_g xw391) rfl rfl rfl (hN.at 10 rfl) (ht _ xw1) (by decide +kernel) ⟨Nat.le_of_ble_eq_true rfl, Nat.le_of_ble_eq_true rfl⟩, ht _ xw390, trivial⟩ preEq rfl rfl hl.1 rfl (lv_room (Nat.le_of_ble_eq_true rfl)) d_Init_mixedInto_5 ⟨Nat.le_of_ble_eq_true rfl, Nat.le_of_ble_eq_true rfl⟩).run (fun r_ e_ => ?_)
  subst e_
  refine lv_aload_n hx hb d_Init_mixedInto_8 rfl (lv_at hl 0 rfl) ?_
  refine sp_g_Init (v := .long (σ.2 K 1)) hx hb ht hown hK hP iK 1 (by decide) (ht _ xw141) (fun _ h_ => h_) rfl d_Init_mixedInto_9 ?_
  refine vp_callSl (va_runSN (As := [.long (f_mix x1 (σ.2 K 0)), .long (σ.2 K 1)]) (rest := []) ⟨hx, hb, hml, hown, hts⟩ (c_P_mix l (f_mix x1 (σ.2 K 0)) (σ.2 K 1)) ⟨va_cnB 2 hts (xa_g xw391) rfl rfl rfl (hN.at 10 rfl) (ht _ xw1) (by decide +kernel) ⟨Nat.le_of_ble_eq_true rfl, Nat.le_of_ble_eq_true rfl⟩, ht _ xw390, trivial⟩ preEq rfl rfl hl.1 rfl (lv_room (Nat.le_of_ble_eq_true rfl)) d_Init_mixedInto_12 ⟨Nat.le_of_ble_eq_true rfl, Nat.le_of_ble_eq_true rfl⟩).run (fun r_ e_ => ?_)
  subst e_
  refine lv_aload_n hx hb d_Init_mixedInto_15 rfl (lv_at hl 0 rfl) ?_
  refine sp_g_Init (v := .long (σ.2 K 2)) hx hb ht hown hK hP iK 2 (by decide) (ht _ xw142) (fun _ h_ => h_) rfl d_Init_mixedInto_16 ?_
  refine vp_callSl (va_runSN (As := [.long (f_mix (f_mix x1 (σ.2 K 0)) (σ.2 K 1)), .long (σ.2 K 2)]) (rest := []) ⟨hx, hb, hml, hown, hts⟩ (c_P_mix l (f_mix (f_mix x1 (σ.2 K 0)) (σ.2 K 1)) (σ.2 K 2)) ⟨va_cnB 2 hts (xa_g xw391) rfl rfl rfl (hN.at 10 rfl) (ht _ xw1) (by decide +kernel) ⟨Nat.le_of_ble_eq_true rfl, Nat.le_of_ble_eq_true rfl⟩, ht _ xw390, trivial⟩ preEq rfl rfl hl.1 rfl (lv_room (Nat.le_of_ble_eq_true rfl)) d_Init_mixedInto_19 ⟨Nat.le_of_ble_eq_true rfl, Nat.le_of_ble_eq_true rfl⟩).run (fun r_ e_ => ?_)
  subst e_
  exact W.lret (v := (f_mix (f_mix (f_mix x1 (σ.2 K 0)) (σ.2 K 1)) (σ.2 K 2))) hx hb hr (fun t ht_ hW => ⟨⟨(f_mix (f_mix (f_mix x1 (σ.2 K 0)) (σ.2 K 1)) (σ.2 K 2)), σ, rfl, ⟨rfl, rfl⟩, by rw [sp_B, ht_]; exact hP⟩, hS.F ht_⟩) hS.2.2 d_Init_mixedInto_22
abbrev b_Exchange_share : ByteArray := prog_5_method_3_code
def y_Exchange_share : MethodName := ⟨"SecurePair$Exchange", "share", "()J"⟩
abbrev w_Exchange_share : List Cond := .code y_Exchange_share b_Exchange_share 1 (some .long) :: xa
theorem d_Exchange_share_0 : decode b_Exchange_share 0 = .ok (.ldc2_w 39, 3) := by decide +kernel
theorem d_Exchange_share_3 : decode b_Exchange_share 3 = .ok (.aload_n 0, 1) := by decide +kernel
theorem d_Exchange_share_4 : decode b_Exchange_share 4 = .ok (.getfield 41, 3) := by decide +kernel
theorem d_Exchange_share_7 : decode b_Exchange_share 7 = .ok (.invokestatic 44, 3) := by decide +kernel
theorem d_Exchange_share_10 : decode b_Exchange_share 10 = .ok (.lreturn, 1) := by decide +kernel
theorem xw155 : (Cond.fieldLink "SecurePair$Exchange" (41 : Nat) "SecurePair$Exchange" "secret" "J") ∈ xa := xa_t 155 (by decide +kernel) (by decide +kernel)
theorem xw683 : (Cond.constantLong "SecurePair$Exchange" (39 : Nat) (7 : Int64)) ∈ xa := xa_t 683 (by decide +kernel) (by decide +kernel)
def p_Ex_share (K : Nat) (σ : xb_St) : Int64 := (f_power (7 : Int64) (σ.2 K 2))
set_option maxHeartbeats 4000000 in
set_option maxRecDepth 100000 in
theorem c_Exchange_share (l : Launch) (D : va_G) (α : Nat → Nat) (κ : Nat → ClassId) (hα : xb_inj α 35) (σ : xb_St) (K : Nat) (iK : sp_isExchange K) : Met l y_Exchange_share w_Exchange_share ({ frames := 1, cells := 0, slots := 0, locals := 30 }) (va_Pc ([.ref (α K)]) (sp_Pre D α κ σ)) (va_Ql (fun r (u : xb_St) => r = p_Ex_share K σ ∧ u = σ) (sp_B D α κ) (xb_A α 35)) 0 0 (xb_A α 35) := by
  refine Met.ofW (cc := b_Exchange_share) (maxL := 1) (ret := (some .long)) (by decide) rfl ?_
  intro p e s m args below meth c s₁ B_ hml hv
  obtain ⟨rfl, hP, hK, hN⟩ := hv
  have hx := B_.exec
  have hb := B_.bytes
  have hr := B_.returns
  have hts := atoms_spec (ws := w_Exchange_share) B_.pre
  have ht : ∀ w ∈ xa, w.before _ s = true := fun w h => hts w (List.mem_cons_of_mem _ h)
  have hown : s.vm.findClass "SecurePair$Exchange" = some m.cls := findClass_of_methodNamed B_.named
  have hlocks := B_.notSynchronized
  have hD := sp_D hα κ
  have hS : va_S (xb_A α 35) s.heap s.heap [] := va_S.rf
  have hl := lv_entry ([.ref (α K)]) (n := 1) (Nat.le_of_ble_eq_true rfl)
  rw [lg_entry_eq]
  generalize (lg_sl ([.ref (α K)]) ++ List.replicate (1 - (lg_sl ([.ref (α K)])).length) Slot.unset).toArray = ls at hl ⊢
  have hl : lv_has ls 1 [(0, .ref (α K))] := hl
  refine lv_ldc2 hx hb hown (ht _ xw683) d_Exchange_share_0 ?_
  refine lv_aload_n hx hb d_Exchange_share_3 rfl (lv_at hl 0 rfl) ?_
  refine sp_g_Exchange (v := .long (σ.2 K 2)) hx hb ht hown hK hP iK 2 (by decide) (ht _ xw155) (fun _ h_ => h_) rfl d_Exchange_share_4 ?_
  refine vp_callSl (va_runSN (As := [.long (7 : Int64), .long (σ.2 K 2)]) (rest := []) ⟨hx, hb, hml, hown, hts⟩ (c_P_power l (7 : Int64) (σ.2 K 2)) ⟨va_cnB 2 hts (xa_g xw363) rfl rfl rfl (hN.at 7 rfl) (ht _ xw1) (by decide +kernel) ⟨Nat.le_of_ble_eq_true rfl, Nat.le_of_ble_eq_true rfl⟩, ht _ xw362, trivial⟩ preEq rfl rfl hl.1 rfl (lv_room (Nat.le_of_ble_eq_true rfl)) d_Exchange_share_7 ⟨Nat.le_of_ble_eq_true rfl, Nat.le_of_ble_eq_true rfl⟩).run (fun r_ e_ => ?_)
  subst e_
  exact W.lret (v := (f_power (7 : Int64) (σ.2 K 2))) hx hb hr (fun t ht_ hW => ⟨⟨(f_power (7 : Int64) (σ.2 K 2)), σ, rfl, ⟨rfl, rfl⟩, by rw [sp_B, ht_]; exact hP⟩, hS.F ht_⟩) hS.2.2 d_Exchange_share_10
abbrev b_Exchange_agree : ByteArray := prog_5_method_4_code
def y_Exchange_agree : MethodName := ⟨"SecurePair$Exchange", "agree", "(JJJJ)V"⟩
abbrev w_Exchange_agree : List Cond := .code y_Exchange_agree b_Exchange_agree 11 none :: xa
theorem d_Exchange_agree_0 : decode b_Exchange_agree 0 = .ok (.aload_n 0, 1) := by decide +kernel
theorem d_Exchange_agree_1 : decode b_Exchange_agree 1 = .ok (.lload 7, 2) := by decide +kernel
theorem d_Exchange_agree_3 : decode b_Exchange_agree 3 = .ok (.aload_n 0, 1) := by decide +kernel
theorem d_Exchange_agree_4 : decode b_Exchange_agree 4 = .ok (.getfield 41, 3) := by decide +kernel
theorem d_Exchange_agree_7 : decode b_Exchange_agree 7 = .ok (.invokestatic 44, 3) := by decide +kernel
theorem d_Exchange_agree_10 : decode b_Exchange_agree 10 = .ok (.putfield 48, 3) := by decide +kernel
theorem d_Exchange_agree_13 : decode b_Exchange_agree 13 = .ok (.aload_n 0, 1) := by decide +kernel
theorem d_Exchange_agree_14 : decode b_Exchange_agree 14 = .ok (.getfield 18, 3) := by decide +kernel
theorem d_Exchange_agree_17 : decode b_Exchange_agree 17 = .ok (.aload_n 0, 1) := by decide +kernel
theorem d_Exchange_agree_18 : decode b_Exchange_agree 18 = .ok (.getfield 12, 3) := by decide +kernel
theorem d_Exchange_agree_21 : decode b_Exchange_agree 21 = .ok (.lconst 0, 1) := by decide +kernel
theorem d_Exchange_agree_22 : decode b_Exchange_agree 22 = .ok (.invokevirtual 51, 3) := by decide +kernel
theorem d_Exchange_agree_25 : decode b_Exchange_agree 25 = .ok (.invokevirtual 51, 3) := by decide +kernel
theorem d_Exchange_agree_28 : decode b_Exchange_agree 28 = .ok (.lstore 9, 2) := by decide +kernel
theorem d_Exchange_agree_30 : decode b_Exchange_agree 30 = .ok (.aload_n 0, 1) := by decide +kernel
theorem d_Exchange_agree_31 : decode b_Exchange_agree 31 = .ok (.lload 9, 2) := by decide +kernel
theorem d_Exchange_agree_33 : decode b_Exchange_agree 33 = .ok (.lload_n 1, 1) := by decide +kernel
theorem d_Exchange_agree_34 : decode b_Exchange_agree 34 = .ok (.invokestatic 55, 3) := by decide +kernel
theorem d_Exchange_agree_37 : decode b_Exchange_agree 37 = .ok (.lload_n 3, 1) := by decide +kernel
theorem d_Exchange_agree_38 : decode b_Exchange_agree 38 = .ok (.invokestatic 55, 3) := by decide +kernel
theorem d_Exchange_agree_41 : decode b_Exchange_agree 41 = .ok (.lload 5, 2) := by decide +kernel
theorem d_Exchange_agree_43 : decode b_Exchange_agree 43 = .ok (.invokestatic 55, 3) := by decide +kernel
theorem d_Exchange_agree_46 : decode b_Exchange_agree 46 = .ok (.aload_n 0, 1) := by decide +kernel
theorem d_Exchange_agree_47 : decode b_Exchange_agree 47 = .ok (.getfield 48, 3) := by decide +kernel
theorem d_Exchange_agree_50 : decode b_Exchange_agree 50 = .ok (.invokestatic 55, 3) := by decide +kernel
theorem d_Exchange_agree_53 : decode b_Exchange_agree 53 = .ok (.putfield 58, 3) := by decide +kernel
theorem d_Exchange_agree_56 : decode b_Exchange_agree 56 = .ok (.return_, 1) := by decide +kernel
theorem xw8 : (Cond.initialized "SecurePair$Init") ∈ xa := xa_t 8 (by decide +kernel) (by decide +kernel)
theorem xw151 : (Cond.fieldLink "SecurePair$Exchange" (12 : Nat) "SecurePair$Exchange" "ofClient" "LSecurePair$Init;") ∈ xa := xa_t 151 (by decide +kernel) (by decide +kernel)
theorem xw153 : (Cond.fieldLink "SecurePair$Exchange" (18 : Nat) "SecurePair$Exchange" "ofServer" "LSecurePair$Init;") ∈ xa := xa_t 153 (by decide +kernel) (by decide +kernel)
theorem xw162 : (Cond.fieldLink "SecurePair$Exchange" (48 : Nat) "SecurePair$Exchange" "common" "J") ∈ xa := xa_t 162 (by decide +kernel) (by decide +kernel)
theorem xw165 : (Cond.fieldLink "SecurePair$Exchange" (58 : Nat) "SecurePair$Exchange" "hash" "J") ∈ xa := xa_t 165 (by decide +kernel) (by decide +kernel)
theorem xw713 : (Cond.methodLink "SecurePair$Exchange" (51 : Nat) ({ cls := "SecurePair$Init", name := "mixedInto", desc := "(J)J" } : MethodName)) ∈ xa := xa_t 713 (by decide +kernel) (by decide +kernel)
theorem xw714 : (Cond.instanceMethod ({ cls := "SecurePair$Init", name := "mixedInto", desc := "(J)J" } : MethodName)) ∈ xa := xa_t 714 (by decide +kernel) (by decide +kernel)
theorem xw715 : (Cond.selects "SecurePair$Init" ({ cls := "SecurePair$Init", name := "mixedInto", desc := "(J)J" } : MethodName) ({ cls := "SecurePair$Init", name := "mixedInto", desc := "(J)J" } : MethodName)) ∈ xa := xa_t 715 (by decide +kernel) (by decide +kernel)
theorem xw716 : (Cond.code ({ cls := "SecurePair$Init", name := "mixedInto", desc := "(J)J" } : MethodName) prog_6_method_3_code (3 : Nat) (Option.some ClassFile.FieldType.long)) ∈ xa := xa_t 716 (by decide +kernel) (by decide +kernel)
def p_Ex_agree (K : Nat) (x1 : Int64) (x2 : Int64) (x3 : Int64) (x4 : Int64) (σ : xb_St) : xb_St := (xb_sl (xb_sl σ K 5 (f_power x4 (σ.2 K 2))) K 6 (f_mix (f_mix (f_mix (f_mix (p_Init_mixed (K + 2) (p_Init_mixed (K + 1) (0 : Int64) (xb_sl σ K 5 (f_power x4 (σ.2 K 2)))) (xb_sl σ K 5 (f_power x4 (σ.2 K 2)))) x1) x2) x3) (f_power x4 (σ.2 K 2))))
set_option maxHeartbeats 4000000 in
set_option maxRecDepth 100000 in
theorem c_Exchange_agree (l : Launch) (D : va_G) (α : Nat → Nat) (κ : Nat → ClassId) (hα : xb_inj α 35) (σ : xb_St) (K : Nat) (x1 : Int64) (x2 : Int64) (x3 : Int64) (x4 : Int64) (iK : sp_isExchange K) : Met l y_Exchange_agree w_Exchange_agree ({ frames := 2, cells := 0, slots := 0, locals := 47 }) (va_Pc ([.ref (α K), .long x1, .long x2, .long x3, .long x4]) (sp_Pre D α κ σ)) (va_Qv (fun u : xb_St => u = p_Ex_agree K x1 x2 x3 x4 σ) (sp_B D α κ) (xb_A α 35)) 0 0 (xb_A α 35) := by
  refine Met.ofW (cc := b_Exchange_agree) (maxL := 11) (ret := none) (by decide) rfl ?_
  intro p e s m args below meth c s₁ B_ hml hv
  obtain ⟨rfl, hP, hK, hN⟩ := hv
  have hx := B_.exec
  have hb := B_.bytes
  have hr := B_.returns
  have hts := atoms_spec (ws := w_Exchange_agree) B_.pre
  have ht : ∀ w ∈ xa, w.before _ s = true := fun w h => hts w (List.mem_cons_of_mem _ h)
  have hown : s.vm.findClass "SecurePair$Exchange" = some m.cls := findClass_of_methodNamed B_.named
  have hlocks := B_.notSynchronized
  have hD := sp_D hα κ
  have hS : va_S (xb_A α 35) s.heap s.heap [] := va_S.rf
  have hl := lv_entry ([.ref (α K), .long x1, .long x2, .long x3, .long x4]) (n := 11) (Nat.le_of_ble_eq_true rfl)
  rw [lg_entry_eq]
  generalize (lg_sl ([.ref (α K), .long x1, .long x2, .long x3, .long x4]) ++ List.replicate (11 - (lg_sl ([.ref (α K), .long x1, .long x2, .long x3, .long x4])).length) Slot.unset).toArray = ls at hl ⊢
  have hl : lv_has ls 11 [(0, .ref (α K)), (1, .long x1), (3, .long x2), (5, .long x3), (7, .long x4)] := hl
  refine lv_aload_n hx hb d_Exchange_agree_0 rfl (lv_at hl 0 rfl) ?_
  refine lv_lload hx hb d_Exchange_agree_1 (lv_at hl 4 rfl) ?_
  refine lv_aload_n hx hb d_Exchange_agree_3 rfl (lv_at hl 0 rfl) ?_
  refine sp_g_Exchange (v := .long (σ.2 K 2)) hx hb ht hown hK hP iK 2 (by decide) (ht _ xw155) (fun _ h_ => h_) rfl d_Exchange_agree_4 ?_
  refine vp_callSl (va_runSN (As := [.long x4, .long (σ.2 K 2)]) (rest := [.ref (α K)]) ⟨hx, hb, hml, hown, hts⟩ (c_P_power l x4 (σ.2 K 2)) ⟨va_cnB 2 hts (xa_g xw363) rfl rfl rfl (hN.at 7 rfl) (ht _ xw1) (by decide +kernel) ⟨Nat.le_of_ble_eq_true rfl, Nat.le_of_ble_eq_true rfl⟩, ht _ xw362, trivial⟩ preEq rfl rfl hl.1 rfl (lv_room (Nat.le_of_ble_eq_true rfl)) d_Exchange_agree_7 ⟨Nat.le_of_ble_eq_true rfl, Nat.le_of_ble_eq_true rfl⟩).run (fun r_ e_ => ?_)
  subst e_
  refine sp_pl_Exchange (x := (f_power x4 (σ.2 K 2))) (ty := .long) hx hb ht hown hK hP iK 5 (by decide) (ht _ xw162) (fun _ h_ => h_) hD hS rfl (by decide +kernel) rfl rfl hf_Exchange_5 d_Exchange_agree_10 (fun H locs hP hS => ?_)
  refine lv_aload_n hx hb d_Exchange_agree_13 rfl (lv_at hl 0 rfl) ?_
  refine sp_g_Exchange (v := .ref (α (K + 2))) hx hb ht hown hK hP iK 1 (by decide) (ht _ xw153) (fun _ h_ => h_) rfl d_Exchange_agree_14 ?_
  refine lv_aload_n hx hb d_Exchange_agree_17 rfl (lv_at hl 0 rfl) ?_
  refine sp_g_Exchange (v := .ref (α (K + 1))) hx hb ht hown hK hP iK 0 (by decide) (ht _ xw151) (fun _ h_ => h_) rfl d_Exchange_agree_18 ?_
  refine lv_lconst (v := 0) hx hb d_Exchange_agree_21 (by decide) ?_
  refine sp_cl (va_runV (As := [.long (0 : Int64)]) (rest := [.ref (α (K + 2))]) ⟨hx, hb, hml, hown, hts⟩ (c_Init_mixedInto l D α κ hα (xb_sl σ K 5 (f_power x4 (σ.2 K 2))) (K + 1) (0 : Int64) (by omega)) (cwV 1 hts (xa_V xw713 xw714 xw715 xw8 xw716) rfl rfl rfl (by decide +kernel) ⟨Nat.le_of_ble_eq_true rfl, Nat.le_of_ble_eq_true rfl⟩) ⟨sp_blind, va_recv hK hP rfl (sp_at_Init (by omega)), sp_pre hP hK hN _⟩ rfl rfl hl.1 rfl (lv_room (Nat.le_of_ble_eq_true rfl)) d_Exchange_agree_22 ⟨Nat.le_of_ble_eq_true rfl, Nat.le_of_ble_eq_true rfl⟩) hS (fun _ h_ => h_) (fun H locs hP hS => ?_)
  refine sp_cl (va_runV (As := [.long (p_Init_mixed (K + 1) (0 : Int64) (xb_sl σ K 5 (f_power x4 (σ.2 K 2))))]) (rest := []) ⟨hx, hb, hml, hown, hts⟩ (c_Init_mixedInto l D α κ hα (xb_sl σ K 5 (f_power x4 (σ.2 K 2))) (K + 2) (p_Init_mixed (K + 1) (0 : Int64) (xb_sl σ K 5 (f_power x4 (σ.2 K 2)))) (by omega)) (cwV 1 hts (xa_V xw713 xw714 xw715 xw8 xw716) rfl rfl rfl (by decide +kernel) ⟨Nat.le_of_ble_eq_true rfl, Nat.le_of_ble_eq_true rfl⟩) ⟨sp_blind, va_recv hK hP rfl (sp_at_Init (by omega)), sp_pre hP hK hN _⟩ rfl rfl hl.1 rfl (lv_room (Nat.le_of_ble_eq_true rfl)) d_Exchange_agree_25 ⟨Nat.le_of_ble_eq_true rfl, Nat.le_of_ble_eq_true rfl⟩) hS (fun _ h_ => h_) (fun H locs hP hS => ?_)
  refine lv_lstore (lv' := [(9, .long (p_Init_mixed (K + 2) (p_Init_mixed (K + 1) (0 : Int64) (xb_sl σ K 5 (f_power x4 (σ.2 K 2)))) (xb_sl σ K 5 (f_power x4 (σ.2 K 2))))), (0, .ref (α K)), (1, .long x1), (3, .long x2), (5, .long x3), (7, .long x4)]) hx hb d_Exchange_agree_28 hl (by decide) rfl (fun ls hl => ?_)
  refine lv_aload_n hx hb d_Exchange_agree_30 rfl (lv_at hl 1 rfl) ?_
  refine lv_lload hx hb d_Exchange_agree_31 (lv_at hl 0 rfl) ?_
  refine lv_lload_n hx hb d_Exchange_agree_33 rfl (lv_at hl 2 rfl) ?_
  refine vp_callSl (va_runSN (As := [.long (p_Init_mixed (K + 2) (p_Init_mixed (K + 1) (0 : Int64) (xb_sl σ K 5 (f_power x4 (σ.2 K 2)))) (xb_sl σ K 5 (f_power x4 (σ.2 K 2)))), .long x1]) (rest := [.ref (α K)]) ⟨hx, hb, hml, hown, hts⟩ (c_P_mix l (p_Init_mixed (K + 2) (p_Init_mixed (K + 1) (0 : Int64) (xb_sl σ K 5 (f_power x4 (σ.2 K 2)))) (xb_sl σ K 5 (f_power x4 (σ.2 K 2)))) x1) ⟨va_cnB 2 hts (xa_g xw391) rfl rfl rfl (hN.at 11 rfl) (ht _ xw1) (by decide +kernel) ⟨Nat.le_of_ble_eq_true rfl, Nat.le_of_ble_eq_true rfl⟩, ht _ xw390, trivial⟩ preEq rfl rfl hl.1 rfl (lv_room (Nat.le_of_ble_eq_true rfl)) d_Exchange_agree_34 ⟨Nat.le_of_ble_eq_true rfl, Nat.le_of_ble_eq_true rfl⟩).run (fun r_ e_ => ?_)
  subst e_
  refine lv_lload_n hx hb d_Exchange_agree_37 rfl (lv_at hl 3 rfl) ?_
  refine vp_callSl (va_runSN (As := [.long (f_mix (p_Init_mixed (K + 2) (p_Init_mixed (K + 1) (0 : Int64) (xb_sl σ K 5 (f_power x4 (σ.2 K 2)))) (xb_sl σ K 5 (f_power x4 (σ.2 K 2)))) x1), .long x2]) (rest := [.ref (α K)]) ⟨hx, hb, hml, hown, hts⟩ (c_P_mix l (f_mix (p_Init_mixed (K + 2) (p_Init_mixed (K + 1) (0 : Int64) (xb_sl σ K 5 (f_power x4 (σ.2 K 2)))) (xb_sl σ K 5 (f_power x4 (σ.2 K 2)))) x1) x2) ⟨va_cnB 2 hts (xa_g xw391) rfl rfl rfl (hN.at 11 rfl) (ht _ xw1) (by decide +kernel) ⟨Nat.le_of_ble_eq_true rfl, Nat.le_of_ble_eq_true rfl⟩, ht _ xw390, trivial⟩ preEq rfl rfl hl.1 rfl (lv_room (Nat.le_of_ble_eq_true rfl)) d_Exchange_agree_38 ⟨Nat.le_of_ble_eq_true rfl, Nat.le_of_ble_eq_true rfl⟩).run (fun r_ e_ => ?_)
  subst e_
  refine lv_lload hx hb d_Exchange_agree_41 (lv_at hl 4 rfl) ?_
  refine vp_callSl (va_runSN (As := [.long (f_mix (f_mix (p_Init_mixed (K + 2) (p_Init_mixed (K + 1) (0 : Int64) (xb_sl σ K 5 (f_power x4 (σ.2 K 2)))) (xb_sl σ K 5 (f_power x4 (σ.2 K 2)))) x1) x2), .long x3]) (rest := [.ref (α K)]) ⟨hx, hb, hml, hown, hts⟩ (c_P_mix l (f_mix (f_mix (p_Init_mixed (K + 2) (p_Init_mixed (K + 1) (0 : Int64) (xb_sl σ K 5 (f_power x4 (σ.2 K 2)))) (xb_sl σ K 5 (f_power x4 (σ.2 K 2)))) x1) x2) x3) ⟨va_cnB 2 hts (xa_g xw391) rfl rfl rfl (hN.at 11 rfl) (ht _ xw1) (by decide +kernel) ⟨Nat.le_of_ble_eq_true rfl, Nat.le_of_ble_eq_true rfl⟩, ht _ xw390, trivial⟩ preEq rfl rfl hl.1 rfl (lv_room (Nat.le_of_ble_eq_true rfl)) d_Exchange_agree_43 ⟨Nat.le_of_ble_eq_true rfl, Nat.le_of_ble_eq_true rfl⟩).run (fun r_ e_ => ?_)
  subst e_
  refine lv_aload_n hx hb d_Exchange_agree_46 rfl (lv_at hl 1 rfl) ?_
  refine sp_g_Exchange (v := .long (f_power x4 (σ.2 K 2))) hx hb ht hown hK hP iK 5 (by decide) (ht _ xw162) (fun _ h_ => h_) (congrArg (fun z_ => some (Value.long z_)) (xb_l_hit)) d_Exchange_agree_47 ?_
  refine vp_callSl (va_runSN (As := [.long (f_mix (f_mix (f_mix (p_Init_mixed (K + 2) (p_Init_mixed (K + 1) (0 : Int64) (xb_sl σ K 5 (f_power x4 (σ.2 K 2)))) (xb_sl σ K 5 (f_power x4 (σ.2 K 2)))) x1) x2) x3), .long (f_power x4 (σ.2 K 2))]) (rest := [.ref (α K)]) ⟨hx, hb, hml, hown, hts⟩ (c_P_mix l (f_mix (f_mix (f_mix (p_Init_mixed (K + 2) (p_Init_mixed (K + 1) (0 : Int64) (xb_sl σ K 5 (f_power x4 (σ.2 K 2)))) (xb_sl σ K 5 (f_power x4 (σ.2 K 2)))) x1) x2) x3) (f_power x4 (σ.2 K 2))) ⟨va_cnB 2 hts (xa_g xw391) rfl rfl rfl (hN.at 11 rfl) (ht _ xw1) (by decide +kernel) ⟨Nat.le_of_ble_eq_true rfl, Nat.le_of_ble_eq_true rfl⟩, ht _ xw390, trivial⟩ preEq rfl rfl hl.1 rfl (lv_room (Nat.le_of_ble_eq_true rfl)) d_Exchange_agree_50 ⟨Nat.le_of_ble_eq_true rfl, Nat.le_of_ble_eq_true rfl⟩).run (fun r_ e_ => ?_)
  subst e_
  refine sp_pl_Exchange (x := (f_mix (f_mix (f_mix (f_mix (p_Init_mixed (K + 2) (p_Init_mixed (K + 1) (0 : Int64) (xb_sl σ K 5 (f_power x4 (σ.2 K 2)))) (xb_sl σ K 5 (f_power x4 (σ.2 K 2)))) x1) x2) x3) (f_power x4 (σ.2 K 2)))) (ty := .long) hx hb ht hown hK hP iK 6 (by decide) (ht _ xw165) (fun _ h_ => h_) hD hS rfl (by decide +kernel) rfl rfl hf_Exchange_6 d_Exchange_agree_53 (fun H locs hP hS => ?_)
  exact W.vret hx hb hr (fun t ht_ hW => ⟨⟨(xb_sl (xb_sl σ K 5 (f_power x4 (σ.2 K 2))) K 6 (f_mix (f_mix (f_mix (f_mix (p_Init_mixed (K + 2) (p_Init_mixed (K + 1) (0 : Int64) (xb_sl σ K 5 (f_power x4 (σ.2 K 2)))) (xb_sl σ K 5 (f_power x4 (σ.2 K 2)))) x1) x2) x3) (f_power x4 (σ.2 K 2)))), rfl, rfl, by rw [sp_B, ht_]; exact hP⟩, hS.F ht_⟩) hS.2.2 d_Exchange_agree_56
theorem ok_p_Ex_agree {σ : xb_St} (K : Nat) (x1 : Int64) (x2 : Int64) (x3 : Int64) (x4 : Int64) (iK : sp_isExchange K) (ok : sp_ok σ) : sp_ok (p_Ex_agree K x1 x2 x3 x4 σ) := by
  unfold p_Ex_agree
  exact (ok_sl (ok_sl ok))
abbrev b_Exchange_choose : ByteArray := prog_5_method_2_code
def y_Exchange_choose : MethodName := ⟨"SecurePair$Exchange", "choose", "()Z"⟩
abbrev w_Exchange_choose : List Cond := .code y_Exchange_choose b_Exchange_choose 1 (some .boolean) :: xa
theorem d_Exchange_choose_0 : decode b_Exchange_choose 0 = .ok (.aload_n 0, 1) := by decide +kernel
theorem d_Exchange_choose_1 : decode b_Exchange_choose 1 = .ok (.aload_n 0, 1) := by decide +kernel
theorem d_Exchange_choose_2 : decode b_Exchange_choose 2 = .ok (.getfield 12, 3) := by decide +kernel
theorem d_Exchange_choose_5 : decode b_Exchange_choose 5 = .ok (.getfield 21, 3) := by decide +kernel
theorem d_Exchange_choose_8 : decode b_Exchange_choose 8 = .ok (.aload_n 0, 1) := by decide +kernel
theorem d_Exchange_choose_9 : decode b_Exchange_choose 9 = .ok (.getfield 18, 3) := by decide +kernel
theorem d_Exchange_choose_12 : decode b_Exchange_choose 12 = .ok (.getfield 21, 3) := by decide +kernel
theorem d_Exchange_choose_15 : decode b_Exchange_choose 15 = .ok (.invokestatic 25, 3) := by decide +kernel
theorem d_Exchange_choose_18 : decode b_Exchange_choose 18 = .ok (.putfield 29, 3) := by decide +kernel
theorem d_Exchange_choose_21 : decode b_Exchange_choose 21 = .ok (.aload_n 0, 1) := by decide +kernel
theorem d_Exchange_choose_22 : decode b_Exchange_choose 22 = .ok (.aload_n 0, 1) := by decide +kernel
theorem d_Exchange_choose_23 : decode b_Exchange_choose 23 = .ok (.getfield 12, 3) := by decide +kernel
theorem d_Exchange_choose_26 : decode b_Exchange_choose 26 = .ok (.getfield 33, 3) := by decide +kernel
theorem d_Exchange_choose_29 : decode b_Exchange_choose 29 = .ok (.aload_n 0, 1) := by decide +kernel
theorem d_Exchange_choose_30 : decode b_Exchange_choose 30 = .ok (.getfield 18, 3) := by decide +kernel
theorem d_Exchange_choose_33 : decode b_Exchange_choose 33 = .ok (.getfield 33, 3) := by decide +kernel
theorem d_Exchange_choose_36 : decode b_Exchange_choose 36 = .ok (.invokestatic 25, 3) := by decide +kernel
theorem d_Exchange_choose_39 : decode b_Exchange_choose 39 = .ok (.putfield 36, 3) := by decide +kernel
theorem d_Exchange_choose_42 : decode b_Exchange_choose 42 = .ok (.aload_n 0, 1) := by decide +kernel
theorem d_Exchange_choose_43 : decode b_Exchange_choose 43 = .ok (.getfield 29, 3) := by decide +kernel
theorem d_Exchange_choose_46 : decode b_Exchange_choose 46 = .ok (.ifCond .eq 14, 3) := by decide +kernel
theorem d_Exchange_choose_49 : decode b_Exchange_choose 49 = .ok (.aload_n 0, 1) := by decide +kernel
theorem d_Exchange_choose_50 : decode b_Exchange_choose 50 = .ok (.getfield 36, 3) := by decide +kernel
theorem d_Exchange_choose_53 : decode b_Exchange_choose 53 = .ok (.ifCond .eq 7, 3) := by decide +kernel
theorem d_Exchange_choose_56 : decode b_Exchange_choose 56 = .ok (.iconst 1, 1) := by decide +kernel
theorem d_Exchange_choose_57 : decode b_Exchange_choose 57 = .ok (.goto 4, 3) := by decide +kernel
theorem d_Exchange_choose_60 : decode b_Exchange_choose 60 = .ok (.iconst 0, 1) := by decide +kernel
theorem d_Exchange_choose_61 : decode b_Exchange_choose 61 = .ok (.ireturn, 1) := by decide +kernel
theorem xw140 : (Cond.fieldLink "SecurePair$Exchange" (21 : Nat) "SecurePair$Init" "ciphers" "J") ∈ xa := xa_t 140 (by decide +kernel) (by decide +kernel)
theorem xw143 : (Cond.fieldLink "SecurePair$Exchange" (33 : Nat) "SecurePair$Init" "tags" "J") ∈ xa := xa_t 143 (by decide +kernel) (by decide +kernel)
theorem xw157 : (Cond.fieldLink "SecurePair$Exchange" (29 : Nat) "SecurePair$Exchange" "cipher" "I") ∈ xa := xa_t 157 (by decide +kernel) (by decide +kernel)
theorem xw159 : (Cond.fieldLink "SecurePair$Exchange" (36 : Nat) "SecurePair$Exchange" "tagKind" "I") ∈ xa := xa_t 159 (by decide +kernel) (by decide +kernel)
theorem xw668 : (Cond.static ({ cls := "SecurePair", name := "firstShared", desc := "(JJ)I" } : MethodName)) ∈ xa := xa_t 668 (by decide +kernel) (by decide +kernel)
theorem xw669 : (Cond.code ({ cls := "SecurePair", name := "firstShared", desc := "(JJ)I" } : MethodName) prog_1_method_35_code (6 : Nat) (Option.some ClassFile.FieldType.int)) ∈ xa := xa_t 669 (by decide +kernel) (by decide +kernel)
def p_Ex_choose (K : Nat) (σ : xb_St) : Int32 × xb_St := (if (f_first (σ.2 (K + 1) 1) (σ.2 (K + 2) 1)) = 0 then ((0 : Int32), (xb_si (xb_si σ K 3 (f_first (σ.2 (K + 1) 1) (σ.2 (K + 2) 1))) K 4 (f_first (σ.2 (K + 1) 2) (σ.2 (K + 2) 2)))) else (if (f_first (σ.2 (K + 1) 2) (σ.2 (K + 2) 2)) = 0 then ((0 : Int32), (xb_si (xb_si σ K 3 (f_first (σ.2 (K + 1) 1) (σ.2 (K + 2) 1))) K 4 (f_first (σ.2 (K + 1) 2) (σ.2 (K + 2) 2)))) else ((1 : Int32), (xb_si (xb_si σ K 3 (f_first (σ.2 (K + 1) 1) (σ.2 (K + 2) 1))) K 4 (f_first (σ.2 (K + 1) 2) (σ.2 (K + 2) 2))))))
set_option maxHeartbeats 4000000 in
set_option maxRecDepth 100000 in
theorem c_Exchange_choose (l : Launch) (D : va_G) (α : Nat → Nat) (κ : Nat → ClassId) (hα : xb_inj α 35) (σ : xb_St) (K : Nat) (iK : sp_isExchange K) : Met l y_Exchange_choose w_Exchange_choose ({ frames := 2, cells := 0, slots := 0, locals := 51 }) (va_Pc ([.ref (α K)]) (sp_Pre D α κ σ)) (va_Qi (fun r (u : xb_St) => r = (p_Ex_choose K σ).1 ∧ u = (p_Ex_choose K σ).2) (sp_B D α κ) (xb_A α 35)) 0 0 (xb_A α 35) := by
  refine Met.ofW (cc := b_Exchange_choose) (maxL := 1) (ret := (some .boolean)) (by decide) rfl ?_
  intro p e s m args below meth c s₁ B_ hml hv
  obtain ⟨rfl, hP, hK, hN⟩ := hv
  have hx := B_.exec
  have hb := B_.bytes
  have hr := B_.returns
  have hts := atoms_spec (ws := w_Exchange_choose) B_.pre
  have ht : ∀ w ∈ xa, w.before _ s = true := fun w h => hts w (List.mem_cons_of_mem _ h)
  have hown : s.vm.findClass "SecurePair$Exchange" = some m.cls := findClass_of_methodNamed B_.named
  have hlocks := B_.notSynchronized
  have hD := sp_D hα κ
  have hS : va_S (xb_A α 35) s.heap s.heap [] := va_S.rf
  have hl := lv_entry ([.ref (α K)]) (n := 1) (Nat.le_of_ble_eq_true rfl)
  rw [lg_entry_eq]
  generalize (lg_sl ([.ref (α K)]) ++ List.replicate (1 - (lg_sl ([.ref (α K)])).length) Slot.unset).toArray = ls at hl ⊢
  have hl : lv_has ls 1 [(0, .ref (α K))] := hl
  refine lv_aload_n hx hb d_Exchange_choose_0 rfl (lv_at hl 0 rfl) ?_
  refine lv_aload_n hx hb d_Exchange_choose_1 rfl (lv_at hl 0 rfl) ?_
  refine sp_g_Exchange (v := .ref (α (K + 1))) hx hb ht hown hK hP iK 0 (by decide) (ht _ xw151) (fun _ h_ => h_) rfl d_Exchange_choose_2 ?_
  refine sp_g_Init (v := .long (σ.2 (K + 1) 1)) hx hb ht hown hK hP (by omega) 1 (by decide) (ht _ xw140) (fun _ h_ => h_) rfl d_Exchange_choose_5 ?_
  refine lv_aload_n hx hb d_Exchange_choose_8 rfl (lv_at hl 0 rfl) ?_
  refine sp_g_Exchange (v := .ref (α (K + 2))) hx hb ht hown hK hP iK 1 (by decide) (ht _ xw153) (fun _ h_ => h_) rfl d_Exchange_choose_9 ?_
  refine sp_g_Init (v := .long (σ.2 (K + 2) 1)) hx hb ht hown hK hP (by omega) 1 (by decide) (ht _ xw140) (fun _ h_ => h_) rfl d_Exchange_choose_12 ?_
  refine vp_callSi (va_runSN (As := [.long (σ.2 (K + 1) 1), .long (σ.2 (K + 2) 1)]) (rest := [.ref (α K)]) ⟨hx, hb, hml, hown, hts⟩ (c_P_firstShared l (σ.2 (K + 1) 1) (σ.2 (K + 2) 1)) ⟨va_cnB 2 hts (xa_g xw669) rfl rfl rfl (hN.at 6 rfl) (ht _ xw1) (by decide +kernel) ⟨Nat.le_of_ble_eq_true rfl, Nat.le_of_ble_eq_true rfl⟩, ht _ xw668, trivial⟩ preEq rfl rfl hl.1 rfl (lv_room (Nat.le_of_ble_eq_true rfl)) d_Exchange_choose_15 ⟨Nat.le_of_ble_eq_true rfl, Nat.le_of_ble_eq_true rfl⟩).run (fun r_ e_ => ?_)
  subst e_
  refine sp_pi_Exchange (x := (f_first (σ.2 (K + 1) 1) (σ.2 (K + 2) 1))) (ty := .int) hx hb ht hown hK hP iK 3 (by decide) (ht _ xw157) (fun _ h_ => h_) hD hS rfl (by decide +kernel) rfl rfl hf_Exchange_3 d_Exchange_choose_18 (fun H locs hP hS => ?_)
  refine lv_aload_n hx hb d_Exchange_choose_21 rfl (lv_at hl 0 rfl) ?_
  refine lv_aload_n hx hb d_Exchange_choose_22 rfl (lv_at hl 0 rfl) ?_
  refine sp_g_Exchange (v := .ref (α (K + 1))) hx hb ht hown hK hP iK 0 (by decide) (ht _ xw151) (fun _ h_ => h_) rfl d_Exchange_choose_23 ?_
  refine sp_g_Init (v := .long (σ.2 (K + 1) 2)) hx hb ht hown hK hP (by omega) 2 (by decide) (ht _ xw143) (fun _ h_ => h_) (congrArg (fun z_ => some (Value.long z_)) (xb_l_i)) d_Exchange_choose_26 ?_
  refine lv_aload_n hx hb d_Exchange_choose_29 rfl (lv_at hl 0 rfl) ?_
  refine sp_g_Exchange (v := .ref (α (K + 2))) hx hb ht hown hK hP iK 1 (by decide) (ht _ xw153) (fun _ h_ => h_) rfl d_Exchange_choose_30 ?_
  refine sp_g_Init (v := .long (σ.2 (K + 2) 2)) hx hb ht hown hK hP (by omega) 2 (by decide) (ht _ xw143) (fun _ h_ => h_) (congrArg (fun z_ => some (Value.long z_)) (xb_l_i)) d_Exchange_choose_33 ?_
  refine vp_callSi (va_runSN (As := [.long (σ.2 (K + 1) 2), .long (σ.2 (K + 2) 2)]) (rest := [.ref (α K)]) ⟨hx, hb, hml, hown, hts⟩ (c_P_firstShared l (σ.2 (K + 1) 2) (σ.2 (K + 2) 2)) ⟨va_cnB 2 hts (xa_g xw669) rfl rfl rfl (hN.at 6 rfl) (ht _ xw1) (by decide +kernel) ⟨Nat.le_of_ble_eq_true rfl, Nat.le_of_ble_eq_true rfl⟩, ht _ xw668, trivial⟩ preEq rfl rfl hl.1 rfl (lv_room (Nat.le_of_ble_eq_true rfl)) d_Exchange_choose_36 ⟨Nat.le_of_ble_eq_true rfl, Nat.le_of_ble_eq_true rfl⟩).run (fun r_ e_ => ?_)
  subst e_
  refine sp_pi_Exchange (x := (f_first (σ.2 (K + 1) 2) (σ.2 (K + 2) 2))) (ty := .int) hx hb ht hown hK hP iK 4 (by decide) (ht _ xw159) (fun _ h_ => h_) hD hS rfl (by decide +kernel) rfl rfl hf_Exchange_4 d_Exchange_choose_39 (fun H locs hP hS => ?_)
  refine lv_aload_n hx hb d_Exchange_choose_42 rfl (lv_at hl 0 rfl) ?_
  refine sp_g_Exchange (v := .int (f_first (σ.2 (K + 1) 1) (σ.2 (K + 2) 1))) hx hb ht hown hK hP iK 3 (by decide) (ht _ xw157) (fun _ h_ => h_) (congrArg (fun z_ => some (Value.int z_)) (((xb_i_nj (by decide))).trans (xb_i_hit))) d_Exchange_choose_43 ?_
  refine lv_if_eq (tgt := 60) hx hb d_Exchange_choose_46 (by decide) (fun c1 => ?_) (fun c1 => ?_)
  · skip
    refine lv_iconst (v := 0) hx hb d_Exchange_choose_60 (by decide) ?_
    exact W.zret (v := (0 : Int32)) hx hb hr rfl (fun t ht_ hW => ⟨⟨(0 : Int32), (xb_si (xb_si σ K 3 (f_first (σ.2 (K + 1) 1) (σ.2 (K + 2) 1))) K 4 (f_first (σ.2 (K + 1) 2) (σ.2 (K + 2) 2))), rfl, ⟨congrArg Prod.fst ((((if_pos c1)).symm) : ((0 : Int32), (xb_si (xb_si σ K 3 (f_first (σ.2 (K + 1) 1) (σ.2 (K + 2) 1))) K 4 (f_first (σ.2 (K + 1) 2) (σ.2 (K + 2) 2)))) = p_Ex_choose K σ), congrArg Prod.snd ((((if_pos c1)).symm) : ((0 : Int32), (xb_si (xb_si σ K 3 (f_first (σ.2 (K + 1) 1) (σ.2 (K + 2) 1))) K 4 (f_first (σ.2 (K + 1) 2) (σ.2 (K + 2) 2)))) = p_Ex_choose K σ)⟩, by rw [sp_B, ht_]; exact hP⟩, hS.F ht_⟩) hS.2.2 d_Exchange_choose_61
  · skip
    refine lv_aload_n hx hb d_Exchange_choose_49 rfl (lv_at hl 0 rfl) ?_
    refine sp_g_Exchange (v := .int (f_first (σ.2 (K + 1) 2) (σ.2 (K + 2) 2))) hx hb ht hown hK hP iK 4 (by decide) (ht _ xw159) (fun _ h_ => h_) (congrArg (fun z_ => some (Value.int z_)) (xb_i_hit)) d_Exchange_choose_50 ?_
    refine lv_if_eq (tgt := 60) hx hb d_Exchange_choose_53 (by decide) (fun c2 => ?_) (fun c2 => ?_)
    · skip
      refine lv_iconst (v := 0) hx hb d_Exchange_choose_60 (by decide) ?_
      exact W.zret (v := (0 : Int32)) hx hb hr rfl (fun t ht_ hW => ⟨⟨(0 : Int32), (xb_si (xb_si σ K 3 (f_first (σ.2 (K + 1) 1) (σ.2 (K + 2) 1))) K 4 (f_first (σ.2 (K + 1) 2) (σ.2 (K + 2) 2))), rfl, ⟨congrArg Prod.fst ((((if_neg c1).trans ((if_pos c2))).symm) : ((0 : Int32), (xb_si (xb_si σ K 3 (f_first (σ.2 (K + 1) 1) (σ.2 (K + 2) 1))) K 4 (f_first (σ.2 (K + 1) 2) (σ.2 (K + 2) 2)))) = p_Ex_choose K σ), congrArg Prod.snd ((((if_neg c1).trans ((if_pos c2))).symm) : ((0 : Int32), (xb_si (xb_si σ K 3 (f_first (σ.2 (K + 1) 1) (σ.2 (K + 2) 1))) K 4 (f_first (σ.2 (K + 1) 2) (σ.2 (K + 2) 2)))) = p_Ex_choose K σ)⟩, by rw [sp_B, ht_]; exact hP⟩, hS.F ht_⟩) hS.2.2 d_Exchange_choose_61
    · skip
      refine lv_iconst (v := 1) hx hb d_Exchange_choose_56 (by decide) ?_
      refine lv_goto (tgt := 61) hx hb d_Exchange_choose_57 (by decide) ?_
      exact W.zret (v := (1 : Int32)) hx hb hr rfl (fun t ht_ hW => ⟨⟨(1 : Int32), (xb_si (xb_si σ K 3 (f_first (σ.2 (K + 1) 1) (σ.2 (K + 2) 1))) K 4 (f_first (σ.2 (K + 1) 2) (σ.2 (K + 2) 2))), rfl, ⟨congrArg Prod.fst ((((if_neg c1).trans ((if_neg c2))).symm) : ((1 : Int32), (xb_si (xb_si σ K 3 (f_first (σ.2 (K + 1) 1) (σ.2 (K + 2) 1))) K 4 (f_first (σ.2 (K + 1) 2) (σ.2 (K + 2) 2)))) = p_Ex_choose K σ), congrArg Prod.snd ((((if_neg c1).trans ((if_neg c2))).symm) : ((1 : Int32), (xb_si (xb_si σ K 3 (f_first (σ.2 (K + 1) 1) (σ.2 (K + 2) 1))) K 4 (f_first (σ.2 (K + 1) 2) (σ.2 (K + 2) 2)))) = p_Ex_choose K σ)⟩, by rw [sp_B, ht_]; exact hP⟩, hS.F ht_⟩) hS.2.2 d_Exchange_choose_61
theorem ok_p_Ex_choose {σ : xb_St} (K : Nat) (iK : sp_isExchange K) (ok : sp_ok σ) : sp_ok (p_Ex_choose K σ).2 := by
  unfold p_Ex_choose
  by_cases c1 : (f_first (σ.2 (K + 1) 1) (σ.2 (K + 2) 1)) = 0
  · rw [if_pos c1]
    exact (ok_si (ok_si ok (by omega) (by omega)) (by omega) (by omega))
  · rw [if_neg c1]
    by_cases c2 : (f_first (σ.2 (K + 1) 2) (σ.2 (K + 2) 2)) = 0
    · rw [if_pos c2]
      exact (ok_si (ok_si ok (by omega) (by omega)) (by omega) (by omega))
    · rw [if_neg c2]
      exact (ok_si (ok_si ok (by omega) (by omega)) (by omega) (by omega))
abbrev b_Keys_tagOf : ByteArray := prog_7_method_4_code
def y_Keys_tagOf : MethodName := ⟨"SecurePair$Keys", "tagOf", "(LSecurePair$Packet;)J"⟩
abbrev w_Keys_tagOf : List Cond := .code y_Keys_tagOf b_Keys_tagOf 4 (some .long) :: xa
theorem d_Keys_tagOf_0 : decode b_Keys_tagOf 0 = .ok (.aload_n 0, 1) := by decide +kernel
theorem d_Keys_tagOf_1 : decode b_Keys_tagOf 1 = .ok (.getfield 39, 3) := by decide +kernel
theorem d_Keys_tagOf_4 : decode b_Keys_tagOf 4 = .ok (.ifCond .ne 5, 3) := by decide +kernel
theorem d_Keys_tagOf_7 : decode b_Keys_tagOf 7 = .ok (.lconst 0, 1) := by decide +kernel
theorem d_Keys_tagOf_8 : decode b_Keys_tagOf 8 = .ok (.lreturn, 1) := by decide +kernel
theorem d_Keys_tagOf_9 : decode b_Keys_tagOf 9 = .ok (.lconst 0, 1) := by decide +kernel
theorem d_Keys_tagOf_10 : decode b_Keys_tagOf 10 = .ok (.aload_n 0, 1) := by decide +kernel
theorem d_Keys_tagOf_11 : decode b_Keys_tagOf 11 = .ok (.getfield 27, 3) := by decide +kernel
theorem d_Keys_tagOf_14 : decode b_Keys_tagOf 14 = .ok (.invokestatic 13, 3) := by decide +kernel
theorem d_Keys_tagOf_17 : decode b_Keys_tagOf 17 = .ok (.aload_n 0, 1) := by decide +kernel
theorem d_Keys_tagOf_18 : decode b_Keys_tagOf 18 = .ok (.getfield 38, 3) := by decide +kernel
theorem d_Keys_tagOf_21 : decode b_Keys_tagOf 21 = .ok (.i2l, 1) := by decide +kernel
theorem d_Keys_tagOf_22 : decode b_Keys_tagOf 22 = .ok (.invokestatic 13, 3) := by decide +kernel
theorem d_Keys_tagOf_25 : decode b_Keys_tagOf 25 = .ok (.aload_n 0, 1) := by decide +kernel
theorem d_Keys_tagOf_26 : decode b_Keys_tagOf 26 = .ok (.getfield 43, 3) := by decide +kernel
theorem d_Keys_tagOf_29 : decode b_Keys_tagOf 29 = .ok (.i2l, 1) := by decide +kernel
theorem d_Keys_tagOf_30 : decode b_Keys_tagOf 30 = .ok (.invokestatic 13, 3) := by decide +kernel
theorem d_Keys_tagOf_33 : decode b_Keys_tagOf 33 = .ok (.aload_n 1, 1) := by decide +kernel
theorem d_Keys_tagOf_34 : decode b_Keys_tagOf 34 = .ok (.getfield 55, 3) := by decide +kernel
theorem d_Keys_tagOf_37 : decode b_Keys_tagOf 37 = .ok (.i2l, 1) := by decide +kernel
theorem d_Keys_tagOf_38 : decode b_Keys_tagOf 38 = .ok (.invokestatic 13, 3) := by decide +kernel
theorem d_Keys_tagOf_41 : decode b_Keys_tagOf 41 = .ok (.lstore_n 2, 1) := by decide +kernel
theorem d_Keys_tagOf_42 : decode b_Keys_tagOf 42 = .ok (.lload_n 2, 1) := by decide +kernel
theorem d_Keys_tagOf_43 : decode b_Keys_tagOf 43 = .ok (.aload_n 1, 1) := by decide +kernel
theorem d_Keys_tagOf_44 : decode b_Keys_tagOf 44 = .ok (.getfield 58, 3) := by decide +kernel
theorem d_Keys_tagOf_47 : decode b_Keys_tagOf 47 = .ok (.invokestatic 13, 3) := by decide +kernel
theorem d_Keys_tagOf_50 : decode b_Keys_tagOf 50 = .ok (.aload_n 1, 1) := by decide +kernel
theorem d_Keys_tagOf_51 : decode b_Keys_tagOf 51 = .ok (.getfield 61, 3) := by decide +kernel
theorem d_Keys_tagOf_54 : decode b_Keys_tagOf 54 = .ok (.invokestatic 13, 3) := by decide +kernel
theorem d_Keys_tagOf_57 : decode b_Keys_tagOf 57 = .ok (.aload_n 1, 1) := by decide +kernel
theorem d_Keys_tagOf_58 : decode b_Keys_tagOf 58 = .ok (.getfield 64, 3) := by decide +kernel
theorem d_Keys_tagOf_61 : decode b_Keys_tagOf 61 = .ok (.invokestatic 13, 3) := by decide +kernel
theorem d_Keys_tagOf_64 : decode b_Keys_tagOf 64 = .ok (.aload_n 1, 1) := by decide +kernel
theorem d_Keys_tagOf_65 : decode b_Keys_tagOf 65 = .ok (.getfield 67, 3) := by decide +kernel
theorem d_Keys_tagOf_68 : decode b_Keys_tagOf 68 = .ok (.invokestatic 13, 3) := by decide +kernel
theorem d_Keys_tagOf_71 : decode b_Keys_tagOf 71 = .ok (.lreturn, 1) := by decide +kernel
theorem xw61 : (Cond.fieldLink "SecurePair$Keys" (55 : Nat) "SecurePair$Packet" "kind" "I") ∈ xa := xa_t 61 (by decide +kernel) (by decide +kernel)
theorem xw66 : (Cond.fieldLink "SecurePair$Keys" (58 : Nat) "SecurePair$Packet" "w" "J") ∈ xa := xa_t 66 (by decide +kernel) (by decide +kernel)
theorem xw70 : (Cond.fieldLink "SecurePair$Keys" (61 : Nat) "SecurePair$Packet" "x" "J") ∈ xa := xa_t 70 (by decide +kernel) (by decide +kernel)
theorem xw73 : (Cond.fieldLink "SecurePair$Keys" (64 : Nat) "SecurePair$Packet" "y" "J") ∈ xa := xa_t 73 (by decide +kernel) (by decide +kernel)
theorem xw77 : (Cond.fieldLink "SecurePair$Keys" (67 : Nat) "SecurePair$Packet" "z" "J") ∈ xa := xa_t 77 (by decide +kernel) (by decide +kernel)
theorem xw102 : (Cond.fieldLink "SecurePair$Keys" (39 : Nat) "SecurePair$Keys" "present" "Z") ∈ xa := xa_t 102 (by decide +kernel) (by decide +kernel)
theorem xw105 : (Cond.fieldLink "SecurePair$Keys" (27 : Nat) "SecurePair$Keys" "tagKey" "J") ∈ xa := xa_t 105 (by decide +kernel) (by decide +kernel)
theorem xw108 : (Cond.fieldLink "SecurePair$Keys" (38 : Nat) "SecurePair$Keys" "tagKind" "I") ∈ xa := xa_t 108 (by decide +kernel) (by decide +kernel)
theorem xw110 : (Cond.fieldLink "SecurePair$Keys" (43 : Nat) "SecurePair$Keys" "number" "I") ∈ xa := xa_t 110 (by decide +kernel) (by decide +kernel)
def p_Keys_tagOf (K : Nat) (P : Nat) (σ : xb_St) : Int64 := (if (σ.1 K 0) = 0 then (0 : Int64) else (f_mix (f_mix (f_mix (f_mix (f_mix (f_mix (f_mix (f_mix (0 : Int64) (σ.2 K 2)) ((σ.1 K 4).toInt64)) ((σ.1 K 5).toInt64)) ((σ.1 P 0).toInt64)) (σ.2 P 1)) (σ.2 P 2)) (σ.2 P 3)) (σ.2 P 4)))
set_option maxHeartbeats 4000000 in
set_option maxRecDepth 100000 in
theorem c_Keys_tagOf (l : Launch) (D : va_G) (α : Nat → Nat) (κ : Nat → ClassId) (hα : xb_inj α 35) (σ : xb_St) (K : Nat) (P : Nat) (iK : sp_isKeys K) (iP : sp_isPacket P) : Met l y_Keys_tagOf w_Keys_tagOf ({ frames := 1, cells := 0, slots := 0, locals := 25 }) (va_Pc ([.ref (α K), .ref (α P)]) (sp_Pre D α κ σ)) (va_Ql (fun r (u : xb_St) => r = p_Keys_tagOf K P σ ∧ u = σ) (sp_B D α κ) (xb_A α 35)) 0 0 (xb_A α 35) := by
  refine Met.ofW (cc := b_Keys_tagOf) (maxL := 4) (ret := (some .long)) (by decide) rfl ?_
  intro p e s m args below meth c s₁ B_ hml hv
  obtain ⟨rfl, hP, hK, hN⟩ := hv
  have hx := B_.exec
  have hb := B_.bytes
  have hr := B_.returns
  have hts := atoms_spec (ws := w_Keys_tagOf) B_.pre
  have ht : ∀ w ∈ xa, w.before _ s = true := fun w h => hts w (List.mem_cons_of_mem _ h)
  have hown : s.vm.findClass "SecurePair$Keys" = some m.cls := findClass_of_methodNamed B_.named
  have hlocks := B_.notSynchronized
  have hD := sp_D hα κ
  have hS : va_S (xb_A α 35) s.heap s.heap [] := va_S.rf
  have hl := lv_entry ([.ref (α K), .ref (α P)]) (n := 4) (Nat.le_of_ble_eq_true rfl)
  rw [lg_entry_eq]
  generalize (lg_sl ([.ref (α K), .ref (α P)]) ++ List.replicate (4 - (lg_sl ([.ref (α K), .ref (α P)])).length) Slot.unset).toArray = ls at hl ⊢
  have hl : lv_has ls 4 [(0, .ref (α K)), (1, .ref (α P))] := hl
  refine lv_aload_n hx hb d_Keys_tagOf_0 rfl (lv_at hl 0 rfl) ?_
  refine sp_g_Keys (v := .int (σ.1 K 0)) hx hb ht hown hK hP iK 0 (by decide) (ht _ xw102) (fun _ h_ => h_) rfl d_Keys_tagOf_1 ?_
  refine lv_if_ne (tgt := 9) hx hb d_Keys_tagOf_4 (by decide) (fun c1 => ?_) (fun c1 => ?_)
  · skip
    refine lv_lconst (v := 0) hx hb d_Keys_tagOf_9 (by decide) ?_
    refine lv_aload_n hx hb d_Keys_tagOf_10 rfl (lv_at hl 0 rfl) ?_
    refine sp_g_Keys (v := .long (σ.2 K 2)) hx hb ht hown hK hP iK 2 (by decide) (ht _ xw105) (fun _ h_ => h_) rfl d_Keys_tagOf_11 ?_
    refine vp_callSl (va_runSN (As := [.long (0 : Int64), .long (σ.2 K 2)]) (rest := []) ⟨hx, hb, hml, hown, hts⟩ (c_P_mix l (0 : Int64) (σ.2 K 2)) ⟨va_cnB 2 hts (xa_g xw391) rfl rfl rfl (hN.at 5 rfl) (ht _ xw1) (by decide +kernel) ⟨Nat.le_of_ble_eq_true rfl, Nat.le_of_ble_eq_true rfl⟩, ht _ xw390, trivial⟩ preEq rfl rfl hl.1 rfl (lv_room (Nat.le_of_ble_eq_true rfl)) d_Keys_tagOf_14 ⟨Nat.le_of_ble_eq_true rfl, Nat.le_of_ble_eq_true rfl⟩).run (fun r_ e_ => ?_)
    subst e_
    refine lv_aload_n hx hb d_Keys_tagOf_17 rfl (lv_at hl 0 rfl) ?_
    refine sp_g_Keys (v := .int (σ.1 K 4)) hx hb ht hown hK hP iK 4 (by decide) (ht _ xw108) (fun _ h_ => h_) rfl d_Keys_tagOf_18 ?_
    refine lv_i2l (v := (σ.1 K 4).toInt64) hx hb d_Keys_tagOf_21 (by rfl) ?_
    refine vp_callSl (va_runSN (As := [.long (f_mix (0 : Int64) (σ.2 K 2)), .long ((σ.1 K 4).toInt64)]) (rest := []) ⟨hx, hb, hml, hown, hts⟩ (c_P_mix l (f_mix (0 : Int64) (σ.2 K 2)) ((σ.1 K 4).toInt64)) ⟨va_cnB 2 hts (xa_g xw391) rfl rfl rfl (hN.at 5 rfl) (ht _ xw1) (by decide +kernel) ⟨Nat.le_of_ble_eq_true rfl, Nat.le_of_ble_eq_true rfl⟩, ht _ xw390, trivial⟩ preEq rfl rfl hl.1 rfl (lv_room (Nat.le_of_ble_eq_true rfl)) d_Keys_tagOf_22 ⟨Nat.le_of_ble_eq_true rfl, Nat.le_of_ble_eq_true rfl⟩).run (fun r_ e_ => ?_)
    subst e_
    refine lv_aload_n hx hb d_Keys_tagOf_25 rfl (lv_at hl 0 rfl) ?_
    refine sp_g_Keys (v := .int (σ.1 K 5)) hx hb ht hown hK hP iK 5 (by decide) (ht _ xw110) (fun _ h_ => h_) rfl d_Keys_tagOf_26 ?_
    refine lv_i2l (v := (σ.1 K 5).toInt64) hx hb d_Keys_tagOf_29 (by rfl) ?_
    refine vp_callSl (va_runSN (As := [.long (f_mix (f_mix (0 : Int64) (σ.2 K 2)) ((σ.1 K 4).toInt64)), .long ((σ.1 K 5).toInt64)]) (rest := []) ⟨hx, hb, hml, hown, hts⟩ (c_P_mix l (f_mix (f_mix (0 : Int64) (σ.2 K 2)) ((σ.1 K 4).toInt64)) ((σ.1 K 5).toInt64)) ⟨va_cnB 2 hts (xa_g xw391) rfl rfl rfl (hN.at 5 rfl) (ht _ xw1) (by decide +kernel) ⟨Nat.le_of_ble_eq_true rfl, Nat.le_of_ble_eq_true rfl⟩, ht _ xw390, trivial⟩ preEq rfl rfl hl.1 rfl (lv_room (Nat.le_of_ble_eq_true rfl)) d_Keys_tagOf_30 ⟨Nat.le_of_ble_eq_true rfl, Nat.le_of_ble_eq_true rfl⟩).run (fun r_ e_ => ?_)
    subst e_
    refine lv_aload_n hx hb d_Keys_tagOf_33 rfl (lv_at hl 1 rfl) ?_
    refine sp_g_Packet (v := .int (σ.1 P 0)) hx hb ht hown hK hP iP 0 (by decide) (ht _ xw61) (fun _ h_ => h_) rfl d_Keys_tagOf_34 ?_
    refine lv_i2l (v := (σ.1 P 0).toInt64) hx hb d_Keys_tagOf_37 (by rfl) ?_
    refine vp_callSl (va_runSN (As := [.long (f_mix (f_mix (f_mix (0 : Int64) (σ.2 K 2)) ((σ.1 K 4).toInt64)) ((σ.1 K 5).toInt64)), .long ((σ.1 P 0).toInt64)]) (rest := []) ⟨hx, hb, hml, hown, hts⟩ (c_P_mix l (f_mix (f_mix (f_mix (0 : Int64) (σ.2 K 2)) ((σ.1 K 4).toInt64)) ((σ.1 K 5).toInt64)) ((σ.1 P 0).toInt64)) ⟨va_cnB 2 hts (xa_g xw391) rfl rfl rfl (hN.at 5 rfl) (ht _ xw1) (by decide +kernel) ⟨Nat.le_of_ble_eq_true rfl, Nat.le_of_ble_eq_true rfl⟩, ht _ xw390, trivial⟩ preEq rfl rfl hl.1 rfl (lv_room (Nat.le_of_ble_eq_true rfl)) d_Keys_tagOf_38 ⟨Nat.le_of_ble_eq_true rfl, Nat.le_of_ble_eq_true rfl⟩).run (fun r_ e_ => ?_)
    subst e_
    refine lv_lstore_n (lv' := [(2, .long (f_mix (f_mix (f_mix (f_mix (0 : Int64) (σ.2 K 2)) ((σ.1 K 4).toInt64)) ((σ.1 K 5).toInt64)) ((σ.1 P 0).toInt64))), (0, .ref (α K)), (1, .ref (α P))]) hx hb d_Keys_tagOf_41 rfl hl (by decide) rfl (fun ls hl => ?_)
    refine lv_lload_n hx hb d_Keys_tagOf_42 rfl (lv_at hl 0 rfl) ?_
    refine lv_aload_n hx hb d_Keys_tagOf_43 rfl (lv_at hl 2 rfl) ?_
    refine sp_g_Packet (v := .long (σ.2 P 1)) hx hb ht hown hK hP iP 1 (by decide) (ht _ xw66) (fun _ h_ => h_) rfl d_Keys_tagOf_44 ?_
    refine vp_callSl (va_runSN (As := [.long (f_mix (f_mix (f_mix (f_mix (0 : Int64) (σ.2 K 2)) ((σ.1 K 4).toInt64)) ((σ.1 K 5).toInt64)) ((σ.1 P 0).toInt64)), .long (σ.2 P 1)]) (rest := []) ⟨hx, hb, hml, hown, hts⟩ (c_P_mix l (f_mix (f_mix (f_mix (f_mix (0 : Int64) (σ.2 K 2)) ((σ.1 K 4).toInt64)) ((σ.1 K 5).toInt64)) ((σ.1 P 0).toInt64)) (σ.2 P 1)) ⟨va_cnB 2 hts (xa_g xw391) rfl rfl rfl (hN.at 5 rfl) (ht _ xw1) (by decide +kernel) ⟨Nat.le_of_ble_eq_true rfl, Nat.le_of_ble_eq_true rfl⟩, ht _ xw390, trivial⟩ preEq rfl rfl hl.1 rfl (lv_room (Nat.le_of_ble_eq_true rfl)) d_Keys_tagOf_47 ⟨Nat.le_of_ble_eq_true rfl, Nat.le_of_ble_eq_true rfl⟩).run (fun r_ e_ => ?_)
    subst e_
    refine lv_aload_n hx hb d_Keys_tagOf_50 rfl (lv_at hl 2 rfl) ?_
    refine sp_g_Packet (v := .long (σ.2 P 2)) hx hb ht hown hK hP iP 2 (by decide) (ht _ xw70) (fun _ h_ => h_) rfl d_Keys_tagOf_51 ?_
    refine vp_callSl (va_runSN (As := [.long (f_mix (f_mix (f_mix (f_mix (f_mix (0 : Int64) (σ.2 K 2)) ((σ.1 K 4).toInt64)) ((σ.1 K 5).toInt64)) ((σ.1 P 0).toInt64)) (σ.2 P 1)), .long (σ.2 P 2)]) (rest := []) ⟨hx, hb, hml, hown, hts⟩ (c_P_mix l (f_mix (f_mix (f_mix (f_mix (f_mix (0 : Int64) (σ.2 K 2)) ((σ.1 K 4).toInt64)) ((σ.1 K 5).toInt64)) ((σ.1 P 0).toInt64)) (σ.2 P 1)) (σ.2 P 2)) ⟨va_cnB 2 hts (xa_g xw391) rfl rfl rfl (hN.at 5 rfl) (ht _ xw1) (by decide +kernel) ⟨Nat.le_of_ble_eq_true rfl, Nat.le_of_ble_eq_true rfl⟩, ht _ xw390, trivial⟩ preEq rfl rfl hl.1 rfl (lv_room (Nat.le_of_ble_eq_true rfl)) d_Keys_tagOf_54 ⟨Nat.le_of_ble_eq_true rfl, Nat.le_of_ble_eq_true rfl⟩).run (fun r_ e_ => ?_)
    subst e_
    refine lv_aload_n hx hb d_Keys_tagOf_57 rfl (lv_at hl 2 rfl) ?_
    refine sp_g_Packet (v := .long (σ.2 P 3)) hx hb ht hown hK hP iP 3 (by decide) (ht _ xw73) (fun _ h_ => h_) rfl d_Keys_tagOf_58 ?_
    refine vp_callSl (va_runSN (As := [.long (f_mix (f_mix (f_mix (f_mix (f_mix (f_mix (0 : Int64) (σ.2 K 2)) ((σ.1 K 4).toInt64)) ((σ.1 K 5).toInt64)) ((σ.1 P 0).toInt64)) (σ.2 P 1)) (σ.2 P 2)), .long (σ.2 P 3)]) (rest := []) ⟨hx, hb, hml, hown, hts⟩ (c_P_mix l (f_mix (f_mix (f_mix (f_mix (f_mix (f_mix (0 : Int64) (σ.2 K 2)) ((σ.1 K 4).toInt64)) ((σ.1 K 5).toInt64)) ((σ.1 P 0).toInt64)) (σ.2 P 1)) (σ.2 P 2)) (σ.2 P 3)) ⟨va_cnB 2 hts (xa_g xw391) rfl rfl rfl (hN.at 5 rfl) (ht _ xw1) (by decide +kernel) ⟨Nat.le_of_ble_eq_true rfl, Nat.le_of_ble_eq_true rfl⟩, ht _ xw390, trivial⟩ preEq rfl rfl hl.1 rfl (lv_room (Nat.le_of_ble_eq_true rfl)) d_Keys_tagOf_61 ⟨Nat.le_of_ble_eq_true rfl, Nat.le_of_ble_eq_true rfl⟩).run (fun r_ e_ => ?_)
    subst e_
    refine lv_aload_n hx hb d_Keys_tagOf_64 rfl (lv_at hl 2 rfl) ?_
    refine sp_g_Packet (v := .long (σ.2 P 4)) hx hb ht hown hK hP iP 4 (by decide) (ht _ xw77) (fun _ h_ => h_) rfl d_Keys_tagOf_65 ?_
    refine vp_callSl (va_runSN (As := [.long (f_mix (f_mix (f_mix (f_mix (f_mix (f_mix (f_mix (0 : Int64) (σ.2 K 2)) ((σ.1 K 4).toInt64)) ((σ.1 K 5).toInt64)) ((σ.1 P 0).toInt64)) (σ.2 P 1)) (σ.2 P 2)) (σ.2 P 3)), .long (σ.2 P 4)]) (rest := []) ⟨hx, hb, hml, hown, hts⟩ (c_P_mix l (f_mix (f_mix (f_mix (f_mix (f_mix (f_mix (f_mix (0 : Int64) (σ.2 K 2)) ((σ.1 K 4).toInt64)) ((σ.1 K 5).toInt64)) ((σ.1 P 0).toInt64)) (σ.2 P 1)) (σ.2 P 2)) (σ.2 P 3)) (σ.2 P 4)) ⟨va_cnB 2 hts (xa_g xw391) rfl rfl rfl (hN.at 5 rfl) (ht _ xw1) (by decide +kernel) ⟨Nat.le_of_ble_eq_true rfl, Nat.le_of_ble_eq_true rfl⟩, ht _ xw390, trivial⟩ preEq rfl rfl hl.1 rfl (lv_room (Nat.le_of_ble_eq_true rfl)) d_Keys_tagOf_68 ⟨Nat.le_of_ble_eq_true rfl, Nat.le_of_ble_eq_true rfl⟩).run (fun r_ e_ => ?_)
    subst e_
    exact W.lret (v := (f_mix (f_mix (f_mix (f_mix (f_mix (f_mix (f_mix (f_mix (0 : Int64) (σ.2 K 2)) ((σ.1 K 4).toInt64)) ((σ.1 K 5).toInt64)) ((σ.1 P 0).toInt64)) (σ.2 P 1)) (σ.2 P 2)) (σ.2 P 3)) (σ.2 P 4))) hx hb hr (fun t ht_ hW => ⟨⟨(f_mix (f_mix (f_mix (f_mix (f_mix (f_mix (f_mix (f_mix (0 : Int64) (σ.2 K 2)) ((σ.1 K 4).toInt64)) ((σ.1 K 5).toInt64)) ((σ.1 P 0).toInt64)) (σ.2 P 1)) (σ.2 P 2)) (σ.2 P 3)) (σ.2 P 4)), σ, rfl, ⟨((if_neg c1)).symm, rfl⟩, by rw [sp_B, ht_]; exact hP⟩, hS.F ht_⟩) hS.2.2 d_Keys_tagOf_71
  · skip
    refine lv_lconst (v := 0) hx hb d_Keys_tagOf_7 (by decide) ?_
    exact W.lret (v := (0 : Int64)) hx hb hr (fun t ht_ hW => ⟨⟨(0 : Int64), σ, rfl, ⟨((if_pos c1)).symm, rfl⟩, by rw [sp_B, ht_]; exact hP⟩, hS.F ht_⟩) hS.2.2 d_Keys_tagOf_8
abbrev b_Keys_cover : ByteArray := prog_7_method_5_code
def y_Keys_cover : MethodName := ⟨"SecurePair$Keys", "cover", "(LSecurePair$Packet;)V"⟩
abbrev w_Keys_cover : List Cond := .code y_Keys_cover b_Keys_cover 4 none :: xa
theorem d_Keys_cover_0 : decode b_Keys_cover 0 = .ok (.aload_n 0, 1) := by decide +kernel
theorem d_Keys_cover_1 : decode b_Keys_cover 1 = .ok (.getfield 39, 3) := by decide +kernel
theorem d_Keys_cover_4 : decode b_Keys_cover 4 = .ok (.ifCond .ne 4, 3) := by decide +kernel
theorem d_Keys_cover_7 : decode b_Keys_cover 7 = .ok (.return_, 1) := by decide +kernel
theorem d_Keys_cover_8 : decode b_Keys_cover 8 = .ok (.lconst 0, 1) := by decide +kernel
theorem d_Keys_cover_9 : decode b_Keys_cover 9 = .ok (.aload_n 0, 1) := by decide +kernel
theorem d_Keys_cover_10 : decode b_Keys_cover 10 = .ok (.getfield 22, 3) := by decide +kernel
theorem d_Keys_cover_13 : decode b_Keys_cover 13 = .ok (.invokestatic 13, 3) := by decide +kernel
theorem d_Keys_cover_16 : decode b_Keys_cover 16 = .ok (.aload_n 0, 1) := by decide +kernel
theorem d_Keys_cover_17 : decode b_Keys_cover 17 = .ok (.getfield 34, 3) := by decide +kernel
theorem d_Keys_cover_20 : decode b_Keys_cover 20 = .ok (.i2l, 1) := by decide +kernel
theorem d_Keys_cover_21 : decode b_Keys_cover 21 = .ok (.invokestatic 13, 3) := by decide +kernel
theorem d_Keys_cover_24 : decode b_Keys_cover 24 = .ok (.aload_n 0, 1) := by decide +kernel
theorem d_Keys_cover_25 : decode b_Keys_cover 25 = .ok (.getfield 43, 3) := by decide +kernel
theorem d_Keys_cover_28 : decode b_Keys_cover 28 = .ok (.i2l, 1) := by decide +kernel
theorem d_Keys_cover_29 : decode b_Keys_cover 29 = .ok (.invokestatic 13, 3) := by decide +kernel
theorem d_Keys_cover_32 : decode b_Keys_cover 32 = .ok (.lstore_n 2, 1) := by decide +kernel
theorem d_Keys_cover_33 : decode b_Keys_cover 33 = .ok (.aload_n 1, 1) := by decide +kernel
theorem d_Keys_cover_34 : decode b_Keys_cover 34 = .ok (.dup, 1) := by decide +kernel
theorem d_Keys_cover_35 : decode b_Keys_cover 35 = .ok (.getfield 58, 3) := by decide +kernel
theorem d_Keys_cover_38 : decode b_Keys_cover 38 = .ok (.lload_n 2, 1) := by decide +kernel
theorem d_Keys_cover_39 : decode b_Keys_cover 39 = .ok (.lconst 1, 1) := by decide +kernel
theorem d_Keys_cover_40 : decode b_Keys_cover 40 = .ok (.invokestatic 13, 3) := by decide +kernel
theorem d_Keys_cover_43 : decode b_Keys_cover 43 = .ok (.lxor, 1) := by decide +kernel
theorem d_Keys_cover_44 : decode b_Keys_cover 44 = .ok (.putfield 58, 3) := by decide +kernel
theorem d_Keys_cover_47 : decode b_Keys_cover 47 = .ok (.aload_n 1, 1) := by decide +kernel
theorem d_Keys_cover_48 : decode b_Keys_cover 48 = .ok (.dup, 1) := by decide +kernel
theorem d_Keys_cover_49 : decode b_Keys_cover 49 = .ok (.getfield 61, 3) := by decide +kernel
theorem d_Keys_cover_52 : decode b_Keys_cover 52 = .ok (.lload_n 2, 1) := by decide +kernel
theorem d_Keys_cover_53 : decode b_Keys_cover 53 = .ok (.ldc2_w 70, 3) := by decide +kernel
theorem d_Keys_cover_56 : decode b_Keys_cover 56 = .ok (.invokestatic 13, 3) := by decide +kernel
theorem d_Keys_cover_59 : decode b_Keys_cover 59 = .ok (.lxor, 1) := by decide +kernel
theorem d_Keys_cover_60 : decode b_Keys_cover 60 = .ok (.putfield 61, 3) := by decide +kernel
theorem d_Keys_cover_63 : decode b_Keys_cover 63 = .ok (.aload_n 1, 1) := by decide +kernel
theorem d_Keys_cover_64 : decode b_Keys_cover 64 = .ok (.dup, 1) := by decide +kernel
theorem d_Keys_cover_65 : decode b_Keys_cover 65 = .ok (.getfield 64, 3) := by decide +kernel
theorem d_Keys_cover_68 : decode b_Keys_cover 68 = .ok (.lload_n 2, 1) := by decide +kernel
theorem d_Keys_cover_69 : decode b_Keys_cover 69 = .ok (.ldc2_w 72, 3) := by decide +kernel
theorem d_Keys_cover_72 : decode b_Keys_cover 72 = .ok (.invokestatic 13, 3) := by decide +kernel
theorem d_Keys_cover_75 : decode b_Keys_cover 75 = .ok (.lxor, 1) := by decide +kernel
theorem d_Keys_cover_76 : decode b_Keys_cover 76 = .ok (.putfield 64, 3) := by decide +kernel
theorem d_Keys_cover_79 : decode b_Keys_cover 79 = .ok (.aload_n 1, 1) := by decide +kernel
theorem d_Keys_cover_80 : decode b_Keys_cover 80 = .ok (.dup, 1) := by decide +kernel
theorem d_Keys_cover_81 : decode b_Keys_cover 81 = .ok (.getfield 67, 3) := by decide +kernel
theorem d_Keys_cover_84 : decode b_Keys_cover 84 = .ok (.lload_n 2, 1) := by decide +kernel
theorem d_Keys_cover_85 : decode b_Keys_cover 85 = .ok (.ldc2_w 74, 3) := by decide +kernel
theorem d_Keys_cover_88 : decode b_Keys_cover 88 = .ok (.invokestatic 13, 3) := by decide +kernel
theorem d_Keys_cover_91 : decode b_Keys_cover 91 = .ok (.lxor, 1) := by decide +kernel
theorem d_Keys_cover_92 : decode b_Keys_cover 92 = .ok (.putfield 67, 3) := by decide +kernel
theorem d_Keys_cover_95 : decode b_Keys_cover 95 = .ok (.return_, 1) := by decide +kernel
theorem xw104 : (Cond.fieldLink "SecurePair$Keys" (22 : Nat) "SecurePair$Keys" "cipherKey" "J") ∈ xa := xa_t 104 (by decide +kernel) (by decide +kernel)
theorem xw106 : (Cond.fieldLink "SecurePair$Keys" (34 : Nat) "SecurePair$Keys" "cipher" "I") ∈ xa := xa_t 106 (by decide +kernel) (by decide +kernel)
theorem xw399 : (Cond.constantLong "SecurePair$Keys" (70 : Nat) (2 : Int64)) ∈ xa := xa_t 399 (by decide +kernel) (by decide +kernel)
theorem xw400 : (Cond.constantLong "SecurePair$Keys" (72 : Nat) (3 : Int64)) ∈ xa := xa_t 400 (by decide +kernel) (by decide +kernel)
theorem xw401 : (Cond.constantLong "SecurePair$Keys" (74 : Nat) (4 : Int64)) ∈ xa := xa_t 401 (by decide +kernel) (by decide +kernel)
def p_Keys_cover (K : Nat) (P : Nat) (σ : xb_St) : xb_St := (if (σ.1 K 0) = 0 then σ else (xb_sl (xb_sl (xb_sl (xb_sl σ P 1 ((σ.2 P 1) ^^^ (f_mix (f_mix (f_mix (f_mix (0 : Int64) (σ.2 K 1)) ((σ.1 K 3).toInt64)) ((σ.1 K 5).toInt64)) (1 : Int64)))) P 2 ((σ.2 P 2) ^^^ (f_mix (f_mix (f_mix (f_mix (0 : Int64) (σ.2 K 1)) ((σ.1 K 3).toInt64)) ((σ.1 K 5).toInt64)) (2 : Int64)))) P 3 ((σ.2 P 3) ^^^ (f_mix (f_mix (f_mix (f_mix (0 : Int64) (σ.2 K 1)) ((σ.1 K 3).toInt64)) ((σ.1 K 5).toInt64)) (3 : Int64)))) P 4 ((σ.2 P 4) ^^^ (f_mix (f_mix (f_mix (f_mix (0 : Int64) (σ.2 K 1)) ((σ.1 K 3).toInt64)) ((σ.1 K 5).toInt64)) (4 : Int64)))))
set_option maxHeartbeats 4000000 in
set_option maxRecDepth 100000 in
theorem c_Keys_cover (l : Launch) (D : va_G) (α : Nat → Nat) (κ : Nat → ClassId) (hα : xb_inj α 35) (σ : xb_St) (K : Nat) (P : Nat) (iK : sp_isKeys K) (iP : sp_isPacket P) : Met l y_Keys_cover w_Keys_cover ({ frames := 1, cells := 0, slots := 0, locals := 25 }) (va_Pc ([.ref (α K), .ref (α P)]) (sp_Pre D α κ σ)) (va_Qv (fun u : xb_St => u = p_Keys_cover K P σ) (sp_B D α κ) (xb_A α 35)) 0 0 (xb_A α 35) := by
  refine Met.ofW (cc := b_Keys_cover) (maxL := 4) (ret := none) (by decide) rfl ?_
  intro p e s m args below meth c s₁ B_ hml hv
  obtain ⟨rfl, hP, hK, hN⟩ := hv
  have hx := B_.exec
  have hb := B_.bytes
  have hr := B_.returns
  have hts := atoms_spec (ws := w_Keys_cover) B_.pre
  have ht : ∀ w ∈ xa, w.before _ s = true := fun w h => hts w (List.mem_cons_of_mem _ h)
  have hown : s.vm.findClass "SecurePair$Keys" = some m.cls := findClass_of_methodNamed B_.named
  have hlocks := B_.notSynchronized
  have hD := sp_D hα κ
  have hS : va_S (xb_A α 35) s.heap s.heap [] := va_S.rf
  have hl := lv_entry ([.ref (α K), .ref (α P)]) (n := 4) (Nat.le_of_ble_eq_true rfl)
  rw [lg_entry_eq]
  generalize (lg_sl ([.ref (α K), .ref (α P)]) ++ List.replicate (4 - (lg_sl ([.ref (α K), .ref (α P)])).length) Slot.unset).toArray = ls at hl ⊢
  have hl : lv_has ls 4 [(0, .ref (α K)), (1, .ref (α P))] := hl
  refine lv_aload_n hx hb d_Keys_cover_0 rfl (lv_at hl 0 rfl) ?_
  refine sp_g_Keys (v := .int (σ.1 K 0)) hx hb ht hown hK hP iK 0 (by decide) (ht _ xw102) (fun _ h_ => h_) rfl d_Keys_cover_1 ?_
  refine lv_if_ne (tgt := 8) hx hb d_Keys_cover_4 (by decide) (fun c1 => ?_) (fun c1 => ?_)
  · skip
    refine lv_lconst (v := 0) hx hb d_Keys_cover_8 (by decide) ?_
    refine lv_aload_n hx hb d_Keys_cover_9 rfl (lv_at hl 0 rfl) ?_
    refine sp_g_Keys (v := .long (σ.2 K 1)) hx hb ht hown hK hP iK 1 (by decide) (ht _ xw104) (fun _ h_ => h_) rfl d_Keys_cover_10 ?_
    refine vp_callSl (va_runSN (As := [.long (0 : Int64), .long (σ.2 K 1)]) (rest := []) ⟨hx, hb, hml, hown, hts⟩ (c_P_mix l (0 : Int64) (σ.2 K 1)) ⟨va_cnB 2 hts (xa_g xw391) rfl rfl rfl (hN.at 5 rfl) (ht _ xw1) (by decide +kernel) ⟨Nat.le_of_ble_eq_true rfl, Nat.le_of_ble_eq_true rfl⟩, ht _ xw390, trivial⟩ preEq rfl rfl hl.1 rfl (lv_room (Nat.le_of_ble_eq_true rfl)) d_Keys_cover_13 ⟨Nat.le_of_ble_eq_true rfl, Nat.le_of_ble_eq_true rfl⟩).run (fun r_ e_ => ?_)
    subst e_
    refine lv_aload_n hx hb d_Keys_cover_16 rfl (lv_at hl 0 rfl) ?_
    refine sp_g_Keys (v := .int (σ.1 K 3)) hx hb ht hown hK hP iK 3 (by decide) (ht _ xw106) (fun _ h_ => h_) rfl d_Keys_cover_17 ?_
    refine lv_i2l (v := (σ.1 K 3).toInt64) hx hb d_Keys_cover_20 (by rfl) ?_
    refine vp_callSl (va_runSN (As := [.long (f_mix (0 : Int64) (σ.2 K 1)), .long ((σ.1 K 3).toInt64)]) (rest := []) ⟨hx, hb, hml, hown, hts⟩ (c_P_mix l (f_mix (0 : Int64) (σ.2 K 1)) ((σ.1 K 3).toInt64)) ⟨va_cnB 2 hts (xa_g xw391) rfl rfl rfl (hN.at 5 rfl) (ht _ xw1) (by decide +kernel) ⟨Nat.le_of_ble_eq_true rfl, Nat.le_of_ble_eq_true rfl⟩, ht _ xw390, trivial⟩ preEq rfl rfl hl.1 rfl (lv_room (Nat.le_of_ble_eq_true rfl)) d_Keys_cover_21 ⟨Nat.le_of_ble_eq_true rfl, Nat.le_of_ble_eq_true rfl⟩).run (fun r_ e_ => ?_)
    subst e_
    refine lv_aload_n hx hb d_Keys_cover_24 rfl (lv_at hl 0 rfl) ?_
    refine sp_g_Keys (v := .int (σ.1 K 5)) hx hb ht hown hK hP iK 5 (by decide) (ht _ xw110) (fun _ h_ => h_) rfl d_Keys_cover_25 ?_
    refine lv_i2l (v := (σ.1 K 5).toInt64) hx hb d_Keys_cover_28 (by rfl) ?_
    refine vp_callSl (va_runSN (As := [.long (f_mix (f_mix (0 : Int64) (σ.2 K 1)) ((σ.1 K 3).toInt64)), .long ((σ.1 K 5).toInt64)]) (rest := []) ⟨hx, hb, hml, hown, hts⟩ (c_P_mix l (f_mix (f_mix (0 : Int64) (σ.2 K 1)) ((σ.1 K 3).toInt64)) ((σ.1 K 5).toInt64)) ⟨va_cnB 2 hts (xa_g xw391) rfl rfl rfl (hN.at 5 rfl) (ht _ xw1) (by decide +kernel) ⟨Nat.le_of_ble_eq_true rfl, Nat.le_of_ble_eq_true rfl⟩, ht _ xw390, trivial⟩ preEq rfl rfl hl.1 rfl (lv_room (Nat.le_of_ble_eq_true rfl)) d_Keys_cover_29 ⟨Nat.le_of_ble_eq_true rfl, Nat.le_of_ble_eq_true rfl⟩).run (fun r_ e_ => ?_)
    subst e_
    refine lv_lstore_n (lv' := [(2, .long (f_mix (f_mix (f_mix (0 : Int64) (σ.2 K 1)) ((σ.1 K 3).toInt64)) ((σ.1 K 5).toInt64))), (0, .ref (α K)), (1, .ref (α P))]) hx hb d_Keys_cover_32 rfl hl (by decide) rfl (fun ls hl => ?_)
    refine lv_aload_n hx hb d_Keys_cover_33 rfl (lv_at hl 2 rfl) ?_
    refine lv_dup hx hb d_Keys_cover_34 rfl ?_
    refine sp_g_Packet (v := .long (σ.2 P 1)) hx hb ht hown hK hP iP 1 (by decide) (ht _ xw66) (fun _ h_ => h_) rfl d_Keys_cover_35 ?_
    refine lv_lload_n hx hb d_Keys_cover_38 rfl (lv_at hl 0 rfl) ?_
    refine lv_lconst (v := 1) hx hb d_Keys_cover_39 (by decide) ?_
    refine vp_callSl (va_runSN (As := [.long (f_mix (f_mix (f_mix (0 : Int64) (σ.2 K 1)) ((σ.1 K 3).toInt64)) ((σ.1 K 5).toInt64)), .long (1 : Int64)]) (rest := [.long (σ.2 P 1), .ref (α P)]) ⟨hx, hb, hml, hown, hts⟩ (c_P_mix l (f_mix (f_mix (f_mix (0 : Int64) (σ.2 K 1)) ((σ.1 K 3).toInt64)) ((σ.1 K 5).toInt64)) (1 : Int64)) ⟨va_cnB 2 hts (xa_g xw391) rfl rfl rfl (hN.at 5 rfl) (ht _ xw1) (by decide +kernel) ⟨Nat.le_of_ble_eq_true rfl, Nat.le_of_ble_eq_true rfl⟩, ht _ xw390, trivial⟩ preEq rfl rfl hl.1 rfl (lv_room (Nat.le_of_ble_eq_true rfl)) d_Keys_cover_40 ⟨Nat.le_of_ble_eq_true rfl, Nat.le_of_ble_eq_true rfl⟩).run (fun r_ e_ => ?_)
    subst e_
    refine lv_lxor hx hb d_Keys_cover_43 ?_
    refine sp_pl_Packet (x := ((σ.2 P 1) ^^^ (f_mix (f_mix (f_mix (f_mix (0 : Int64) (σ.2 K 1)) ((σ.1 K 3).toInt64)) ((σ.1 K 5).toInt64)) (1 : Int64)))) (ty := .long) hx hb ht hown hK hP iP 1 (by decide) (ht _ xw66) (fun _ h_ => h_) hD hS rfl (by decide +kernel) rfl rfl hf_Packet_1 d_Keys_cover_44 (fun H locs hP hS => ?_)
    refine lv_aload_n hx hb d_Keys_cover_47 rfl (lv_at hl 2 rfl) ?_
    refine lv_dup hx hb d_Keys_cover_48 rfl ?_
    refine sp_g_Packet (v := .long (σ.2 P 2)) hx hb ht hown hK hP iP 2 (by decide) (ht _ xw70) (fun _ h_ => h_) (congrArg (fun z_ => some (Value.long z_)) ((xb_l_nj (by decide)))) d_Keys_cover_49 ?_
    refine lv_lload_n hx hb d_Keys_cover_52 rfl (lv_at hl 0 rfl) ?_
    refine lv_ldc2 hx hb hown (ht _ xw399) d_Keys_cover_53 ?_
    refine vp_callSl (va_runSN (As := [.long (f_mix (f_mix (f_mix (0 : Int64) (σ.2 K 1)) ((σ.1 K 3).toInt64)) ((σ.1 K 5).toInt64)), .long (2 : Int64)]) (rest := [.long (σ.2 P 2), .ref (α P)]) ⟨hx, hb, hml, hown, hts⟩ (c_P_mix l (f_mix (f_mix (f_mix (0 : Int64) (σ.2 K 1)) ((σ.1 K 3).toInt64)) ((σ.1 K 5).toInt64)) (2 : Int64)) ⟨va_cnB 2 hts (xa_g xw391) rfl rfl rfl (hN.at 5 rfl) (ht _ xw1) (by decide +kernel) ⟨Nat.le_of_ble_eq_true rfl, Nat.le_of_ble_eq_true rfl⟩, ht _ xw390, trivial⟩ preEq rfl rfl hl.1 rfl (lv_room (Nat.le_of_ble_eq_true rfl)) d_Keys_cover_56 ⟨Nat.le_of_ble_eq_true rfl, Nat.le_of_ble_eq_true rfl⟩).run (fun r_ e_ => ?_)
    subst e_
    refine lv_lxor hx hb d_Keys_cover_59 ?_
    refine sp_pl_Packet (x := ((σ.2 P 2) ^^^ (f_mix (f_mix (f_mix (f_mix (0 : Int64) (σ.2 K 1)) ((σ.1 K 3).toInt64)) ((σ.1 K 5).toInt64)) (2 : Int64)))) (ty := .long) hx hb ht hown hK hP iP 2 (by decide) (ht _ xw70) (fun _ h_ => h_) hD hS rfl (by decide +kernel) rfl rfl hf_Packet_2 d_Keys_cover_60 (fun H locs hP hS => ?_)
    refine lv_aload_n hx hb d_Keys_cover_63 rfl (lv_at hl 2 rfl) ?_
    refine lv_dup hx hb d_Keys_cover_64 rfl ?_
    refine sp_g_Packet (v := .long (σ.2 P 3)) hx hb ht hown hK hP iP 3 (by decide) (ht _ xw73) (fun _ h_ => h_) (congrArg (fun z_ => some (Value.long z_)) (((xb_l_nj (by decide))).trans ((xb_l_nj (by decide))))) d_Keys_cover_65 ?_
    refine lv_lload_n hx hb d_Keys_cover_68 rfl (lv_at hl 0 rfl) ?_
    refine lv_ldc2 hx hb hown (ht _ xw400) d_Keys_cover_69 ?_
    refine vp_callSl (va_runSN (As := [.long (f_mix (f_mix (f_mix (0 : Int64) (σ.2 K 1)) ((σ.1 K 3).toInt64)) ((σ.1 K 5).toInt64)), .long (3 : Int64)]) (rest := [.long (σ.2 P 3), .ref (α P)]) ⟨hx, hb, hml, hown, hts⟩ (c_P_mix l (f_mix (f_mix (f_mix (0 : Int64) (σ.2 K 1)) ((σ.1 K 3).toInt64)) ((σ.1 K 5).toInt64)) (3 : Int64)) ⟨va_cnB 2 hts (xa_g xw391) rfl rfl rfl (hN.at 5 rfl) (ht _ xw1) (by decide +kernel) ⟨Nat.le_of_ble_eq_true rfl, Nat.le_of_ble_eq_true rfl⟩, ht _ xw390, trivial⟩ preEq rfl rfl hl.1 rfl (lv_room (Nat.le_of_ble_eq_true rfl)) d_Keys_cover_72 ⟨Nat.le_of_ble_eq_true rfl, Nat.le_of_ble_eq_true rfl⟩).run (fun r_ e_ => ?_)
    subst e_
    refine lv_lxor hx hb d_Keys_cover_75 ?_
    refine sp_pl_Packet (x := ((σ.2 P 3) ^^^ (f_mix (f_mix (f_mix (f_mix (0 : Int64) (σ.2 K 1)) ((σ.1 K 3).toInt64)) ((σ.1 K 5).toInt64)) (3 : Int64)))) (ty := .long) hx hb ht hown hK hP iP 3 (by decide) (ht _ xw73) (fun _ h_ => h_) hD hS rfl (by decide +kernel) rfl rfl hf_Packet_3 d_Keys_cover_76 (fun H locs hP hS => ?_)
    refine lv_aload_n hx hb d_Keys_cover_79 rfl (lv_at hl 2 rfl) ?_
    refine lv_dup hx hb d_Keys_cover_80 rfl ?_
    refine sp_g_Packet (v := .long (σ.2 P 4)) hx hb ht hown hK hP iP 4 (by decide) (ht _ xw77) (fun _ h_ => h_) (congrArg (fun z_ => some (Value.long z_)) (((xb_l_nj (by decide))).trans (((xb_l_nj (by decide))).trans ((xb_l_nj (by decide)))))) d_Keys_cover_81 ?_
    refine lv_lload_n hx hb d_Keys_cover_84 rfl (lv_at hl 0 rfl) ?_
    refine lv_ldc2 hx hb hown (ht _ xw401) d_Keys_cover_85 ?_
    refine vp_callSl (va_runSN (As := [.long (f_mix (f_mix (f_mix (0 : Int64) (σ.2 K 1)) ((σ.1 K 3).toInt64)) ((σ.1 K 5).toInt64)), .long (4 : Int64)]) (rest := [.long (σ.2 P 4), .ref (α P)]) ⟨hx, hb, hml, hown, hts⟩ (c_P_mix l (f_mix (f_mix (f_mix (0 : Int64) (σ.2 K 1)) ((σ.1 K 3).toInt64)) ((σ.1 K 5).toInt64)) (4 : Int64)) ⟨va_cnB 2 hts (xa_g xw391) rfl rfl rfl (hN.at 5 rfl) (ht _ xw1) (by decide +kernel) ⟨Nat.le_of_ble_eq_true rfl, Nat.le_of_ble_eq_true rfl⟩, ht _ xw390, trivial⟩ preEq rfl rfl hl.1 rfl (lv_room (Nat.le_of_ble_eq_true rfl)) d_Keys_cover_88 ⟨Nat.le_of_ble_eq_true rfl, Nat.le_of_ble_eq_true rfl⟩).run (fun r_ e_ => ?_)
    subst e_
    refine lv_lxor hx hb d_Keys_cover_91 ?_
    refine sp_pl_Packet (x := ((σ.2 P 4) ^^^ (f_mix (f_mix (f_mix (f_mix (0 : Int64) (σ.2 K 1)) ((σ.1 K 3).toInt64)) ((σ.1 K 5).toInt64)) (4 : Int64)))) (ty := .long) hx hb ht hown hK hP iP 4 (by decide) (ht _ xw77) (fun _ h_ => h_) hD hS rfl (by decide +kernel) rfl rfl hf_Packet_4 d_Keys_cover_92 (fun H locs hP hS => ?_)
    exact W.vret hx hb hr (fun t ht_ hW => ⟨⟨(xb_sl (xb_sl (xb_sl (xb_sl σ P 1 ((σ.2 P 1) ^^^ (f_mix (f_mix (f_mix (f_mix (0 : Int64) (σ.2 K 1)) ((σ.1 K 3).toInt64)) ((σ.1 K 5).toInt64)) (1 : Int64)))) P 2 ((σ.2 P 2) ^^^ (f_mix (f_mix (f_mix (f_mix (0 : Int64) (σ.2 K 1)) ((σ.1 K 3).toInt64)) ((σ.1 K 5).toInt64)) (2 : Int64)))) P 3 ((σ.2 P 3) ^^^ (f_mix (f_mix (f_mix (f_mix (0 : Int64) (σ.2 K 1)) ((σ.1 K 3).toInt64)) ((σ.1 K 5).toInt64)) (3 : Int64)))) P 4 ((σ.2 P 4) ^^^ (f_mix (f_mix (f_mix (f_mix (0 : Int64) (σ.2 K 1)) ((σ.1 K 3).toInt64)) ((σ.1 K 5).toInt64)) (4 : Int64)))), rfl, ((if_neg c1)).symm, by rw [sp_B, ht_]; exact hP⟩, hS.F ht_⟩) hS.2.2 d_Keys_cover_95
  · skip
    exact W.vret hx hb hr (fun t ht_ hW => ⟨⟨σ, rfl, ((if_pos c1)).symm, by rw [sp_B, ht_]; exact hP⟩, hS.F ht_⟩) hS.2.2 d_Keys_cover_7
theorem ok_p_Keys_cover {σ : xb_St} (K : Nat) (P : Nat) (iK : sp_isKeys K) (iP : sp_isPacket P) (ok : sp_ok σ) : sp_ok (p_Keys_cover K P σ) := by
  unfold p_Keys_cover
  by_cases c1 : (σ.1 K 0) = 0
  · rw [if_pos c1]
    exact ok
  · rw [if_neg c1]
    exact (ok_sl (ok_sl (ok_sl (ok_sl ok))))
abbrev b_Keys_passes : ByteArray := prog_7_method_3_code
def y_Keys_passes : MethodName := ⟨"SecurePair$Keys", "passes", "(LSecurePair$Packet;)Z"⟩
abbrev w_Keys_passes : List Cond := .code y_Keys_passes b_Keys_passes 2 (some .boolean) :: xa
theorem d_Keys_passes_0 : decode b_Keys_passes 0 = .ok (.aload_n 0, 1) := by decide +kernel
theorem d_Keys_passes_1 : decode b_Keys_passes 1 = .ok (.getfield 39, 3) := by decide +kernel
theorem d_Keys_passes_4 : decode b_Keys_passes 4 = .ok (.ifCond .eq 16, 3) := by decide +kernel
theorem d_Keys_passes_7 : decode b_Keys_passes 7 = .ok (.aload_n 0, 1) := by decide +kernel
theorem d_Keys_passes_8 : decode b_Keys_passes 8 = .ok (.aload_n 1, 1) := by decide +kernel
theorem d_Keys_passes_9 : decode b_Keys_passes 9 = .ok (.invokevirtual 46, 3) := by decide +kernel
theorem d_Keys_passes_12 : decode b_Keys_passes 12 = .ok (.aload_n 1, 1) := by decide +kernel
theorem d_Keys_passes_13 : decode b_Keys_passes 13 = .ok (.getfield 50, 3) := by decide +kernel
theorem d_Keys_passes_16 : decode b_Keys_passes 16 = .ok (.lcmp, 1) := by decide +kernel
theorem d_Keys_passes_17 : decode b_Keys_passes 17 = .ok (.ifCond .ne 7, 3) := by decide +kernel
theorem d_Keys_passes_20 : decode b_Keys_passes 20 = .ok (.iconst 1, 1) := by decide +kernel
theorem d_Keys_passes_21 : decode b_Keys_passes 21 = .ok (.goto 4, 3) := by decide +kernel
theorem d_Keys_passes_24 : decode b_Keys_passes 24 = .ok (.iconst 0, 1) := by decide +kernel
theorem d_Keys_passes_25 : decode b_Keys_passes 25 = .ok (.ireturn, 1) := by decide +kernel
theorem xw6 : (Cond.initialized "SecurePair$Keys") ∈ xa := xa_t 6 (by decide +kernel) (by decide +kernel)
theorem xw81 : (Cond.fieldLink "SecurePair$Keys" (50 : Nat) "SecurePair$Packet" "tag" "J") ∈ xa := xa_t 81 (by decide +kernel) (by decide +kernel)
theorem xw386 : (Cond.instanceMethod ({ cls := "SecurePair$Keys", name := "tagOf", desc := "(LSecurePair$Packet;)J" } : MethodName)) ∈ xa := xa_t 386 (by decide +kernel) (by decide +kernel)
theorem xw387 : (Cond.selects "SecurePair$Keys" ({ cls := "SecurePair$Keys", name := "tagOf", desc := "(LSecurePair$Packet;)J" } : MethodName) ({ cls := "SecurePair$Keys", name := "tagOf", desc := "(LSecurePair$Packet;)J" } : MethodName)) ∈ xa := xa_t 387 (by decide +kernel) (by decide +kernel)
theorem xw388 : (Cond.code ({ cls := "SecurePair$Keys", name := "tagOf", desc := "(LSecurePair$Packet;)J" } : MethodName) prog_7_method_4_code (4 : Nat) (Option.some ClassFile.FieldType.long)) ∈ xa := xa_t 388 (by decide +kernel) (by decide +kernel)
theorem xw642 : (Cond.methodLink "SecurePair$Keys" (46 : Nat) ({ cls := "SecurePair$Keys", name := "tagOf", desc := "(LSecurePair$Packet;)J" } : MethodName)) ∈ xa := xa_t 642 (by decide +kernel) (by decide +kernel)
def p_Keys_passes (K : Nat) (P : Nat) (σ : xb_St) : Int32 := (if (σ.1 K 0) = 0 then (1 : Int32) else (if (p_Keys_tagOf K P σ) = (σ.2 P 5) then (1 : Int32) else (0 : Int32)))
set_option maxHeartbeats 4000000 in
set_option maxRecDepth 100000 in
theorem c_Keys_passes (l : Launch) (D : va_G) (α : Nat → Nat) (κ : Nat → ClassId) (hα : xb_inj α 35) (σ : xb_St) (K : Nat) (P : Nat) (iK : sp_isKeys K) (iP : sp_isPacket P) : Met l y_Keys_passes w_Keys_passes ({ frames := 2, cells := 0, slots := 0, locals := 48 }) (va_Pc ([.ref (α K), .ref (α P)]) (sp_Pre D α κ σ)) (va_Qi (fun r (u : xb_St) => r = p_Keys_passes K P σ ∧ u = σ) (sp_B D α κ) (xb_A α 35)) 0 0 (xb_A α 35) := by
  refine Met.ofW (cc := b_Keys_passes) (maxL := 2) (ret := (some .boolean)) (by decide) rfl ?_
  intro p e s m args below meth c s₁ B_ hml hv
  obtain ⟨rfl, hP, hK, hN⟩ := hv
  have hx := B_.exec
  have hb := B_.bytes
  have hr := B_.returns
  have hts := atoms_spec (ws := w_Keys_passes) B_.pre
  have ht : ∀ w ∈ xa, w.before _ s = true := fun w h => hts w (List.mem_cons_of_mem _ h)
  have hown : s.vm.findClass "SecurePair$Keys" = some m.cls := findClass_of_methodNamed B_.named
  have hlocks := B_.notSynchronized
  have hD := sp_D hα κ
  have hS : va_S (xb_A α 35) s.heap s.heap [] := va_S.rf
  have hl := lv_entry ([.ref (α K), .ref (α P)]) (n := 2) (Nat.le_of_ble_eq_true rfl)
  rw [lg_entry_eq]
  generalize (lg_sl ([.ref (α K), .ref (α P)]) ++ List.replicate (2 - (lg_sl ([.ref (α K), .ref (α P)])).length) Slot.unset).toArray = ls at hl ⊢
  have hl : lv_has ls 2 [(0, .ref (α K)), (1, .ref (α P))] := hl
  refine lv_aload_n hx hb d_Keys_passes_0 rfl (lv_at hl 0 rfl) ?_
  refine sp_g_Keys (v := .int (σ.1 K 0)) hx hb ht hown hK hP iK 0 (by decide) (ht _ xw102) (fun _ h_ => h_) rfl d_Keys_passes_1 ?_
  refine lv_if_eq (tgt := 20) hx hb d_Keys_passes_4 (by decide) (fun c1 => ?_) (fun c1 => ?_)
  · skip
    refine lv_iconst (v := 1) hx hb d_Keys_passes_20 (by decide) ?_
    refine lv_goto (tgt := 25) hx hb d_Keys_passes_21 (by decide) ?_
    exact W.zret (v := (1 : Int32)) hx hb hr rfl (fun t ht_ hW => ⟨⟨(1 : Int32), σ, rfl, ⟨((if_pos c1)).symm, rfl⟩, by rw [sp_B, ht_]; exact hP⟩, hS.F ht_⟩) hS.2.2 d_Keys_passes_25
  · skip
    refine lv_aload_n hx hb d_Keys_passes_7 rfl (lv_at hl 0 rfl) ?_
    refine lv_aload_n hx hb d_Keys_passes_8 rfl (lv_at hl 1 rfl) ?_
    refine sp_cl (va_runV (As := [.ref (α P)]) (rest := []) ⟨hx, hb, hml, hown, hts⟩ (c_Keys_tagOf l D α κ hα σ K P iK iP) (cwV 1 hts (xa_V xw642 xw386 xw387 xw6 xw388) rfl rfl rfl (by decide +kernel) ⟨Nat.le_of_ble_eq_true rfl, Nat.le_of_ble_eq_true rfl⟩) ⟨sp_blind, va_recv hK hP rfl (sp_at_Keys iK), sp_pre hP hK hN _⟩ rfl rfl hl.1 rfl (lv_room (Nat.le_of_ble_eq_true rfl)) d_Keys_passes_9 ⟨Nat.le_of_ble_eq_true rfl, Nat.le_of_ble_eq_true rfl⟩) hS (fun _ h_ => h_) (fun H locs hP hS => ?_)
    refine lv_aload_n hx hb d_Keys_passes_12 rfl (lv_at hl 1 rfl) ?_
    refine sp_g_Packet (v := .long (σ.2 P 5)) hx hb ht hown hK hP iP 5 (by decide) (ht _ xw81) (fun _ h_ => h_) rfl d_Keys_passes_13 ?_
    refine xb_lne (tgt := 24) hx hb d_Keys_passes_16 d_Keys_passes_17 (by decide) (fun c2 => ?_) (fun c2 => ?_)
    · skip
      refine lv_iconst (v := 0) hx hb d_Keys_passes_24 (by decide) ?_
      exact W.zret (v := (0 : Int32)) hx hb hr rfl (fun t ht_ hW => ⟨⟨(0 : Int32), σ, rfl, ⟨((if_neg c1).trans ((if_neg c2))).symm, rfl⟩, by rw [sp_B, ht_]; exact hP⟩, hS.F ht_⟩) hS.2.2 d_Keys_passes_25
    · skip
      refine lv_iconst (v := 1) hx hb d_Keys_passes_20 (by decide) ?_
      refine lv_goto (tgt := 25) hx hb d_Keys_passes_21 (by decide) ?_
      exact W.zret (v := (1 : Int32)) hx hb hr rfl (fun t ht_ hW => ⟨⟨(1 : Int32), σ, rfl, ⟨((if_neg c1).trans ((if_pos c2))).symm, rfl⟩, by rw [sp_B, ht_]; exact hP⟩, hS.F ht_⟩) hS.2.2 d_Keys_passes_25
abbrev b_Keys_renew : ByteArray := prog_7_method_2_code
def y_Keys_renew : MethodName := ⟨"SecurePair$Keys", "renew", "(LSecurePair$Exchange;JI)V"⟩
abbrev w_Keys_renew : List Cond := .code y_Keys_renew b_Keys_renew 7 none :: xa
theorem d_Keys_renew_0 : decode b_Keys_renew 0 = .ok (.lconst 0, 1) := by decide +kernel
theorem d_Keys_renew_1 : decode b_Keys_renew 1 = .ok (.aload_n 1, 1) := by decide +kernel
theorem d_Keys_renew_2 : decode b_Keys_renew 2 = .ok (.getfield 7, 3) := by decide +kernel
theorem d_Keys_renew_5 : decode b_Keys_renew 5 = .ok (.invokestatic 13, 3) := by decide +kernel
theorem d_Keys_renew_8 : decode b_Keys_renew 8 = .ok (.aload_n 1, 1) := by decide +kernel
theorem d_Keys_renew_9 : decode b_Keys_renew 9 = .ok (.getfield 19, 3) := by decide +kernel
theorem d_Keys_renew_12 : decode b_Keys_renew 12 = .ok (.invokestatic 13, 3) := by decide +kernel
theorem d_Keys_renew_15 : decode b_Keys_renew 15 = .ok (.lstore 5, 2) := by decide +kernel
theorem d_Keys_renew_17 : decode b_Keys_renew 17 = .ok (.aload_n 0, 1) := by decide +kernel
theorem d_Keys_renew_18 : decode b_Keys_renew 18 = .ok (.lload 5, 2) := by decide +kernel
theorem d_Keys_renew_20 : decode b_Keys_renew 20 = .ok (.iload 4, 2) := by decide +kernel
theorem d_Keys_renew_22 : decode b_Keys_renew 22 = .ok (.i2l, 1) := by decide +kernel
theorem d_Keys_renew_23 : decode b_Keys_renew 23 = .ok (.invokestatic 13, 3) := by decide +kernel
theorem d_Keys_renew_26 : decode b_Keys_renew 26 = .ok (.lload_n 2, 1) := by decide +kernel
theorem d_Keys_renew_27 : decode b_Keys_renew 27 = .ok (.invokestatic 13, 3) := by decide +kernel
theorem d_Keys_renew_30 : decode b_Keys_renew 30 = .ok (.putfield 22, 3) := by decide +kernel
theorem d_Keys_renew_33 : decode b_Keys_renew 33 = .ok (.aload_n 0, 1) := by decide +kernel
theorem d_Keys_renew_34 : decode b_Keys_renew 34 = .ok (.lload 5, 2) := by decide +kernel
theorem d_Keys_renew_36 : decode b_Keys_renew 36 = .ok (.iload 4, 2) := by decide +kernel
theorem d_Keys_renew_38 : decode b_Keys_renew 38 = .ok (.iconst 2, 1) := by decide +kernel
theorem d_Keys_renew_39 : decode b_Keys_renew 39 = .ok (.iadd, 1) := by decide +kernel
theorem d_Keys_renew_40 : decode b_Keys_renew 40 = .ok (.i2l, 1) := by decide +kernel
theorem d_Keys_renew_41 : decode b_Keys_renew 41 = .ok (.invokestatic 13, 3) := by decide +kernel
theorem d_Keys_renew_44 : decode b_Keys_renew 44 = .ok (.lload_n 2, 1) := by decide +kernel
theorem d_Keys_renew_45 : decode b_Keys_renew 45 = .ok (.invokestatic 13, 3) := by decide +kernel
theorem d_Keys_renew_48 : decode b_Keys_renew 48 = .ok (.putfield 27, 3) := by decide +kernel
theorem d_Keys_renew_51 : decode b_Keys_renew 51 = .ok (.aload_n 0, 1) := by decide +kernel
theorem d_Keys_renew_52 : decode b_Keys_renew 52 = .ok (.aload_n 1, 1) := by decide +kernel
theorem d_Keys_renew_53 : decode b_Keys_renew 53 = .ok (.getfield 30, 3) := by decide +kernel
theorem d_Keys_renew_56 : decode b_Keys_renew 56 = .ok (.putfield 34, 3) := by decide +kernel
theorem d_Keys_renew_59 : decode b_Keys_renew 59 = .ok (.aload_n 0, 1) := by decide +kernel
theorem d_Keys_renew_60 : decode b_Keys_renew 60 = .ok (.aload_n 1, 1) := by decide +kernel
theorem d_Keys_renew_61 : decode b_Keys_renew 61 = .ok (.getfield 35, 3) := by decide +kernel
theorem d_Keys_renew_64 : decode b_Keys_renew 64 = .ok (.putfield 38, 3) := by decide +kernel
theorem d_Keys_renew_67 : decode b_Keys_renew 67 = .ok (.aload_n 0, 1) := by decide +kernel
theorem d_Keys_renew_68 : decode b_Keys_renew 68 = .ok (.iconst 1, 1) := by decide +kernel
theorem d_Keys_renew_69 : decode b_Keys_renew 69 = .ok (.putfield 39, 3) := by decide +kernel
theorem d_Keys_renew_72 : decode b_Keys_renew 72 = .ok (.aload_n 0, 1) := by decide +kernel
theorem d_Keys_renew_73 : decode b_Keys_renew 73 = .ok (.iconst 0, 1) := by decide +kernel
theorem d_Keys_renew_74 : decode b_Keys_renew 74 = .ok (.putfield 43, 3) := by decide +kernel
theorem d_Keys_renew_77 : decode b_Keys_renew 77 = .ok (.return_, 1) := by decide +kernel
theorem xw158 : (Cond.fieldLink "SecurePair$Keys" (30 : Nat) "SecurePair$Exchange" "cipher" "I") ∈ xa := xa_t 158 (by decide +kernel) (by decide +kernel)
theorem xw160 : (Cond.fieldLink "SecurePair$Keys" (35 : Nat) "SecurePair$Exchange" "tagKind" "I") ∈ xa := xa_t 160 (by decide +kernel) (by decide +kernel)
theorem xw161 : (Cond.fieldLink "SecurePair$Keys" (7 : Nat) "SecurePair$Exchange" "common" "J") ∈ xa := xa_t 161 (by decide +kernel) (by decide +kernel)
theorem xw163 : (Cond.fieldLink "SecurePair$Keys" (19 : Nat) "SecurePair$Exchange" "hash" "J") ∈ xa := xa_t 163 (by decide +kernel) (by decide +kernel)
def p_Keys_renew (K : Nat) (X : Nat) (x2 : Int64) (x3 : Int32) (σ : xb_St) : xb_St := (xb_si (xb_si (xb_si (xb_si (xb_sl (xb_sl σ K 1 (f_mix (f_mix (f_mix (f_mix (0 : Int64) (σ.2 X 5)) (σ.2 X 6)) x3.toInt64) x2)) K 2 (f_mix (f_mix (f_mix (f_mix (0 : Int64) (σ.2 X 5)) (σ.2 X 6)) ((x3 + (2 : Int32)).toInt64)) x2)) K 3 (σ.1 X 3)) K 4 (σ.1 X 4)) K 0 (1 : Int32)) K 5 (0 : Int32))
set_option maxHeartbeats 4000000 in
set_option maxRecDepth 100000 in
theorem c_Keys_renew (l : Launch) (D : va_G) (α : Nat → Nat) (κ : Nat → ClassId) (hα : xb_inj α 35) (σ : xb_St) (K : Nat) (X : Nat) (x2 : Int64) (x3 : Int32) (iK : sp_isKeys K) (iX : sp_isExchange X) : Met l y_Keys_renew w_Keys_renew ({ frames := 1, cells := 0, slots := 0, locals := 25 }) (va_Pc ([.ref (α K), .ref (α X), .long x2, .int x3]) (sp_Pre D α κ σ)) (va_Qv (fun u : xb_St => u = p_Keys_renew K X x2 x3 σ) (sp_B D α κ) (xb_A α 35)) 0 0 (xb_A α 35) := by
  refine Met.ofW (cc := b_Keys_renew) (maxL := 7) (ret := none) (by decide) rfl ?_
  intro p e s m args below meth c s₁ B_ hml hv
  obtain ⟨rfl, hP, hK, hN⟩ := hv
  have hx := B_.exec
  have hb := B_.bytes
  have hr := B_.returns
  have hts := atoms_spec (ws := w_Keys_renew) B_.pre
  have ht : ∀ w ∈ xa, w.before _ s = true := fun w h => hts w (List.mem_cons_of_mem _ h)
  have hown : s.vm.findClass "SecurePair$Keys" = some m.cls := findClass_of_methodNamed B_.named
  have hlocks := B_.notSynchronized
  have hD := sp_D hα κ
  have hS : va_S (xb_A α 35) s.heap s.heap [] := va_S.rf
  have hl := lv_entry ([.ref (α K), .ref (α X), .long x2, .int x3]) (n := 7) (Nat.le_of_ble_eq_true rfl)
  rw [lg_entry_eq]
  generalize (lg_sl ([.ref (α K), .ref (α X), .long x2, .int x3]) ++ List.replicate (7 - (lg_sl ([.ref (α K), .ref (α X), .long x2, .int x3])).length) Slot.unset).toArray = ls at hl ⊢
  have hl : lv_has ls 7 [(0, .ref (α K)), (1, .ref (α X)), (2, .long x2), (4, .int x3)] := hl
  refine lv_lconst (v := 0) hx hb d_Keys_renew_0 (by decide) ?_
  refine lv_aload_n hx hb d_Keys_renew_1 rfl (lv_at hl 1 rfl) ?_
  refine sp_g_Exchange (v := .long (σ.2 X 5)) hx hb ht hown hK hP iX 5 (by decide) (ht _ xw161) (fun _ h_ => h_) rfl d_Keys_renew_2 ?_
  refine vp_callSl (va_runSN (As := [.long (0 : Int64), .long (σ.2 X 5)]) (rest := []) ⟨hx, hb, hml, hown, hts⟩ (c_P_mix l (0 : Int64) (σ.2 X 5)) ⟨va_cnB 2 hts (xa_g xw391) rfl rfl rfl (hN.at 5 rfl) (ht _ xw1) (by decide +kernel) ⟨Nat.le_of_ble_eq_true rfl, Nat.le_of_ble_eq_true rfl⟩, ht _ xw390, trivial⟩ preEq rfl rfl hl.1 rfl (lv_room (Nat.le_of_ble_eq_true rfl)) d_Keys_renew_5 ⟨Nat.le_of_ble_eq_true rfl, Nat.le_of_ble_eq_true rfl⟩).run (fun r_ e_ => ?_)
  subst e_
  refine lv_aload_n hx hb d_Keys_renew_8 rfl (lv_at hl 1 rfl) ?_
  refine sp_g_Exchange (v := .long (σ.2 X 6)) hx hb ht hown hK hP iX 6 (by decide) (ht _ xw163) (fun _ h_ => h_) rfl d_Keys_renew_9 ?_
  refine vp_callSl (va_runSN (As := [.long (f_mix (0 : Int64) (σ.2 X 5)), .long (σ.2 X 6)]) (rest := []) ⟨hx, hb, hml, hown, hts⟩ (c_P_mix l (f_mix (0 : Int64) (σ.2 X 5)) (σ.2 X 6)) ⟨va_cnB 2 hts (xa_g xw391) rfl rfl rfl (hN.at 5 rfl) (ht _ xw1) (by decide +kernel) ⟨Nat.le_of_ble_eq_true rfl, Nat.le_of_ble_eq_true rfl⟩, ht _ xw390, trivial⟩ preEq rfl rfl hl.1 rfl (lv_room (Nat.le_of_ble_eq_true rfl)) d_Keys_renew_12 ⟨Nat.le_of_ble_eq_true rfl, Nat.le_of_ble_eq_true rfl⟩).run (fun r_ e_ => ?_)
  subst e_
  refine lv_lstore (lv' := [(5, .long (f_mix (f_mix (0 : Int64) (σ.2 X 5)) (σ.2 X 6))), (0, .ref (α K)), (1, .ref (α X)), (2, .long x2), (4, .int x3)]) hx hb d_Keys_renew_15 hl (by decide) rfl (fun ls hl => ?_)
  refine lv_aload_n hx hb d_Keys_renew_17 rfl (lv_at hl 1 rfl) ?_
  refine lv_lload hx hb d_Keys_renew_18 (lv_at hl 0 rfl) ?_
  refine lv_iload hx hb d_Keys_renew_20 (lv_at hl 4 rfl) ?_
  refine lv_i2l (v := x3.toInt64) hx hb d_Keys_renew_22 (by rfl) ?_
  refine vp_callSl (va_runSN (As := [.long (f_mix (f_mix (0 : Int64) (σ.2 X 5)) (σ.2 X 6)), .long x3.toInt64]) (rest := [.ref (α K)]) ⟨hx, hb, hml, hown, hts⟩ (c_P_mix l (f_mix (f_mix (0 : Int64) (σ.2 X 5)) (σ.2 X 6)) x3.toInt64) ⟨va_cnB 2 hts (xa_g xw391) rfl rfl rfl (hN.at 5 rfl) (ht _ xw1) (by decide +kernel) ⟨Nat.le_of_ble_eq_true rfl, Nat.le_of_ble_eq_true rfl⟩, ht _ xw390, trivial⟩ preEq rfl rfl hl.1 rfl (lv_room (Nat.le_of_ble_eq_true rfl)) d_Keys_renew_23 ⟨Nat.le_of_ble_eq_true rfl, Nat.le_of_ble_eq_true rfl⟩).run (fun r_ e_ => ?_)
  subst e_
  refine lv_lload_n hx hb d_Keys_renew_26 rfl (lv_at hl 3 rfl) ?_
  refine vp_callSl (va_runSN (As := [.long (f_mix (f_mix (f_mix (0 : Int64) (σ.2 X 5)) (σ.2 X 6)) x3.toInt64), .long x2]) (rest := [.ref (α K)]) ⟨hx, hb, hml, hown, hts⟩ (c_P_mix l (f_mix (f_mix (f_mix (0 : Int64) (σ.2 X 5)) (σ.2 X 6)) x3.toInt64) x2) ⟨va_cnB 2 hts (xa_g xw391) rfl rfl rfl (hN.at 5 rfl) (ht _ xw1) (by decide +kernel) ⟨Nat.le_of_ble_eq_true rfl, Nat.le_of_ble_eq_true rfl⟩, ht _ xw390, trivial⟩ preEq rfl rfl hl.1 rfl (lv_room (Nat.le_of_ble_eq_true rfl)) d_Keys_renew_27 ⟨Nat.le_of_ble_eq_true rfl, Nat.le_of_ble_eq_true rfl⟩).run (fun r_ e_ => ?_)
  subst e_
  refine sp_pl_Keys (x := (f_mix (f_mix (f_mix (f_mix (0 : Int64) (σ.2 X 5)) (σ.2 X 6)) x3.toInt64) x2)) (ty := .long) hx hb ht hown hK hP iK 1 (by decide) (ht _ xw104) (fun _ h_ => h_) hD hS rfl (by decide +kernel) rfl rfl hf_Keys_1 d_Keys_renew_30 (fun H locs hP hS => ?_)
  refine lv_aload_n hx hb d_Keys_renew_33 rfl (lv_at hl 1 rfl) ?_
  refine lv_lload hx hb d_Keys_renew_34 (lv_at hl 0 rfl) ?_
  refine lv_iload hx hb d_Keys_renew_36 (lv_at hl 4 rfl) ?_
  refine lv_iconst (v := 2) hx hb d_Keys_renew_38 (by decide) ?_
  refine lv_iadd hx hb d_Keys_renew_39 ?_
  refine lv_i2l (v := (x3 + (2 : Int32)).toInt64) hx hb d_Keys_renew_40 (by rfl) ?_
  refine vp_callSl (va_runSN (As := [.long (f_mix (f_mix (0 : Int64) (σ.2 X 5)) (σ.2 X 6)), .long ((x3 + (2 : Int32)).toInt64)]) (rest := [.ref (α K)]) ⟨hx, hb, hml, hown, hts⟩ (c_P_mix l (f_mix (f_mix (0 : Int64) (σ.2 X 5)) (σ.2 X 6)) ((x3 + (2 : Int32)).toInt64)) ⟨va_cnB 2 hts (xa_g xw391) rfl rfl rfl (hN.at 5 rfl) (ht _ xw1) (by decide +kernel) ⟨Nat.le_of_ble_eq_true rfl, Nat.le_of_ble_eq_true rfl⟩, ht _ xw390, trivial⟩ preEq rfl rfl hl.1 rfl (lv_room (Nat.le_of_ble_eq_true rfl)) d_Keys_renew_41 ⟨Nat.le_of_ble_eq_true rfl, Nat.le_of_ble_eq_true rfl⟩).run (fun r_ e_ => ?_)
  subst e_
  refine lv_lload_n hx hb d_Keys_renew_44 rfl (lv_at hl 3 rfl) ?_
  refine vp_callSl (va_runSN (As := [.long (f_mix (f_mix (f_mix (0 : Int64) (σ.2 X 5)) (σ.2 X 6)) ((x3 + (2 : Int32)).toInt64)), .long x2]) (rest := [.ref (α K)]) ⟨hx, hb, hml, hown, hts⟩ (c_P_mix l (f_mix (f_mix (f_mix (0 : Int64) (σ.2 X 5)) (σ.2 X 6)) ((x3 + (2 : Int32)).toInt64)) x2) ⟨va_cnB 2 hts (xa_g xw391) rfl rfl rfl (hN.at 5 rfl) (ht _ xw1) (by decide +kernel) ⟨Nat.le_of_ble_eq_true rfl, Nat.le_of_ble_eq_true rfl⟩, ht _ xw390, trivial⟩ preEq rfl rfl hl.1 rfl (lv_room (Nat.le_of_ble_eq_true rfl)) d_Keys_renew_45 ⟨Nat.le_of_ble_eq_true rfl, Nat.le_of_ble_eq_true rfl⟩).run (fun r_ e_ => ?_)
  subst e_
  refine sp_pl_Keys (x := (f_mix (f_mix (f_mix (f_mix (0 : Int64) (σ.2 X 5)) (σ.2 X 6)) ((x3 + (2 : Int32)).toInt64)) x2)) (ty := .long) hx hb ht hown hK hP iK 2 (by decide) (ht _ xw105) (fun _ h_ => h_) hD hS rfl (by decide +kernel) rfl rfl hf_Keys_2 d_Keys_renew_48 (fun H locs hP hS => ?_)
  refine lv_aload_n hx hb d_Keys_renew_51 rfl (lv_at hl 1 rfl) ?_
  refine lv_aload_n hx hb d_Keys_renew_52 rfl (lv_at hl 2 rfl) ?_
  refine sp_g_Exchange (v := .int (σ.1 X 3)) hx hb ht hown hK hP iX 3 (by decide) (ht _ xw158) (fun _ h_ => h_) (congrArg (fun z_ => some (Value.int z_)) ((xb_i_l).trans (xb_i_l))) d_Keys_renew_53 ?_
  refine sp_pi_Keys (x := (σ.1 X 3)) (ty := .int) hx hb ht hown hK hP iK 3 (by decide) (ht _ xw106) (fun _ h_ => h_) hD hS rfl (by decide +kernel) rfl rfl hf_Keys_3 d_Keys_renew_56 (fun H locs hP hS => ?_)
  refine lv_aload_n hx hb d_Keys_renew_59 rfl (lv_at hl 1 rfl) ?_
  refine lv_aload_n hx hb d_Keys_renew_60 rfl (lv_at hl 2 rfl) ?_
  refine sp_g_Exchange (v := .int (σ.1 X 4)) hx hb ht hown hK hP iX 4 (by decide) (ht _ xw160) (fun _ h_ => h_) (congrArg (fun z_ => some (Value.int z_)) (((xb_i_nk (by omega))).trans ((xb_i_l).trans (xb_i_l)))) d_Keys_renew_61 ?_
  refine sp_pi_Keys (x := (σ.1 X 4)) (ty := .int) hx hb ht hown hK hP iK 4 (by decide) (ht _ xw108) (fun _ h_ => h_) hD hS rfl (by decide +kernel) rfl rfl hf_Keys_4 d_Keys_renew_64 (fun H locs hP hS => ?_)
  refine lv_aload_n hx hb d_Keys_renew_67 rfl (lv_at hl 1 rfl) ?_
  refine lv_iconst (v := 1) hx hb d_Keys_renew_68 (by decide) ?_
  refine sp_pi_Keys (x := (1 : Int32)) (ty := .boolean) hx hb ht hown hK hP iK 0 (by decide) (ht _ xw102) (fun _ h_ => h_) hD hS rfl (by decide +kernel) rfl rfl hf_Keys_0 d_Keys_renew_69 (fun H locs hP hS => ?_)
  refine lv_aload_n hx hb d_Keys_renew_72 rfl (lv_at hl 1 rfl) ?_
  refine lv_iconst (v := 0) hx hb d_Keys_renew_73 (by decide) ?_
  refine sp_pi_Keys (x := (0 : Int32)) (ty := .int) hx hb ht hown hK hP iK 5 (by decide) (ht _ xw110) (fun _ h_ => h_) hD hS rfl (by decide +kernel) rfl rfl hf_Keys_5 d_Keys_renew_74 (fun H locs hP hS => ?_)
  exact W.vret hx hb hr (fun t ht_ hW => ⟨⟨(xb_si (xb_si (xb_si (xb_si (xb_sl (xb_sl σ K 1 (f_mix (f_mix (f_mix (f_mix (0 : Int64) (σ.2 X 5)) (σ.2 X 6)) x3.toInt64) x2)) K 2 (f_mix (f_mix (f_mix (f_mix (0 : Int64) (σ.2 X 5)) (σ.2 X 6)) ((x3 + (2 : Int32)).toInt64)) x2)) K 3 (σ.1 X 3)) K 4 (σ.1 X 4)) K 0 (1 : Int32)) K 5 (0 : Int32)), rfl, rfl, by rw [sp_B, ht_]; exact hP⟩, hS.F ht_⟩) hS.2.2 d_Keys_renew_77
theorem ok_p_Keys_renew {σ : xb_St} (K : Nat) (X : Nat) (x2 : Int64) (x3 : Int32) (iK : sp_isKeys K) (iX : sp_isExchange X) (ok : sp_ok σ) : sp_ok (p_Keys_renew K X x2 x3 σ) := by
  unfold p_Keys_renew
  exact (ok_si (ok_si (ok_si (ok_si (ok_sl (ok_sl ok)) (by omega) (by omega)) (by omega) (by omega)) (by omega) (by omega)) (by omega) (by omega))
