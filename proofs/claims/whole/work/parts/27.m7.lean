abbrev b_M_drop : ByteArray := prog_12_method_17_code
def y_M_drop : MethodName := ⟨"SecurePairModel", "drop", "(I)V"⟩
abbrev w_M_drop : List Cond := .code y_M_drop b_M_drop 3 none :: xa
theorem d_M_drop_0 : decode b_M_drop 0 = .ok (.aload_n 0, 1) := by decide +kernel
theorem d_M_drop_1 : decode b_M_drop 1 = .ok (.getfield 87, 3) := by decide +kernel
theorem d_M_drop_4 : decode b_M_drop 4 = .ok (.iload_n 1, 1) := by decide +kernel
theorem d_M_drop_5 : decode b_M_drop 5 = .ok (.dup2, 1) := by decide +kernel
theorem d_M_drop_6 : decode b_M_drop 6 = .ok (.iaload, 1) := by decide +kernel
theorem d_M_drop_7 : decode b_M_drop 7 = .ok (.iconst 1, 1) := by decide +kernel
theorem d_M_drop_8 : decode b_M_drop 8 = .ok (.isub, 1) := by decide +kernel
theorem d_M_drop_9 : decode b_M_drop 9 = .ok (.iastore, 1) := by decide +kernel
theorem d_M_drop_10 : decode b_M_drop 10 = .ok (.bipush 16, 2) := by decide +kernel
theorem d_M_drop_12 : decode b_M_drop 12 = .ok (.iload_n 1, 1) := by decide +kernel
theorem d_M_drop_13 : decode b_M_drop 13 = .ok (.imul, 1) := by decide +kernel
theorem d_M_drop_14 : decode b_M_drop 14 = .ok (.istore_n 2, 1) := by decide +kernel
theorem d_M_drop_15 : decode b_M_drop 15 = .ok (.iload_n 2, 1) := by decide +kernel
theorem d_M_drop_16 : decode b_M_drop 16 = .ok (.bipush 16, 2) := by decide +kernel
theorem d_M_drop_18 : decode b_M_drop 18 = .ok (.iload_n 1, 1) := by decide +kernel
theorem d_M_drop_19 : decode b_M_drop 19 = .ok (.imul, 1) := by decide +kernel
theorem d_M_drop_20 : decode b_M_drop 20 = .ok (.aload_n 0, 1) := by decide +kernel
theorem d_M_drop_21 : decode b_M_drop 21 = .ok (.getfield 87, 3) := by decide +kernel
theorem d_M_drop_24 : decode b_M_drop 24 = .ok (.iload_n 1, 1) := by decide +kernel
theorem d_M_drop_25 : decode b_M_drop 25 = .ok (.iaload, 1) := by decide +kernel
theorem d_M_drop_26 : decode b_M_drop 26 = .ok (.iadd, 1) := by decide +kernel
theorem d_M_drop_27 : decode b_M_drop 27 = .ok (.if_icmp .ge 17, 3) := by decide +kernel
theorem d_M_drop_30 : decode b_M_drop 30 = .ok (.aload_n 0, 1) := by decide +kernel
theorem d_M_drop_31 : decode b_M_drop 31 = .ok (.iload_n 2, 1) := by decide +kernel
theorem d_M_drop_32 : decode b_M_drop 32 = .ok (.iconst 1, 1) := by decide +kernel
theorem d_M_drop_33 : decode b_M_drop 33 = .ok (.iadd, 1) := by decide +kernel
theorem d_M_drop_34 : decode b_M_drop 34 = .ok (.iload_n 2, 1) := by decide +kernel
theorem d_M_drop_35 : decode b_M_drop 35 = .ok (.invokevirtual 161, 3) := by decide +kernel
theorem d_M_drop_38 : decode b_M_drop 38 = .ok (.iinc 2 1, 3) := by decide +kernel
theorem d_M_drop_41 : decode b_M_drop 41 = .ok (.goto (-26), 3) := by decide +kernel
theorem d_M_drop_44 : decode b_M_drop 44 = .ok (.return_, 1) := by decide +kernel
def f_drop : Nat → Nat → xb_St → xb_St
  | 0, _, σ => σ
  | n + 1, k, σ => f_drop n (k + 1) (q_copy (k + 1) k σ)
def q_drop (e1 : Nat) (σ : xb_St) : xb_St := f_drop ((σ.1 24 e1).toNatClampNeg - 1) (16 * e1) (xb_si σ 24 e1 ((σ.1 24 e1) - (1 : Int32)))
theorem ok_f_drop : ∀ (n k : Nat) (σ : xb_St), k + n < 34 → sm_ok σ → sm_ok (f_drop n k σ) := by
  intro n
  induction n with
  | zero => intro k σ _ ok; exact ok
  | succ n ih => intro k σ hk ok; exact ih (k + 1) _ (by omega) (ok_q_copy (k + 1) k (by omega) (by omega) ok)
theorem ok_q_drop {σ : xb_St} (e1 : Nat) (b_e1 : e1 < 2) (hne : ¬ σ.1 24 e1 = 0) (ok : sm_ok σ) : sm_ok (q_drop e1 σ) := by
  obtain ⟨n0, hn0, en0⟩ := ok.1 e1 b_e1
  have hz := xb_nb en0 (by omega)
  exact ok_f_drop _ _ _ (by omega) (mk_dec ok b_e1 hne)
set_option maxHeartbeats 4000000 in
set_option maxRecDepth 100000 in
theorem c_M_drop (l : Launch) (D : va_G) (α : Nat → Nat) (κ : Nat → ClassId) (hα : xb_inj α 35) (σ : xb_St) (x_e1 : Int32) (e1 : Nat) (e_e1 : x_e1 = nI e1) (b_e1 : e1 < 2) (ok : sm_ok σ) (hne : ¬ σ.1 24 e1 = 0) : Met l y_M_drop w_M_drop ({ frames := 1, cells := 0, slots := 0, locals := 23 }) (va_Pc ([.ref (α 0), .int x_e1]) (sm_Pre D α κ σ)) (va_Qv (fun u : xb_St => u = q_drop e1 σ) (sm_B D α κ) (xb_A α 35)) 0 0 (xb_A α 35) := by
  subst e_e1
  refine Met.ofW (cc := b_M_drop) (maxL := 3) (ret := none) (by decide) rfl ?_
  intro p e s m args below meth c s₁ B_ hml hv
  obtain ⟨rfl, hP, hK, hN⟩ := hv
  have hx := B_.exec
  have hb := B_.bytes
  have hr := B_.returns
  have hts := atoms_spec (ws := w_M_drop) B_.pre
  have ht : ∀ w ∈ xa, w.before _ s = true := fun w h => hts w (List.mem_cons_of_mem _ h)
  have hown : s.vm.findClass "SecurePairModel" = some m.cls := findClass_of_methodNamed B_.named
  have hlocks := B_.notSynchronized
  have hD := sm_D hα κ
  have hS : va_S (xb_A α 35) s.heap s.heap [] := va_S.rf
  obtain ⟨n0, hn0, en0⟩ := ok.1 e1 b_e1
  have hz := xb_nb en0 (by omega)
  have hz0 : (σ.1 24 e1).toNatClampNeg ≤ 16 := by rw [hz.2]; exact hn0
  have hz1 : ¬ (σ.1 24 e1).toNatClampNeg = 0 := mt (xb_eqN hz.1 (xb_lit (x := (0 : Int32)) 0 rfl) (by omega) (by decide)).mpr hne
  have loop : ∀ (m_ : Nat), m_ ≤ 15 → ∀ (n k : Nat) (σ' : xb_St) (ls : Array Slot) (H : Heap) (locs : List Loc), k + n = 16 * e1 + m_ → σ'.1 24 e1 = nI m_ → lv_has ls 3 [(2, .int (nI k)), (0, .ref (α 0)), (1, .int (nI e1))] → va_P D xC (sm_w α κ σ') H → va_S (xb_A α 35) s.heap H locs → f_drop n k σ' = q_drop e1 σ → W p l e (headSpec w_M_drop ({ frames := 1, cells := 0, slots := 0, locals := 23 })).room s m ([.ref (α 0), .int (nI e1)] : List Value).toArray below meth c H locs 0 0 (MQ below (va_Qv (fun u : xb_St => u = q_drop e1 σ) (sm_B D α κ) (xb_A α 35)) ([.ref (α 0), .int (nI e1)] : List Value).toArray s 0 0 (xb_A α 35)) (F0 m 15 ls []) := by
    intro m_ hm_ n
    induction n with
    | zero =>
      intro k σ ls H locs hk hm hl hP hS hF
      refine lv_iload_n hx hb d_M_drop_15 rfl (lv_at hl 0 rfl) ?_
      refine lv_bipush (v := 16) hx hb d_M_drop_16 (by decide) ?_
      refine lv_iload_n hx hb d_M_drop_18 rfl (lv_at hl 2 rfl) ?_
      refine lv_imul hx hb d_M_drop_19 ?_
      refine lv_aload_n hx hb d_M_drop_20 rfl (lv_at hl 1 rfl) ?_
      refine sm_g (v := .ref (α 24)) hx hb ht hown hK hP 26 (by decide) (ht _ xw978) (fun _ h_ => h_) rfl d_M_drop_21 ?_
      refine lv_iload_n hx hb d_M_drop_24 rfl (lv_at hl 2 rfl) ?_
      refine sm_gaI (L := 2) (n := e1) (v := (σ.1 24 e1)) hx hb hK hP 24 23 rfl rfl (xb_in (xb_lit e1 rfl) (by omega) (by decide)) (xb_cl (xb_lit e1 rfl) (by omega)) rfl d_M_drop_25 ?_
      refine lv_iadd hx hb d_M_drop_26 ?_
      refine lv_icmp_ge (tgt := 44) hx hb d_M_drop_27 (by decide) (fun c1 => ?_) (fun c1 => ?_)
      · skip
        have nc1 := (xb_leN (xb_na (xb_nm (xb_lit (x := (16 : Int32)) 16 rfl) (xb_lit e1 rfl)) hm) (xb_lit k rfl) (by omega) (by omega)).mp c1
        exact W.vret hx hb hr (fun t ht_ hW => ⟨⟨σ, rfl, hF, by rw [sm_B, ht_]; exact hP⟩, hS.F ht_⟩) hS.2.2 d_M_drop_44
      · skip
        have nc1 := mt (xb_leN (xb_na (xb_nm (xb_lit (x := (16 : Int32)) 16 rfl) (xb_lit e1 rfl)) hm) (xb_lit k rfl) (by omega) (by omega)).mpr c1
        exact absurd hk (by omega)
    | succ n ih =>
      intro k σ ls H locs hk hm hl hP hS hF
      refine lv_iload_n hx hb d_M_drop_15 rfl (lv_at hl 0 rfl) ?_
      refine lv_bipush (v := 16) hx hb d_M_drop_16 (by decide) ?_
      refine lv_iload_n hx hb d_M_drop_18 rfl (lv_at hl 2 rfl) ?_
      refine lv_imul hx hb d_M_drop_19 ?_
      refine lv_aload_n hx hb d_M_drop_20 rfl (lv_at hl 1 rfl) ?_
      refine sm_g (v := .ref (α 24)) hx hb ht hown hK hP 26 (by decide) (ht _ xw978) (fun _ h_ => h_) rfl d_M_drop_21 ?_
      refine lv_iload_n hx hb d_M_drop_24 rfl (lv_at hl 2 rfl) ?_
      refine sm_gaI (L := 2) (n := e1) (v := (σ.1 24 e1)) hx hb hK hP 24 23 rfl rfl (xb_in (xb_lit e1 rfl) (by omega) (by decide)) (xb_cl (xb_lit e1 rfl) (by omega)) rfl d_M_drop_25 ?_
      refine lv_iadd hx hb d_M_drop_26 ?_
      refine lv_icmp_ge (tgt := 44) hx hb d_M_drop_27 (by decide) (fun c1 => ?_) (fun c1 => ?_)
      · skip
        have nc1 := (xb_leN (xb_na (xb_nm (xb_lit (x := (16 : Int32)) 16 rfl) (xb_lit e1 rfl)) hm) (xb_lit k rfl) (by omega) (by omega)).mp c1
        exact absurd hk (by omega)
      · skip
        have nc1 := mt (xb_leN (xb_na (xb_nm (xb_lit (x := (16 : Int32)) 16 rfl) (xb_lit e1 rfl)) hm) (xb_lit k rfl) (by omega) (by omega)).mpr c1
        refine lv_aload_n hx hb d_M_drop_30 rfl (lv_at hl 1 rfl) ?_
        refine lv_iload_n hx hb d_M_drop_31 rfl (lv_at hl 0 rfl) ?_
        refine lv_iconst (v := 1) hx hb d_M_drop_32 (by decide) ?_
        refine lv_iadd hx hb d_M_drop_33 ?_
        refine lv_iload_n hx hb d_M_drop_34 rfl (lv_at hl 0 rfl) ?_
        refine sm_cv (va_runV (As := [.int ((nI k) + (1 : Int32)), .int (nI k)]) (rest := []) ⟨hx, hb, hml, hown, hts⟩ (c_M_copy l D α κ hα σ ((nI k) + (1 : Int32)) (k + 1) (xb_na (xb_lit k rfl) (xb_lit (x := (1 : Int32)) 1 rfl)) (by omega) (nI k) k (xb_lit k rfl) (by omega)) (cwV 2 hts (xa_V xw1100 xw1102 xs7 xw11 xw1103) rfl rfl rfl (by decide +kernel) ⟨Nat.le_of_ble_eq_true rfl, Nat.le_of_ble_eq_true rfl⟩) ⟨sm_blind, va_recv (q0 := 0) (ci := 9) hK hP rfl rfl, sm_pre hP hK hN _⟩ rfl rfl hl.1 rfl (lv_room (Nat.le_of_ble_eq_true rfl)) d_M_drop_35 ⟨Nat.le_of_ble_eq_true rfl, Nat.le_of_ble_eq_true rfl⟩) hS (fun _ h_ => h_) (fun H locs hP hS => ?_)
        obtain ⟨τ1, hτ1⟩ : ∃ t_, t_ = (q_copy (k + 1) k σ) := ⟨_, rfl⟩
        rw [← hτ1] at hP
        refine lv_iinc (v := (nI (k + 1))) (k := 0) (lv' := [(2, .int (nI (k + 1))), (0, .ref (α 0)), (1, .int (nI e1))]) hx hb d_M_drop_38 hl rfl (nI_1 k) (by decide) rfl (fun ls hl => ?_)
        refine lv_goto (tgt := 15) hx hb d_M_drop_41 (by decide) ?_
        exact ih (k + 1) τ1 ls _ _ (by omega) (by rw [hτ1]; exact hm) hl hP hS (by rw [hτ1]; exact hF)
  have hl := lv_entry ([.ref (α 0), .int (nI e1)]) (n := 3) (Nat.le_of_ble_eq_true rfl)
  rw [lg_entry_eq]
  generalize (lg_sl ([.ref (α 0), .int (nI e1)]) ++ List.replicate (3 - (lg_sl ([.ref (α 0), .int (nI e1)])).length) Slot.unset).toArray = ls at hl ⊢
  have hl : lv_has ls 3 [(0, .ref (α 0)), (1, .int (nI e1))] := hl
  refine lv_aload_n hx hb d_M_drop_0 rfl (lv_at hl 0 rfl) ?_
  refine sm_g (v := .ref (α 24)) hx hb ht hown hK hP 26 (by decide) (ht _ xw978) (fun _ h_ => h_) rfl d_M_drop_1 ?_
  refine lv_iload_n hx hb d_M_drop_4 rfl (lv_at hl 1 rfl) ?_
  refine lv_dup2_11 hx hb d_M_drop_5 rfl rfl ?_
  refine sm_gaI (L := 2) (n := e1) (v := (σ.1 24 e1)) hx hb hK hP 24 23 rfl rfl (xb_in (xb_lit e1 rfl) (by omega) (by decide)) (xb_cl (xb_lit e1 rfl) (by omega)) rfl d_M_drop_6 ?_
  refine lv_iconst (v := 1) hx hb d_M_drop_7 (by decide) ?_
  refine lv_isub hx hb d_M_drop_8 ?_
  refine sm_paI (L := 2) (n := e1) (x := ((σ.1 24 e1) - (1 : Int32))) hx hb hK hP 24 23 rfl rfl hD hS (xb_in (xb_lit e1 rfl) (by omega) (by decide)) (xb_cl (xb_lit e1 rfl) (by omega)) sm_s_24 d_M_drop_9 (fun H locs hP hS => ?_)
  refine lv_bipush (v := 16) hx hb d_M_drop_10 (by decide) ?_
  refine lv_iload_n hx hb d_M_drop_12 rfl (lv_at hl 1 rfl) ?_
  refine lv_imul hx hb d_M_drop_13 ?_
  refine lv_istore_n (lv' := [(2, .int ((16 : Int32) * (nI e1))), (0, .ref (α 0)), (1, .int (nI e1))]) hx hb d_M_drop_14 rfl hl (by decide) rfl (fun ls hl => ?_)
  rw [show (16 : Int32) * nI e1 = nI (16 * e1) from xb_nm (xb_lit (x := (16 : Int32)) 16 rfl) (xb_lit e1 rfl)] at hl
  exact loop ((σ.1 24 e1).toNatClampNeg - 1) (by omega) ((σ.1 24 e1).toNatClampNeg - 1) (16 * e1) _ ls _ _ (by omega) (by rw [xb_i_hit]; exact xb_ns hz.1 (xb_lit (x := (1 : Int32)) 1 rfl) (by omega)) hl hP hS rfl
