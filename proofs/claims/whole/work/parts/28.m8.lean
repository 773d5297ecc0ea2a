abbrev b_M_shift : ByteArray := prog_12_method_44_code
def y_M_shift : MethodName := ⟨"SecurePairModel", "shift", "(I)V"⟩
abbrev w_M_shift : List Cond := .code y_M_shift b_M_shift 3 none :: xa
theorem d_M_shift_0 : decode b_M_shift 0 = .ok (.bipush 16, 2) := by decide +kernel
theorem d_M_shift_2 : decode b_M_shift 2 = .ok (.iload_n 1, 1) := by decide +kernel
theorem d_M_shift_3 : decode b_M_shift 3 = .ok (.imul, 1) := by decide +kernel
theorem d_M_shift_4 : decode b_M_shift 4 = .ok (.aload_n 0, 1) := by decide +kernel
theorem d_M_shift_5 : decode b_M_shift 5 = .ok (.getfield 87, 3) := by decide +kernel
theorem d_M_shift_8 : decode b_M_shift 8 = .ok (.iload_n 1, 1) := by decide +kernel
theorem d_M_shift_9 : decode b_M_shift 9 = .ok (.iaload, 1) := by decide +kernel
theorem d_M_shift_10 : decode b_M_shift 10 = .ok (.iadd, 1) := by decide +kernel
theorem d_M_shift_11 : decode b_M_shift 11 = .ok (.istore_n 2, 1) := by decide +kernel
theorem d_M_shift_12 : decode b_M_shift 12 = .ok (.iload_n 2, 1) := by decide +kernel
theorem d_M_shift_13 : decode b_M_shift 13 = .ok (.bipush 16, 2) := by decide +kernel
theorem d_M_shift_15 : decode b_M_shift 15 = .ok (.iload_n 1, 1) := by decide +kernel
theorem d_M_shift_16 : decode b_M_shift 16 = .ok (.imul, 1) := by decide +kernel
theorem d_M_shift_17 : decode b_M_shift 17 = .ok (.if_icmp .le 17, 3) := by decide +kernel
theorem d_M_shift_20 : decode b_M_shift 20 = .ok (.aload_n 0, 1) := by decide +kernel
theorem d_M_shift_21 : decode b_M_shift 21 = .ok (.iload_n 2, 1) := by decide +kernel
theorem d_M_shift_22 : decode b_M_shift 22 = .ok (.iconst 1, 1) := by decide +kernel
theorem d_M_shift_23 : decode b_M_shift 23 = .ok (.isub, 1) := by decide +kernel
theorem d_M_shift_24 : decode b_M_shift 24 = .ok (.iload_n 2, 1) := by decide +kernel
theorem d_M_shift_25 : decode b_M_shift 25 = .ok (.invokevirtual 161, 3) := by decide +kernel
theorem d_M_shift_28 : decode b_M_shift 28 = .ok (.iinc 2 (-1), 3) := by decide +kernel
theorem d_M_shift_31 : decode b_M_shift 31 = .ok (.goto (-19), 3) := by decide +kernel
theorem d_M_shift_34 : decode b_M_shift 34 = .ok (.aload_n 0, 1) := by decide +kernel
theorem d_M_shift_35 : decode b_M_shift 35 = .ok (.getfield 87, 3) := by decide +kernel
theorem d_M_shift_38 : decode b_M_shift 38 = .ok (.iload_n 1, 1) := by decide +kernel
theorem d_M_shift_39 : decode b_M_shift 39 = .ok (.dup2, 1) := by decide +kernel
theorem d_M_shift_40 : decode b_M_shift 40 = .ok (.iaload, 1) := by decide +kernel
theorem d_M_shift_41 : decode b_M_shift 41 = .ok (.iconst 1, 1) := by decide +kernel
theorem d_M_shift_42 : decode b_M_shift 42 = .ok (.iadd, 1) := by decide +kernel
theorem d_M_shift_43 : decode b_M_shift 43 = .ok (.iastore, 1) := by decide +kernel
theorem d_M_shift_44 : decode b_M_shift 44 = .ok (.return_, 1) := by decide +kernel
theorem xb_m1 {k : Nat} (h : 0 < k) : nI k + (-1 : Int32) = nI (k - 1) := by
  obtain ⟨j, rfl⟩ : ∃ j, k = j + 1 := ⟨k - 1, by omega⟩
  exact pk_m1 j
def f_shift : Nat → Nat → xb_St → xb_St
  | 0, _, σ => σ
  | n + 1, k, σ => f_shift n (k - 1) (q_copy (k - 1) k σ)
def q_shift (e1 : Nat) (σ : xb_St) : xb_St := xb_si (f_shift (σ.1 24 e1).toNatClampNeg (16 * e1 + (σ.1 24 e1).toNatClampNeg) σ) 24 e1 ((f_shift (σ.1 24 e1).toNatClampNeg (16 * e1 + (σ.1 24 e1).toNatClampNeg) σ).1 24 e1 + (1 : Int32))
theorem f_shift_24 {j : Nat} : ∀ (n k : Nat) (σ : xb_St), (f_shift n k σ).1 24 j = σ.1 24 j := by
  intro n
  induction n with
  | zero => intro k σ; rfl
  | succ n ih => intro k σ; exact (ih (k - 1) _).trans q_copy_24
theorem ok_f_shift : ∀ (n k : Nat) (σ : xb_St), k < 34 → sm_ok σ → sm_ok (f_shift n k σ) := by
  intro n
  induction n with
  | zero => intro k σ _ ok; exact ok
  | succ n ih => intro k σ hk ok; exact ih (k - 1) _ (by omega) (ok_q_copy (k - 1) k (by omega) hk ok)
theorem ok_q_shift {σ : xb_St} (e1 : Nat) (b_e1 : e1 < 2) (hne : ¬ (16 : Int32) ≤ σ.1 24 e1) (ok : sm_ok σ) : sm_ok (q_shift e1 σ) := by
  obtain ⟨n0, hn0, en0⟩ := ok.1 e1 b_e1
  have hz := xb_nb en0 (by omega)
  exact mk_inc (ok_f_shift _ _ _ (by omega) ok) b_e1 (by rw [f_shift_24]; exact hne)
set_option maxHeartbeats 4000000 in
set_option maxRecDepth 100000 in
theorem c_M_shift (l : Launch) (D : va_G) (α : Nat → Nat) (κ : Nat → ClassId) (hα : xb_inj α 35) (σ : xb_St) (x_e1 : Int32) (e1 : Nat) (e_e1 : x_e1 = nI e1) (b_e1 : e1 < 2) (ok : sm_ok σ) : Met l y_M_shift w_M_shift ({ frames := 1, cells := 0, slots := 0, locals := 23 }) (va_Pc ([.ref (α 0), .int x_e1]) (sm_Pre D α κ σ)) (va_Qv (fun u : xb_St => u = q_shift e1 σ) (sm_B D α κ) (xb_A α 35)) 0 0 (xb_A α 35) := by
  subst e_e1
  refine Met.ofW (cc := b_M_shift) (maxL := 3) (ret := none) (by decide) rfl ?_
  intro p e s m args below meth c s₁ B_ hml hv
  obtain ⟨rfl, hP, hK, hN⟩ := hv
  have hx := B_.exec
  have hb := B_.bytes
  have hr := B_.returns
  have hts := atoms_spec (ws := w_M_shift) B_.pre
  have ht : ∀ w ∈ xa, w.before _ s = true := fun w h => hts w (List.mem_cons_of_mem _ h)
  have hown : s.vm.findClass "SecurePairModel" = some m.cls := findClass_of_methodNamed B_.named
  have hlocks := B_.notSynchronized
  have hD := sm_D hα κ
  have hS : va_S (xb_A α 35) s.heap s.heap [] := va_S.rf
  obtain ⟨n0, hn0, en0⟩ := ok.1 e1 b_e1
  have hz := xb_nb en0 (by omega)
  have hz0 : (σ.1 24 e1).toNatClampNeg ≤ 16 := by rw [hz.2]; exact hn0
  have loop : ∀ (n k : Nat) (σ' : xb_St) (ls : Array Slot) (H : Heap) (locs : List Loc), k = 16 * e1 + n → n ≤ 16 → lv_has ls 3 [(2, .int (nI k)), (0, .ref (α 0)), (1, .int (nI e1))] → va_P D xC (sm_w α κ σ') H → va_S (xb_A α 35) s.heap H locs → xb_si (f_shift n k σ') 24 e1 ((f_shift n k σ').1 24 e1 + (1 : Int32)) = q_shift e1 σ → W p l e (headSpec w_M_shift ({ frames := 1, cells := 0, slots := 0, locals := 23 })).room s m ([.ref (α 0), .int (nI e1)] : List Value).toArray below meth c H locs 0 0 (MQ below (va_Qv (fun u : xb_St => u = q_shift e1 σ) (sm_B D α κ) (xb_A α 35)) ([.ref (α 0), .int (nI e1)] : List Value).toArray s 0 0 (xb_A α 35)) (F0 m 12 ls []) := by
    intro n
    induction n with
    | zero =>
      intro k σ ls H locs hk hm hl hP hS hF
      refine lv_iload_n hx hb d_M_shift_12 rfl (lv_at hl 0 rfl) ?_
      refine lv_bipush (v := 16) hx hb d_M_shift_13 (by decide) ?_
      refine lv_iload_n hx hb d_M_shift_15 rfl (lv_at hl 2 rfl) ?_
      refine lv_imul hx hb d_M_shift_16 ?_
      refine lv_icmp_le (tgt := 34) hx hb d_M_shift_17 (by decide) (fun c1 => ?_) (fun c1 => ?_)
      · skip
        have nc1 := (xb_leN (xb_lit k rfl) (xb_nm (xb_lit (x := (16 : Int32)) 16 rfl) (xb_lit e1 rfl)) (by omega) (by omega)).mp c1
        refine lv_aload_n hx hb d_M_shift_34 rfl (lv_at hl 1 rfl) ?_
        refine sm_g (v := .ref (α 24)) hx hb ht hown hK hP 26 (by decide) (ht _ xw978) (fun _ h_ => h_) rfl d_M_shift_35 ?_
        refine lv_iload_n hx hb d_M_shift_38 rfl (lv_at hl 2 rfl) ?_
        refine lv_dup2_11 hx hb d_M_shift_39 rfl rfl ?_
        refine sm_gaI (L := 2) (n := e1) (v := (σ.1 24 e1)) hx hb hK hP 24 23 rfl rfl (xb_in (xb_lit e1 rfl) (by omega) (by decide)) (xb_cl (xb_lit e1 rfl) (by omega)) rfl d_M_shift_40 ?_
        refine lv_iconst (v := 1) hx hb d_M_shift_41 (by decide) ?_
        refine lv_iadd hx hb d_M_shift_42 ?_
        refine sm_paI (L := 2) (n := e1) (x := ((σ.1 24 e1) + (1 : Int32))) hx hb hK hP 24 23 rfl rfl hD hS (xb_in (xb_lit e1 rfl) (by omega) (by decide)) (xb_cl (xb_lit e1 rfl) (by omega)) sm_s_24 d_M_shift_43 (fun H locs hP hS => ?_)
        exact W.vret hx hb hr (fun t ht_ hW => ⟨⟨(xb_si σ 24 e1 ((σ.1 24 e1) + (1 : Int32))), rfl, hF, by rw [sm_B, ht_]; exact hP⟩, hS.F ht_⟩) hS.2.2 d_M_shift_44
      · skip
        have nc1 := mt (xb_leN (xb_lit k rfl) (xb_nm (xb_lit (x := (16 : Int32)) 16 rfl) (xb_lit e1 rfl)) (by omega) (by omega)).mpr c1
        exact absurd hk (by omega)
    | succ n ih =>
      intro k σ ls H locs hk hm hl hP hS hF
      refine lv_iload_n hx hb d_M_shift_12 rfl (lv_at hl 0 rfl) ?_
      refine lv_bipush (v := 16) hx hb d_M_shift_13 (by decide) ?_
      refine lv_iload_n hx hb d_M_shift_15 rfl (lv_at hl 2 rfl) ?_
      refine lv_imul hx hb d_M_shift_16 ?_
      refine lv_icmp_le (tgt := 34) hx hb d_M_shift_17 (by decide) (fun c1 => ?_) (fun c1 => ?_)
      · skip
        have nc1 := (xb_leN (xb_lit k rfl) (xb_nm (xb_lit (x := (16 : Int32)) 16 rfl) (xb_lit e1 rfl)) (by omega) (by omega)).mp c1
        exact absurd hk (by omega)
      · skip
        have nc1 := mt (xb_leN (xb_lit k rfl) (xb_nm (xb_lit (x := (16 : Int32)) 16 rfl) (xb_lit e1 rfl)) (by omega) (by omega)).mpr c1
        refine lv_aload_n hx hb d_M_shift_20 rfl (lv_at hl 1 rfl) ?_
        refine lv_iload_n hx hb d_M_shift_21 rfl (lv_at hl 0 rfl) ?_
        refine lv_iconst (v := 1) hx hb d_M_shift_22 (by decide) ?_
        refine lv_isub hx hb d_M_shift_23 ?_
        refine lv_iload_n hx hb d_M_shift_24 rfl (lv_at hl 0 rfl) ?_
        refine sm_cv (va_runV (As := [.int ((nI k) - (1 : Int32)), .int (nI k)]) (rest := []) ⟨hx, hb, hml, hown, hts⟩ (c_M_copy l D α κ hα σ ((nI k) - (1 : Int32)) (k - 1) (xb_ns (xb_lit k rfl) (xb_lit (x := (1 : Int32)) 1 rfl) (by omega)) (by omega) (nI k) k (xb_lit k rfl) (by omega)) (cwV 2 hts (xa_V xw1100 xw1102 xs7 xw11 xw1103) rfl rfl rfl (by decide +kernel) ⟨Nat.le_of_ble_eq_true rfl, Nat.le_of_ble_eq_true rfl⟩) ⟨sm_blind, va_recv (q0 := 0) (ci := 9) hK hP rfl rfl, sm_pre hP hK hN _⟩ rfl rfl hl.1 rfl (lv_room (Nat.le_of_ble_eq_true rfl)) d_M_shift_25 ⟨Nat.le_of_ble_eq_true rfl, Nat.le_of_ble_eq_true rfl⟩) hS (fun _ h_ => h_) (fun H locs hP hS => ?_)
        obtain ⟨τ1, hτ1⟩ : ∃ t_, t_ = (q_copy (k - 1) k σ) := ⟨_, rfl⟩
        rw [← hτ1] at hP
        refine lv_iinc (v := (nI (k - 1))) (k := 0) (lv' := [(2, .int (nI (k - 1))), (0, .ref (α 0)), (1, .int (nI e1))]) hx hb d_M_shift_28 hl rfl (xb_m1 (by omega)) (by decide) rfl (fun ls hl => ?_)
        refine lv_goto (tgt := 12) hx hb d_M_shift_31 (by decide) ?_
        exact ih (k - 1) τ1 ls _ _ (by omega) (by omega) hl hP hS (by rw [hτ1]; exact hF)
  have hl := lv_entry ([.ref (α 0), .int (nI e1)]) (n := 3) (Nat.le_of_ble_eq_true rfl)
  rw [lg_entry_eq]
  generalize (lg_sl ([.ref (α 0), .int (nI e1)]) ++ List.replicate (3 - (lg_sl ([.ref (α 0), .int (nI e1)])).length) Slot.unset).toArray = ls at hl ⊢
  have hl : lv_has ls 3 [(0, .ref (α 0)), (1, .int (nI e1))] := hl
  refine lv_bipush (v := 16) hx hb d_M_shift_0 (by decide) ?_
  refine lv_iload_n hx hb d_M_shift_2 rfl (lv_at hl 1 rfl) ?_
  refine lv_imul hx hb d_M_shift_3 ?_
  refine lv_aload_n hx hb d_M_shift_4 rfl (lv_at hl 0 rfl) ?_
  refine sm_g (v := .ref (α 24)) hx hb ht hown hK hP 26 (by decide) (ht _ xw978) (fun _ h_ => h_) rfl d_M_shift_5 ?_
  refine lv_iload_n hx hb d_M_shift_8 rfl (lv_at hl 1 rfl) ?_
  refine sm_gaI (L := 2) (n := e1) (v := (σ.1 24 e1)) hx hb hK hP 24 23 rfl rfl (xb_in (xb_lit e1 rfl) (by omega) (by decide)) (xb_cl (xb_lit e1 rfl) (by omega)) rfl d_M_shift_9 ?_
  refine lv_iadd hx hb d_M_shift_10 ?_
  refine lv_istore_n (lv' := [(2, .int (((16 : Int32) * (nI e1)) + (σ.1 24 e1))), (0, .ref (α 0)), (1, .int (nI e1))]) hx hb d_M_shift_11 rfl hl (by decide) rfl (fun ls hl => ?_)
  rw [show (16 : Int32) * nI e1 + σ.1 24 e1 = nI (16 * e1 + (σ.1 24 e1).toNatClampNeg) from xb_na (xb_nm (xb_lit (x := (16 : Int32)) 16 rfl) (xb_lit e1 rfl)) hz.1] at hl
  exact loop (σ.1 24 e1).toNatClampNeg _ σ ls _ _ rfl hz0 hl hP hS rfl
