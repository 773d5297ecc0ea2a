abbrev b_M_open : ByteArray := prog_12_method_34_code
def y_M_open : MethodName := ⟨"SecurePairModel", "open", "(I)I"⟩
abbrev w_M_open : List Cond := .code y_M_open b_M_open 3 (some .int) :: xa
theorem d_M_open_0 : decode b_M_open 0 = .ok (.iload_n 1, 1) := by decide +kernel
theorem d_M_open_1 : decode b_M_open 1 = .ok (.invokestatic 169, 3) := by decide +kernel
theorem d_M_open_4 : decode b_M_open 4 = .ok (.ifCond .ne 9, 3) := by decide +kernel
theorem d_M_open_7 : decode b_M_open 7 = .ok (.aload_n 0, 1) := by decide +kernel
theorem d_M_open_8 : decode b_M_open 8 = .ok (.iconst 1, 1) := by decide +kernel
theorem d_M_open_9 : decode b_M_open 9 = .ok (.invokevirtual 173, 3) := by decide +kernel
theorem d_M_open_12 : decode b_M_open 12 = .ok (.ireturn, 1) := by decide +kernel
theorem d_M_open_13 : decode b_M_open 13 = .ok (.aload_n 0, 1) := by decide +kernel
theorem d_M_open_14 : decode b_M_open 14 = .ok (.getfield 25, 3) := by decide +kernel
theorem d_M_open_17 : decode b_M_open 17 = .ok (.iload_n 1, 1) := by decide +kernel
theorem d_M_open_18 : decode b_M_open 18 = .ok (.iaload, 1) := by decide +kernel
theorem d_M_open_19 : decode b_M_open 19 = .ok (.iconst 4, 1) := by decide +kernel
theorem d_M_open_20 : decode b_M_open 20 = .ok (.if_icmp .eq 9, 3) := by decide +kernel
theorem d_M_open_23 : decode b_M_open 23 = .ok (.aload_n 0, 1) := by decide +kernel
theorem d_M_open_24 : decode b_M_open 24 = .ok (.iconst 2, 1) := by decide +kernel
theorem d_M_open_25 : decode b_M_open 25 = .ok (.invokevirtual 173, 3) := by decide +kernel
theorem d_M_open_28 : decode b_M_open 28 = .ok (.ireturn, 1) := by decide +kernel
theorem d_M_open_29 : decode b_M_open 29 = .ok (.aload_n 0, 1) := by decide +kernel
theorem d_M_open_30 : decode b_M_open 30 = .ok (.iload_n 1, 1) := by decide +kernel
theorem d_M_open_31 : decode b_M_open 31 = .ok (.invokevirtual 248, 3) := by decide +kernel
theorem d_M_open_34 : decode b_M_open 34 = .ok (.istore_n 2, 1) := by decide +kernel
theorem d_M_open_35 : decode b_M_open 35 = .ok (.iload_n 2, 1) := by decide +kernel
theorem d_M_open_36 : decode b_M_open 36 = .ok (.ifCond .ge 9, 3) := by decide +kernel
theorem d_M_open_39 : decode b_M_open 39 = .ok (.aload_n 0, 1) := by decide +kernel
theorem d_M_open_40 : decode b_M_open 40 = .ok (.iconst 3, 1) := by decide +kernel
theorem d_M_open_41 : decode b_M_open 41 = .ok (.invokevirtual 173, 3) := by decide +kernel
theorem d_M_open_44 : decode b_M_open 44 = .ok (.ireturn, 1) := by decide +kernel
theorem d_M_open_45 : decode b_M_open 45 = .ok (.aload_n 0, 1) := by decide +kernel
theorem d_M_open_46 : decode b_M_open 46 = .ok (.iconst 0, 1) := by decide +kernel
theorem d_M_open_47 : decode b_M_open 47 = .ok (.putfield 120, 3) := by decide +kernel
theorem d_M_open_50 : decode b_M_open 50 = .ok (.aload_n 0, 1) := by decide +kernel
theorem d_M_open_51 : decode b_M_open 51 = .ok (.iconst 3, 1) := by decide +kernel
theorem d_M_open_52 : decode b_M_open 52 = .ok (.iload_n 1, 1) := by decide +kernel
theorem d_M_open_53 : decode b_M_open 53 = .ok (.imul, 1) := by decide +kernel
theorem d_M_open_54 : decode b_M_open 54 = .ok (.iload_n 2, 1) := by decide +kernel
theorem d_M_open_55 : decode b_M_open 55 = .ok (.iadd, 1) := by decide +kernel
theorem d_M_open_56 : decode b_M_open 56 = .ok (.invokevirtual 251, 3) := by decide +kernel
theorem d_M_open_59 : decode b_M_open 59 = .ok (.aload_n 0, 1) := by decide +kernel
theorem d_M_open_60 : decode b_M_open 60 = .ok (.getfield 99, 3) := by decide +kernel
theorem d_M_open_63 : decode b_M_open 63 = .ok (.iconst 3, 1) := by decide +kernel
theorem d_M_open_64 : decode b_M_open 64 = .ok (.iload_n 1, 1) := by decide +kernel
theorem d_M_open_65 : decode b_M_open 65 = .ok (.imul, 1) := by decide +kernel
theorem d_M_open_66 : decode b_M_open 66 = .ok (.iload_n 2, 1) := by decide +kernel
theorem d_M_open_67 : decode b_M_open 67 = .ok (.iadd, 1) := by decide +kernel
theorem d_M_open_68 : decode b_M_open 68 = .ok (.iconst 1, 1) := by decide +kernel
theorem d_M_open_69 : decode b_M_open 69 = .ok (.iastore, 1) := by decide +kernel
theorem d_M_open_70 : decode b_M_open 70 = .ok (.aload_n 0, 1) := by decide +kernel
theorem d_M_open_71 : decode b_M_open 71 = .ok (.getfield 108, 3) := by decide +kernel
theorem d_M_open_74 : decode b_M_open 74 = .ok (.iconst 3, 1) := by decide +kernel
theorem d_M_open_75 : decode b_M_open 75 = .ok (.iload_n 1, 1) := by decide +kernel
theorem d_M_open_76 : decode b_M_open 76 = .ok (.imul, 1) := by decide +kernel
theorem d_M_open_77 : decode b_M_open 77 = .ok (.iload_n 2, 1) := by decide +kernel
theorem d_M_open_78 : decode b_M_open 78 = .ok (.iadd, 1) := by decide +kernel
theorem d_M_open_79 : decode b_M_open 79 = .ok (.bipush 24, 2) := by decide +kernel
theorem d_M_open_81 : decode b_M_open 81 = .ok (.iastore, 1) := by decide +kernel
theorem d_M_open_82 : decode b_M_open 82 = .ok (.aload_n 0, 1) := by decide +kernel
theorem d_M_open_83 : decode b_M_open 83 = .ok (.iload_n 1, 1) := by decide +kernel
theorem d_M_open_84 : decode b_M_open 84 = .ok (.bipush 90, 2) := by decide +kernel
theorem d_M_open_86 : decode b_M_open 86 = .ok (.iload_n 2, 1) := by decide +kernel
theorem d_M_open_87 : decode b_M_open 87 = .ok (.i2l, 1) := by decide +kernel
theorem d_M_open_88 : decode b_M_open 88 = .ok (.ldc2_w 254, 3) := by decide +kernel
theorem d_M_open_91 : decode b_M_open 91 = .ok (.lconst 0, 1) := by decide +kernel
theorem d_M_open_92 : decode b_M_open 92 = .ok (.lconst 0, 1) := by decide +kernel
theorem d_M_open_93 : decode b_M_open 93 = .ok (.invokevirtual 165, 3) := by decide +kernel
theorem d_M_open_96 : decode b_M_open 96 = .ok (.iload_n 2, 1) := by decide +kernel
theorem d_M_open_97 : decode b_M_open 97 = .ok (.ireturn, 1) := by decide +kernel
def q_open (x1 : Int32) (σ : xb_St) : Int32 × xb_St := (if (g_isEnd x1) = 0 then ((q_raise (1 : Int32) σ).1, (q_raise (1 : Int32) σ).2) else (if (σ.1 4 x1.toNatClampNeg) = (4 : Int32) then (if 0 ≤ (q_free x1.toNatClampNeg σ) then ((q_free x1.toNatClampNeg σ), (q_send x1.toNatClampNeg (90 : Int32) ((q_free x1.toNatClampNeg σ).toInt64) (24 : Int64) (0 : Int64) (0 : Int64) (xb_si (xb_si (q_release ((3 * x1.toNatClampNeg) + (q_free x1.toNatClampNeg σ).toNatClampNeg) (xb_si σ 0 0 (0 : Int32))) 28 ((3 * x1.toNatClampNeg) + (q_free x1.toNatClampNeg σ).toNatClampNeg) (1 : Int32)) 31 ((3 * x1.toNatClampNeg) + (q_free x1.toNatClampNeg σ).toNatClampNeg) (24 : Int32)))) else ((q_raise (3 : Int32) σ).1, (q_raise (3 : Int32) σ).2)) else ((q_raise (2 : Int32) σ).1, (q_raise (2 : Int32) σ).2)))
set_option maxHeartbeats 4000000 in
set_option maxRecDepth 100000 in
theorem c_M_open (l : Launch) (D : va_G) (α : Nat → Nat) (κ : Nat → ClassId) (hα : xb_inj α 35) (σ : xb_St) (x1 : Int32) (ok : sm_ok σ) : Met l y_M_open w_M_open ({ frames := 3, cells := 0, slots := 0, locals := 92 }) (va_Pc ([.ref (α 0), .int x1]) (sm_Pre D α κ σ)) (va_Qi (fun r (u : xb_St) => r = (q_open x1 σ).1 ∧ u = (q_open x1 σ).2) (sm_B D α κ) (xb_A α 35)) 0 0 (xb_A α 35) := by
  refine Met.ofW (cc := b_M_open) (maxL := 3) (ret := (some .int)) (by decide) rfl ?_
  intro p e s m args below meth c s₁ B_ hml hv
  obtain ⟨rfl, hP, hK, hN⟩ := hv
  have hx := B_.exec
  have hb := B_.bytes
  have hr := B_.returns
  have hts := atoms_spec (ws := w_M_open) B_.pre
  have ht : ∀ w ∈ xa, w.before _ s = true := fun w h => hts w (List.mem_cons_of_mem _ h)
  have hown : s.vm.findClass "SecurePairModel" = some m.cls := findClass_of_methodNamed B_.named
  have hlocks := B_.notSynchronized
  have hD := sm_D hα κ
  have hS : va_S (xb_A α 35) s.heap s.heap [] := va_S.rf
  have hl := lv_entry ([.ref (α 0), .int x1]) (n := 3) (Nat.le_of_ble_eq_true rfl)
  rw [lg_entry_eq]
  generalize (lg_sl ([.ref (α 0), .int x1]) ++ List.replicate (3 - (lg_sl ([.ref (α 0), .int x1])).length) Slot.unset).toArray = ls at hl ⊢
  have hl : lv_has ls 3 [(0, .ref (α 0)), (1, .int x1)] := hl
  refine lv_iload_n hx hb d_M_open_0 rfl (lv_at hl 1 rfl) ?_
  refine vp_callSi (W.runS (As := [.int x1]) (rest := []) ⟨hx, hb, hml, hown, hts⟩ (c_M_isEnd l x1) (cwS 1 hts (xa_S xw1073 xw1074 xw11 xw1075) rfl rfl rfl (by decide +kernel) ⟨Nat.le_of_ble_eq_true rfl, Nat.le_of_ble_eq_true rfl⟩) preEq rfl rfl hl.1 rfl (lv_room (Nat.le_of_ble_eq_true rfl)) d_M_open_1 ⟨Nat.le_of_ble_eq_true rfl, Nat.le_of_ble_eq_true rfl⟩) (fun r_ e_ => ?_)
  subst e_
  refine lv_if_ne (tgt := 13) hx hb d_M_open_4 (by decide) (fun c1 => ?_) (fun c1 => ?_)
  · skip
    have zc1 := sm_end c1
    refine lv_aload_n hx hb d_M_open_13 rfl (lv_at hl 0 rfl) ?_
    refine sm_g (v := .ref (α 4)) hx hb ht hown hK hP 6 (by decide) (ht _ xw958) (fun _ h_ => h_) rfl d_M_open_14 ?_
    refine lv_iload_n hx hb d_M_open_17 rfl (lv_at hl 1 rfl) ?_
    refine sm_gaI (L := 2) (n := x1.toNatClampNeg) (v := (σ.1 4 x1.toNatClampNeg)) hx hb hK hP 4 3 rfl rfl (xb_in zc1.1 (by omega) (by decide)) (xb_cl zc1.1 (by omega)) rfl d_M_open_18 ?_
    refine lv_iconst (v := 4) hx hb d_M_open_19 (by decide) ?_
    refine lv_icmp_eq (tgt := 29) hx hb d_M_open_20 (by decide) (fun c2 => ?_) (fun c2 => ?_)
    · skip
      refine lv_aload_n hx hb d_M_open_29 rfl (lv_at hl 0 rfl) ?_
      refine lv_iload_n hx hb d_M_open_30 rfl (lv_at hl 1 rfl) ?_
      refine sm_ci (va_runV (As := [.int x1]) (rest := []) ⟨hx, hb, hml, hown, hts⟩ (c_M_freeChannel l D α κ hα σ x1 x1.toNatClampNeg zc1.1 (by omega)) (cwV 1 hts (xa_V xw1180 xw1182 xs19 xw11 xw1183) rfl rfl rfl (by decide +kernel) ⟨Nat.le_of_ble_eq_true rfl, Nat.le_of_ble_eq_true rfl⟩) ⟨sm_blind, va_recv (q0 := 0) (ci := 9) hK hP rfl rfl, sm_pre hP hK hN _⟩ rfl rfl hl.1 rfl (lv_room (Nat.le_of_ble_eq_true rfl)) d_M_open_31 ⟨Nat.le_of_ble_eq_true rfl, Nat.le_of_ble_eq_true rfl⟩) hS (fun _ h_ => h_) (fun H locs hP hS => ?_)
      refine lv_istore_n (lv' := [(2, .int (q_free x1.toNatClampNeg σ)), (0, .ref (α 0)), (1, .int x1)]) hx hb d_M_open_34 rfl hl (by decide) rfl (fun ls hl => ?_)
      refine lv_iload_n hx hb d_M_open_35 rfl (lv_at hl 0 rfl) ?_
      refine lv_if_ge (tgt := 45) hx hb d_M_open_36 (by decide) (fun c3 => ?_) (fun c3 => ?_)
      · skip
        have zc3 := q_free_n (xb_nl c3)
        refine lv_aload_n hx hb d_M_open_45 rfl (lv_at hl 1 rfl) ?_
        refine lv_iconst (v := 0) hx hb d_M_open_46 (by decide) ?_
        refine sm_pi (x := (0 : Int32)) (ty := .int) hx hb ht hown hK hP 0 (by decide) (ht _ xw952) (fun _ h_ => h_) hD hS rfl (by decide +kernel) rfl rfl sm_f_0 d_M_open_47 (fun H locs hP hS => ?_)
        refine lv_aload_n hx hb d_M_open_50 rfl (lv_at hl 1 rfl) ?_
        refine lv_iconst (v := 3) hx hb d_M_open_51 (by decide) ?_
        refine lv_iload_n hx hb d_M_open_52 rfl (lv_at hl 2 rfl) ?_
        refine lv_imul hx hb d_M_open_53 ?_
        refine lv_iload_n hx hb d_M_open_54 rfl (lv_at hl 0 rfl) ?_
        refine lv_iadd hx hb d_M_open_55 ?_
        refine sm_cv (va_runV (As := [.int (((3 : Int32) * x1) + (q_free x1.toNatClampNeg σ))]) (rest := []) ⟨hx, hb, hml, hown, hts⟩ (c_M_release l D α κ hα (xb_si σ 0 0 (0 : Int32)) (((3 : Int32) * x1) + (q_free x1.toNatClampNeg σ)) ((3 * x1.toNatClampNeg) + (q_free x1.toNatClampNeg σ).toNatClampNeg) (xb_na (xb_nm (xb_lit (x := (3 : Int32)) 3 rfl) zc1.1) zc3.1) (by omega)) (cwV 1 hts (xa_V xw1184 xw1186 xs20 xw11 xw1187) rfl rfl rfl (by decide +kernel) ⟨Nat.le_of_ble_eq_true rfl, Nat.le_of_ble_eq_true rfl⟩) ⟨sm_blind, va_recv (q0 := 0) (ci := 9) hK hP rfl rfl, sm_pre hP hK hN _⟩ rfl rfl hl.1 rfl (lv_room (Nat.le_of_ble_eq_true rfl)) d_M_open_56 ⟨Nat.le_of_ble_eq_true rfl, Nat.le_of_ble_eq_true rfl⟩) hS (fun _ h_ => h_) (fun H locs hP hS => ?_)
        obtain ⟨τ1, hτ1⟩ : ∃ t_, t_ = (q_release ((3 * x1.toNatClampNeg) + (q_free x1.toNatClampNeg σ).toNatClampNeg) (xb_si σ 0 0 (0 : Int32))) := ⟨_, rfl⟩
        rw [← hτ1] at hP
        have okτ1 : sm_ok τ1 := by rw [hτ1]; exact (ok_q_release ((3 * x1.toNatClampNeg) + (q_free x1.toNatClampNeg σ).toNatClampNeg) (by omega) (mk_si ok (by decide)))
        refine lv_aload_n hx hb d_M_open_59 rfl (lv_at hl 1 rfl) ?_
        refine sm_g (v := .ref (α 28)) hx hb ht hown hK hP 30 (by decide) (ht _ xw982) (fun _ h_ => h_) rfl d_M_open_60 ?_
        refine lv_iconst (v := 3) hx hb d_M_open_63 (by decide) ?_
        refine lv_iload_n hx hb d_M_open_64 rfl (lv_at hl 2 rfl) ?_
        refine lv_imul hx hb d_M_open_65 ?_
        refine lv_iload_n hx hb d_M_open_66 rfl (lv_at hl 0 rfl) ?_
        refine lv_iadd hx hb d_M_open_67 ?_
        refine lv_iconst (v := 1) hx hb d_M_open_68 (by decide) ?_
        refine sm_paI (L := 6) (n := ((3 * x1.toNatClampNeg) + (q_free x1.toNatClampNeg σ).toNatClampNeg)) (x := (1 : Int32)) hx hb hK hP 28 27 rfl rfl hD hS (xb_in (xb_na (xb_nm (xb_lit (x := (3 : Int32)) 3 rfl) zc1.1) zc3.1) (by omega) (by decide)) (xb_cl (xb_na (xb_nm (xb_lit (x := (3 : Int32)) 3 rfl) zc1.1) zc3.1) (by omega)) sm_s_28 d_M_open_69 (fun H locs hP hS => ?_)
        refine lv_aload_n hx hb d_M_open_70 rfl (lv_at hl 1 rfl) ?_
        refine sm_g (v := .ref (α 31)) hx hb ht hown hK hP 33 (by decide) (ht _ xw985) (fun _ h_ => h_) rfl d_M_open_71 ?_
        refine lv_iconst (v := 3) hx hb d_M_open_74 (by decide) ?_
        refine lv_iload_n hx hb d_M_open_75 rfl (lv_at hl 2 rfl) ?_
        refine lv_imul hx hb d_M_open_76 ?_
        refine lv_iload_n hx hb d_M_open_77 rfl (lv_at hl 0 rfl) ?_
        refine lv_iadd hx hb d_M_open_78 ?_
        refine lv_bipush (v := 24) hx hb d_M_open_79 (by decide) ?_
        refine sm_paI (L := 6) (n := ((3 * x1.toNatClampNeg) + (q_free x1.toNatClampNeg σ).toNatClampNeg)) (x := (24 : Int32)) hx hb hK hP 31 30 rfl rfl hD hS (xb_in (xb_na (xb_nm (xb_lit (x := (3 : Int32)) 3 rfl) zc1.1) zc3.1) (by omega) (by decide)) (xb_cl (xb_na (xb_nm (xb_lit (x := (3 : Int32)) 3 rfl) zc1.1) zc3.1) (by omega)) sm_s_31 d_M_open_81 (fun H locs hP hS => ?_)
        refine lv_aload_n hx hb d_M_open_82 rfl (lv_at hl 1 rfl) ?_
        refine lv_iload_n hx hb d_M_open_83 rfl (lv_at hl 2 rfl) ?_
        refine lv_bipush (v := 90) hx hb d_M_open_84 (by decide) ?_
        refine lv_iload_n hx hb d_M_open_86 rfl (lv_at hl 0 rfl) ?_
        refine lv_i2l (v := (q_free x1.toNatClampNeg σ).toInt64) hx hb d_M_open_87 (by rfl) ?_
        refine lv_ldc2 hx hb hown (ht _ xw1188) d_M_open_88 ?_
        refine lv_lconst (v := 0) hx hb d_M_open_91 (by decide) ?_
        refine lv_lconst (v := 0) hx hb d_M_open_92 (by decide) ?_
        refine sm_cv (va_runV (As := [.int x1, .int (90 : Int32), .long ((q_free x1.toNatClampNeg σ).toInt64), .long (24 : Int64), .long (0 : Int64), .long (0 : Int64)]) (rest := []) ⟨hx, hb, hml, hown, hts⟩ (c_M_send l D α κ hα (xb_si (xb_si τ1 28 ((3 * x1.toNatClampNeg) + (q_free x1.toNatClampNeg σ).toNatClampNeg) (1 : Int32)) 31 ((3 * x1.toNatClampNeg) + (q_free x1.toNatClampNeg σ).toNatClampNeg) (24 : Int32)) x1 x1.toNatClampNeg zc1.1 (by omega) (90 : Int32) ((q_free x1.toNatClampNeg σ).toInt64) (24 : Int64) (0 : Int64) (0 : Int64) (mk_room (mk_si okτ1 (by decide)) (by first | (subst hτ1; exact q_release_0) | (subst hτ2; exact q_release_0) | (subst hτ3; exact q_release_0) | (subst hτ4; exact q_release_0) | (subst hτ5; exact q_release_0) | (subst hτ6; exact q_release_0) | exact q_release_0))) (cwV 6 hts (xa_V xw1084 xw1086 xs6 xw11 xw1087) rfl rfl rfl (by decide +kernel) ⟨Nat.le_of_ble_eq_true rfl, Nat.le_of_ble_eq_true rfl⟩) ⟨sm_blind, va_recv (q0 := 0) (ci := 9) hK hP rfl rfl, sm_pre hP hK hN _⟩ rfl rfl hl.1 rfl (lv_room (Nat.le_of_ble_eq_true rfl)) d_M_open_93 ⟨Nat.le_of_ble_eq_true rfl, Nat.le_of_ble_eq_true rfl⟩) hS (fun _ h_ => h_) (fun H locs hP hS => ?_)
        obtain ⟨τ2, hτ2⟩ : ∃ t_, t_ = (q_send x1.toNatClampNeg (90 : Int32) ((q_free x1.toNatClampNeg σ).toInt64) (24 : Int64) (0 : Int64) (0 : Int64) (xb_si (xb_si τ1 28 ((3 * x1.toNatClampNeg) + (q_free x1.toNatClampNeg σ).toNatClampNeg) (1 : Int32)) 31 ((3 * x1.toNatClampNeg) + (q_free x1.toNatClampNeg σ).toNatClampNeg) (24 : Int32))) := ⟨_, rfl⟩
        rw [← hτ2] at hP
        have okτ2 : sm_ok τ2 := by rw [hτ2]; exact (ok_q_send x1.toNatClampNeg (90 : Int32) ((q_free x1.toNatClampNeg σ).toInt64) (24 : Int64) (0 : Int64) (0 : Int64) (by omega) (mk_room (mk_si okτ1 (by decide)) (by first | (subst hτ1; exact q_release_0) | (subst hτ2; exact q_release_0) | (subst hτ3; exact q_release_0) | (subst hτ4; exact q_release_0) | (subst hτ5; exact q_release_0) | (subst hτ6; exact q_release_0) | exact q_release_0)))
        refine lv_iload_n hx hb d_M_open_96 rfl (lv_at hl 0 rfl) ?_
        exact W.iret (v := (q_free x1.toNatClampNeg σ)) hx hb hr (fun t ht_ hW => ⟨⟨(q_free x1.toNatClampNeg σ), τ2, rfl, ⟨congrArg Prod.fst (((by subst hτ2; subst hτ1; exact ((if_neg c1).trans ((if_pos c2).trans ((if_pos c3)))).symm)) : ((q_free x1.toNatClampNeg σ), τ2) = q_open x1 σ), congrArg Prod.snd (((by subst hτ2; subst hτ1; exact ((if_neg c1).trans ((if_pos c2).trans ((if_pos c3)))).symm)) : ((q_free x1.toNatClampNeg σ), τ2) = q_open x1 σ)⟩, by rw [sm_B, ht_]; exact hP⟩, hS.F ht_⟩) hS.2.2 d_M_open_97
      · skip
        refine lv_aload_n hx hb d_M_open_39 rfl (lv_at hl 1 rfl) ?_
        refine lv_iconst (v := 3) hx hb d_M_open_40 (by decide) ?_
        refine sm_ci (va_runV (As := [.int (3 : Int32)]) (rest := []) ⟨hx, hb, hml, hown, hts⟩ (c_M_raise l D α κ hα σ (3 : Int32)) (cwV 1 hts (xa_V xw1076 xw1078 xs4 xw11 xw1079) rfl rfl rfl (by decide +kernel) ⟨Nat.le_of_ble_eq_true rfl, Nat.le_of_ble_eq_true rfl⟩) ⟨sm_blind, va_recv (q0 := 0) (ci := 9) hK hP rfl rfl, sm_pre hP hK hN _⟩ rfl rfl hl.1 rfl (lv_room (Nat.le_of_ble_eq_true rfl)) d_M_open_41 ⟨Nat.le_of_ble_eq_true rfl, Nat.le_of_ble_eq_true rfl⟩) hS (fun _ h_ => h_) (fun H locs hP hS => ?_)
        obtain ⟨τ3, hτ3⟩ : ∃ t_, t_ = (q_raise (3 : Int32) σ).2 := ⟨_, rfl⟩
        rw [← hτ3] at hP
        have okτ3 : sm_ok τ3 := by rw [hτ3]; exact (ok_q_raise (3 : Int32)  ok)
        obtain ⟨ρ3, hρ3⟩ : ∃ r_, r_ = (q_raise (3 : Int32) σ).1 := ⟨_, rfl⟩
        refine xb_ti (y := ρ3) hρ3.symm ?_
        exact W.iret (v := ρ3) hx hb hr (fun t ht_ hW => ⟨⟨ρ3, τ3, rfl, ⟨congrArg Prod.fst (((by subst hρ3; subst hτ3; exact ((if_neg c1).trans ((if_pos c2).trans ((if_neg c3)))).symm)) : (ρ3, τ3) = q_open x1 σ), congrArg Prod.snd (((by subst hρ3; subst hτ3; exact ((if_neg c1).trans ((if_pos c2).trans ((if_neg c3)))).symm)) : (ρ3, τ3) = q_open x1 σ)⟩, by rw [sm_B, ht_]; exact hP⟩, hS.F ht_⟩) hS.2.2 d_M_open_44
    · skip
      refine lv_aload_n hx hb d_M_open_23 rfl (lv_at hl 0 rfl) ?_
      refine lv_iconst (v := 2) hx hb d_M_open_24 (by decide) ?_
      refine sm_ci (va_runV (As := [.int (2 : Int32)]) (rest := []) ⟨hx, hb, hml, hown, hts⟩ (c_M_raise l D α κ hα σ (2 : Int32)) (cwV 1 hts (xa_V xw1076 xw1078 xs4 xw11 xw1079) rfl rfl rfl (by decide +kernel) ⟨Nat.le_of_ble_eq_true rfl, Nat.le_of_ble_eq_true rfl⟩) ⟨sm_blind, va_recv (q0 := 0) (ci := 9) hK hP rfl rfl, sm_pre hP hK hN _⟩ rfl rfl hl.1 rfl (lv_room (Nat.le_of_ble_eq_true rfl)) d_M_open_25 ⟨Nat.le_of_ble_eq_true rfl, Nat.le_of_ble_eq_true rfl⟩) hS (fun _ h_ => h_) (fun H locs hP hS => ?_)
      obtain ⟨τ4, hτ4⟩ : ∃ t_, t_ = (q_raise (2 : Int32) σ).2 := ⟨_, rfl⟩
      rw [← hτ4] at hP
      have okτ4 : sm_ok τ4 := by rw [hτ4]; exact (ok_q_raise (2 : Int32)  ok)
      obtain ⟨ρ4, hρ4⟩ : ∃ r_, r_ = (q_raise (2 : Int32) σ).1 := ⟨_, rfl⟩
      refine xb_ti (y := ρ4) hρ4.symm ?_
      exact W.iret (v := ρ4) hx hb hr (fun t ht_ hW => ⟨⟨ρ4, τ4, rfl, ⟨congrArg Prod.fst (((by subst hρ4; subst hτ4; exact ((if_neg c1).trans ((if_neg c2))).symm)) : (ρ4, τ4) = q_open x1 σ), congrArg Prod.snd (((by subst hρ4; subst hτ4; exact ((if_neg c1).trans ((if_neg c2))).symm)) : (ρ4, τ4) = q_open x1 σ)⟩, by rw [sm_B, ht_]; exact hP⟩, hS.F ht_⟩) hS.2.2 d_M_open_28
  · skip
    refine lv_aload_n hx hb d_M_open_7 rfl (lv_at hl 0 rfl) ?_
    refine lv_iconst (v := 1) hx hb d_M_open_8 (by decide) ?_
    refine sm_ci (va_runV (As := [.int (1 : Int32)]) (rest := []) ⟨hx, hb, hml, hown, hts⟩ (c_M_raise l D α κ hα σ (1 : Int32)) (cwV 1 hts (xa_V xw1076 xw1078 xs4 xw11 xw1079) rfl rfl rfl (by decide +kernel) ⟨Nat.le_of_ble_eq_true rfl, Nat.le_of_ble_eq_true rfl⟩) ⟨sm_blind, va_recv (q0 := 0) (ci := 9) hK hP rfl rfl, sm_pre hP hK hN _⟩ rfl rfl hl.1 rfl (lv_room (Nat.le_of_ble_eq_true rfl)) d_M_open_9 ⟨Nat.le_of_ble_eq_true rfl, Nat.le_of_ble_eq_true rfl⟩) hS (fun _ h_ => h_) (fun H locs hP hS => ?_)
    obtain ⟨τ5, hτ5⟩ : ∃ t_, t_ = (q_raise (1 : Int32) σ).2 := ⟨_, rfl⟩
    rw [← hτ5] at hP
    have okτ5 : sm_ok τ5 := by rw [hτ5]; exact (ok_q_raise (1 : Int32)  ok)
    obtain ⟨ρ5, hρ5⟩ : ∃ r_, r_ = (q_raise (1 : Int32) σ).1 := ⟨_, rfl⟩
    refine xb_ti (y := ρ5) hρ5.symm ?_
    exact W.iret (v := ρ5) hx hb hr (fun t ht_ hW => ⟨⟨ρ5, τ5, rfl, ⟨congrArg Prod.fst (((by subst hρ5; subst hτ5; exact ((if_pos c1)).symm)) : (ρ5, τ5) = q_open x1 σ), congrArg Prod.snd (((by subst hρ5; subst hτ5; exact ((if_pos c1)).symm)) : (ρ5, τ5) = q_open x1 σ)⟩, by rw [sm_B, ht_]; exact hP⟩, hS.F ht_⟩) hS.2.2 d_M_open_12
theorem ok_q_open {σ : xb_St} (x1 : Int32)  (ok : sm_ok σ) : sm_ok (q_open x1 σ).2 := by
  unfold q_open
  by_cases c1 : (g_isEnd x1) = 0
  · rw [if_pos c1]
    exact (ok_q_raise (1 : Int32)  ok)
  · rw [if_neg c1]
    have zc1 := sm_end c1
    by_cases c2 : (σ.1 4 x1.toNatClampNeg) = (4 : Int32)
    · rw [if_pos c2]
      by_cases c3 : 0 ≤ (q_free x1.toNatClampNeg σ)
      · rw [if_pos c3]
        have zc3 := q_free_n (xb_nl c3)
        exact (ok_q_send x1.toNatClampNeg (90 : Int32) ((q_free x1.toNatClampNeg σ).toInt64) (24 : Int64) (0 : Int64) (0 : Int64) (by omega) (mk_room (mk_si (ok_q_release ((3 * x1.toNatClampNeg) + (q_free x1.toNatClampNeg σ).toNatClampNeg) (by omega) (mk_si ok (by decide))) (by decide)) (by first | (subst hτ1; exact q_release_0) | (subst hτ2; exact q_release_0) | (subst hτ3; exact q_release_0) | (subst hτ4; exact q_release_0) | (subst hτ5; exact q_release_0) | (subst hτ6; exact q_release_0) | exact q_release_0)))
      · rw [if_neg c3]
        exact (ok_q_raise (3 : Int32)  ok)
    · rw [if_neg c2]
      exact (ok_q_raise (2 : Int32)  ok)
abbrev b_M_close : ByteArray := prog_12_method_37_code
def y_M_close : MethodName := ⟨"SecurePairModel", "close", "(II)I"⟩
abbrev w_M_close : List Cond := .code y_M_close b_M_close 5 (some .int) :: xa
theorem d_M_close_0 : decode b_M_close 0 = .ok (.iload_n 1, 1) := by decide +kernel
theorem d_M_close_1 : decode b_M_close 1 = .ok (.iload_n 2, 1) := by decide +kernel
theorem d_M_close_2 : decode b_M_close 2 = .ok (.invokestatic 260, 3) := by decide +kernel
theorem d_M_close_5 : decode b_M_close 5 = .ok (.ifCond .ne 9, 3) := by decide +kernel
theorem d_M_close_8 : decode b_M_close 8 = .ok (.aload_n 0, 1) := by decide +kernel
theorem d_M_close_9 : decode b_M_close 9 = .ok (.iconst 1, 1) := by decide +kernel
theorem d_M_close_10 : decode b_M_close 10 = .ok (.invokevirtual 173, 3) := by decide +kernel
theorem d_M_close_13 : decode b_M_close 13 = .ok (.ireturn, 1) := by decide +kernel
theorem d_M_close_14 : decode b_M_close 14 = .ok (.iconst 3, 1) := by decide +kernel
theorem d_M_close_15 : decode b_M_close 15 = .ok (.iload_n 1, 1) := by decide +kernel
theorem d_M_close_16 : decode b_M_close 16 = .ok (.imul, 1) := by decide +kernel
theorem d_M_close_17 : decode b_M_close 17 = .ok (.iload_n 2, 1) := by decide +kernel
theorem d_M_close_18 : decode b_M_close 18 = .ok (.iadd, 1) := by decide +kernel
theorem d_M_close_19 : decode b_M_close 19 = .ok (.istore_n 3, 1) := by decide +kernel
theorem d_M_close_20 : decode b_M_close 20 = .ok (.aload_n 0, 1) := by decide +kernel
theorem d_M_close_21 : decode b_M_close 21 = .ok (.getfield 25, 3) := by decide +kernel
theorem d_M_close_24 : decode b_M_close 24 = .ok (.iload_n 1, 1) := by decide +kernel
theorem d_M_close_25 : decode b_M_close 25 = .ok (.iaload, 1) := by decide +kernel
theorem d_M_close_26 : decode b_M_close 26 = .ok (.iconst 4, 1) := by decide +kernel
theorem d_M_close_27 : decode b_M_close 27 = .ok (.if_icmp .ne 13, 3) := by decide +kernel
theorem d_M_close_30 : decode b_M_close 30 = .ok (.aload_n 0, 1) := by decide +kernel
theorem d_M_close_31 : decode b_M_close 31 = .ok (.getfield 99, 3) := by decide +kernel
theorem d_M_close_34 : decode b_M_close 34 = .ok (.iload_n 3, 1) := by decide +kernel
theorem d_M_close_35 : decode b_M_close 35 = .ok (.iaload, 1) := by decide +kernel
theorem d_M_close_36 : decode b_M_close 36 = .ok (.iconst 2, 1) := by decide +kernel
theorem d_M_close_37 : decode b_M_close 37 = .ok (.if_icmp .eq 9, 3) := by decide +kernel
theorem d_M_close_40 : decode b_M_close 40 = .ok (.aload_n 0, 1) := by decide +kernel
theorem d_M_close_41 : decode b_M_close 41 = .ok (.iconst 2, 1) := by decide +kernel
theorem d_M_close_42 : decode b_M_close 42 = .ok (.invokevirtual 173, 3) := by decide +kernel
theorem d_M_close_45 : decode b_M_close 45 = .ok (.ireturn, 1) := by decide +kernel
theorem d_M_close_46 : decode b_M_close 46 = .ok (.aload_n 0, 1) := by decide +kernel
theorem d_M_close_47 : decode b_M_close 47 = .ok (.iconst 0, 1) := by decide +kernel
theorem d_M_close_48 : decode b_M_close 48 = .ok (.putfield 120, 3) := by decide +kernel
theorem d_M_close_51 : decode b_M_close 51 = .ok (.aload_n 0, 1) := by decide +kernel
theorem d_M_close_52 : decode b_M_close 52 = .ok (.iload_n 1, 1) := by decide +kernel
theorem d_M_close_53 : decode b_M_close 53 = .ok (.bipush 97, 2) := by decide +kernel
theorem d_M_close_55 : decode b_M_close 55 = .ok (.aload_n 0, 1) := by decide +kernel
theorem d_M_close_56 : decode b_M_close 56 = .ok (.getfield 102, 3) := by decide +kernel
theorem d_M_close_59 : decode b_M_close 59 = .ok (.iload_n 3, 1) := by decide +kernel
theorem d_M_close_60 : decode b_M_close 60 = .ok (.laload, 1) := by decide +kernel
theorem d_M_close_61 : decode b_M_close 61 = .ok (.lconst 0, 1) := by decide +kernel
theorem d_M_close_62 : decode b_M_close 62 = .ok (.lconst 0, 1) := by decide +kernel
theorem d_M_close_63 : decode b_M_close 63 = .ok (.lconst 0, 1) := by decide +kernel
theorem d_M_close_64 : decode b_M_close 64 = .ok (.invokevirtual 165, 3) := by decide +kernel
theorem d_M_close_67 : decode b_M_close 67 = .ok (.aload_n 0, 1) := by decide +kernel
theorem d_M_close_68 : decode b_M_close 68 = .ok (.getfield 99, 3) := by decide +kernel
theorem d_M_close_71 : decode b_M_close 71 = .ok (.iload_n 3, 1) := by decide +kernel
theorem d_M_close_72 : decode b_M_close 72 = .ok (.iconst 3, 1) := by decide +kernel
theorem d_M_close_73 : decode b_M_close 73 = .ok (.iastore, 1) := by decide +kernel
theorem d_M_close_74 : decode b_M_close 74 = .ok (.aload_n 0, 1) := by decide +kernel
theorem d_M_close_75 : decode b_M_close 75 = .ok (.getfield 111, 3) := by decide +kernel
theorem d_M_close_78 : decode b_M_close 78 = .ok (.iload_n 3, 1) := by decide +kernel
theorem d_M_close_79 : decode b_M_close 79 = .ok (.iaload, 1) := by decide +kernel
theorem d_M_close_80 : decode b_M_close 80 = .ok (.istore 4, 2) := by decide +kernel
theorem d_M_close_82 : decode b_M_close 82 = .ok (.aload_n 0, 1) := by decide +kernel
theorem d_M_close_83 : decode b_M_close 83 = .ok (.getfield 111, 3) := by decide +kernel
theorem d_M_close_86 : decode b_M_close 86 = .ok (.iload_n 3, 1) := by decide +kernel
theorem d_M_close_87 : decode b_M_close 87 = .ok (.iconst 0, 1) := by decide +kernel
theorem d_M_close_88 : decode b_M_close 88 = .ok (.iastore, 1) := by decide +kernel
theorem d_M_close_89 : decode b_M_close 89 = .ok (.iload 4, 2) := by decide +kernel
theorem d_M_close_91 : decode b_M_close 91 = .ok (.ireturn, 1) := by decide +kernel
def q_close (x1 : Int32) (x2 : Int32) (σ : xb_St) : Int32 × xb_St := (if (g_isChannel x1 x2) = 0 then ((q_raise (1 : Int32) σ).1, (q_raise (1 : Int32) σ).2) else (if (σ.1 4 x1.toNatClampNeg) = (4 : Int32) then (if (σ.1 28 ((3 * x1.toNatClampNeg) + x2.toNatClampNeg)) = (2 : Int32) then (((q_send x1.toNatClampNeg (97 : Int32) (σ.2 29 ((3 * x1.toNatClampNeg) + x2.toNatClampNeg)) (0 : Int64) (0 : Int64) (0 : Int64) (xb_si σ 0 0 (0 : Int32))).1 32 ((3 * x1.toNatClampNeg) + x2.toNatClampNeg)), (xb_si (xb_si (q_send x1.toNatClampNeg (97 : Int32) (σ.2 29 ((3 * x1.toNatClampNeg) + x2.toNatClampNeg)) (0 : Int64) (0 : Int64) (0 : Int64) (xb_si σ 0 0 (0 : Int32))) 28 ((3 * x1.toNatClampNeg) + x2.toNatClampNeg) (3 : Int32)) 32 ((3 * x1.toNatClampNeg) + x2.toNatClampNeg) (0 : Int32))) else ((q_raise (2 : Int32) σ).1, (q_raise (2 : Int32) σ).2)) else ((q_raise (2 : Int32) σ).1, (q_raise (2 : Int32) σ).2)))
set_option maxHeartbeats 4000000 in
set_option maxRecDepth 100000 in
theorem c_M_close (l : Launch) (D : va_G) (α : Nat → Nat) (κ : Nat → ClassId) (hα : xb_inj α 35) (σ : xb_St) (x1 : Int32) (x2 : Int32) (ok : sm_ok σ) : Met l y_M_close w_M_close ({ frames := 3, cells := 0, slots := 0, locals := 92 }) (va_Pc ([.ref (α 0), .int x1, .int x2]) (sm_Pre D α κ σ)) (va_Qi (fun r (u : xb_St) => r = (q_close x1 x2 σ).1 ∧ u = (q_close x1 x2 σ).2) (sm_B D α κ) (xb_A α 35)) 0 0 (xb_A α 35) := by
  refine Met.ofW (cc := b_M_close) (maxL := 5) (ret := (some .int)) (by decide) rfl ?_
  intro p e s m args below meth c s₁ B_ hml hv
  obtain ⟨rfl, hP, hK, hN⟩ := hv
  have hx := B_.exec
  have hb := B_.bytes
  have hr := B_.returns
  have hts := atoms_spec (ws := w_M_close) B_.pre
  have ht : ∀ w ∈ xa, w.before _ s = true := fun w h => hts w (List.mem_cons_of_mem _ h)
  have hown : s.vm.findClass "SecurePairModel" = some m.cls := findClass_of_methodNamed B_.named
  have hlocks := B_.notSynchronized
  have hD := sm_D hα κ
  have hS : va_S (xb_A α 35) s.heap s.heap [] := va_S.rf
  have hl := lv_entry ([.ref (α 0), .int x1, .int x2]) (n := 5) (Nat.le_of_ble_eq_true rfl)
  rw [lg_entry_eq]
  generalize (lg_sl ([.ref (α 0), .int x1, .int x2]) ++ List.replicate (5 - (lg_sl ([.ref (α 0), .int x1, .int x2])).length) Slot.unset).toArray = ls at hl ⊢
  have hl : lv_has ls 5 [(0, .ref (α 0)), (1, .int x1), (2, .int x2)] := hl
  refine lv_iload_n hx hb d_M_close_0 rfl (lv_at hl 1 rfl) ?_
  refine lv_iload_n hx hb d_M_close_1 rfl (lv_at hl 2 rfl) ?_
  refine vp_callSi (W.runS (As := [.int x1, .int x2]) (rest := []) ⟨hx, hb, hml, hown, hts⟩ (c_M_isChannel l x1 x2) (cwS 2 hts (xa_S xw1203 xw1204 xw11 xw1205) rfl rfl rfl (by decide +kernel) ⟨Nat.le_of_ble_eq_true rfl, Nat.le_of_ble_eq_true rfl⟩) preEq rfl rfl hl.1 rfl (lv_room (Nat.le_of_ble_eq_true rfl)) d_M_close_2 ⟨Nat.le_of_ble_eq_true rfl, Nat.le_of_ble_eq_true rfl⟩) (fun r_ e_ => ?_)
  subst e_
  refine lv_if_ne (tgt := 14) hx hb d_M_close_5 (by decide) (fun c1 => ?_) (fun c1 => ?_)
  · skip
    have zc1 := sm_chan c1
    refine lv_iconst (v := 3) hx hb d_M_close_14 (by decide) ?_
    refine lv_iload_n hx hb d_M_close_15 rfl (lv_at hl 1 rfl) ?_
    refine lv_imul hx hb d_M_close_16 ?_
    refine lv_iload_n hx hb d_M_close_17 rfl (lv_at hl 2 rfl) ?_
    refine lv_iadd hx hb d_M_close_18 ?_
    refine lv_istore_n (lv' := [(3, .int (((3 : Int32) * x1) + x2)), (0, .ref (α 0)), (1, .int x1), (2, .int x2)]) hx hb d_M_close_19 rfl hl (by decide) rfl (fun ls hl => ?_)
    refine lv_aload_n hx hb d_M_close_20 rfl (lv_at hl 1 rfl) ?_
    refine sm_g (v := .ref (α 4)) hx hb ht hown hK hP 6 (by decide) (ht _ xw958) (fun _ h_ => h_) rfl d_M_close_21 ?_
    refine lv_iload_n hx hb d_M_close_24 rfl (lv_at hl 2 rfl) ?_
    refine sm_gaI (L := 2) (n := x1.toNatClampNeg) (v := (σ.1 4 x1.toNatClampNeg)) hx hb hK hP 4 3 rfl rfl (xb_in zc1.1.1 (by omega) (by decide)) (xb_cl zc1.1.1 (by omega)) rfl d_M_close_25 ?_
    refine lv_iconst (v := 4) hx hb d_M_close_26 (by decide) ?_
    refine lv_icmp_ne (tgt := 40) hx hb d_M_close_27 (by decide) (fun c2 => ?_) (fun c2 => ?_)
    · skip
      refine lv_aload_n hx hb d_M_close_40 rfl (lv_at hl 1 rfl) ?_
      refine lv_iconst (v := 2) hx hb d_M_close_41 (by decide) ?_
      refine sm_ci (va_runV (As := [.int (2 : Int32)]) (rest := []) ⟨hx, hb, hml, hown, hts⟩ (c_M_raise l D α κ hα σ (2 : Int32)) (cwV 1 hts (xa_V xw1076 xw1078 xs4 xw11 xw1079) rfl rfl rfl (by decide +kernel) ⟨Nat.le_of_ble_eq_true rfl, Nat.le_of_ble_eq_true rfl⟩) ⟨sm_blind, va_recv (q0 := 0) (ci := 9) hK hP rfl rfl, sm_pre hP hK hN _⟩ rfl rfl hl.1 rfl (lv_room (Nat.le_of_ble_eq_true rfl)) d_M_close_42 ⟨Nat.le_of_ble_eq_true rfl, Nat.le_of_ble_eq_true rfl⟩) hS (fun _ h_ => h_) (fun H locs hP hS => ?_)
      obtain ⟨τ1, hτ1⟩ : ∃ t_, t_ = (q_raise (2 : Int32) σ).2 := ⟨_, rfl⟩
      rw [← hτ1] at hP
      have okτ1 : sm_ok τ1 := by rw [hτ1]; exact (ok_q_raise (2 : Int32)  ok)
      obtain ⟨ρ1, hρ1⟩ : ∃ r_, r_ = (q_raise (2 : Int32) σ).1 := ⟨_, rfl⟩
      refine xb_ti (y := ρ1) hρ1.symm ?_
      exact W.iret (v := ρ1) hx hb hr (fun t ht_ hW => ⟨⟨ρ1, τ1, rfl, ⟨congrArg Prod.fst (((by subst hρ1; subst hτ1; exact ((if_neg c1).trans ((if_neg c2))).symm)) : (ρ1, τ1) = q_close x1 x2 σ), congrArg Prod.snd (((by subst hρ1; subst hτ1; exact ((if_neg c1).trans ((if_neg c2))).symm)) : (ρ1, τ1) = q_close x1 x2 σ)⟩, by rw [sm_B, ht_]; exact hP⟩, hS.F ht_⟩) hS.2.2 d_M_close_45
    · skip
      refine lv_aload_n hx hb d_M_close_30 rfl (lv_at hl 1 rfl) ?_
      refine sm_g (v := .ref (α 28)) hx hb ht hown hK hP 30 (by decide) (ht _ xw982) (fun _ h_ => h_) rfl d_M_close_31 ?_
      refine lv_iload_n hx hb d_M_close_34 rfl (lv_at hl 0 rfl) ?_
      refine sm_gaI (L := 6) (n := ((3 * x1.toNatClampNeg) + x2.toNatClampNeg)) (v := (σ.1 28 ((3 * x1.toNatClampNeg) + x2.toNatClampNeg))) hx hb hK hP 28 27 rfl rfl (xb_in (xb_na (xb_nm (xb_lit (x := (3 : Int32)) 3 rfl) zc1.1.1) zc1.2.1) (by omega) (by decide)) (xb_cl (xb_na (xb_nm (xb_lit (x := (3 : Int32)) 3 rfl) zc1.1.1) zc1.2.1) (by omega)) rfl d_M_close_35 ?_
      refine lv_iconst (v := 2) hx hb d_M_close_36 (by decide) ?_
      refine lv_icmp_eq (tgt := 46) hx hb d_M_close_37 (by decide) (fun c3 => ?_) (fun c3 => ?_)
      · skip
        refine lv_aload_n hx hb d_M_close_46 rfl (lv_at hl 1 rfl) ?_
        refine lv_iconst (v := 0) hx hb d_M_close_47 (by decide) ?_
        refine sm_pi (x := (0 : Int32)) (ty := .int) hx hb ht hown hK hP 0 (by decide) (ht _ xw952) (fun _ h_ => h_) hD hS rfl (by decide +kernel) rfl rfl sm_f_0 d_M_close_48 (fun H locs hP hS => ?_)
        refine lv_aload_n hx hb d_M_close_51 rfl (lv_at hl 1 rfl) ?_
        refine lv_iload_n hx hb d_M_close_52 rfl (lv_at hl 2 rfl) ?_
        refine lv_bipush (v := 97) hx hb d_M_close_53 (by decide) ?_
        refine lv_aload_n hx hb d_M_close_55 rfl (lv_at hl 1 rfl) ?_
        refine sm_g (v := .ref (α 29)) hx hb ht hown hK hP 31 (by decide) (ht _ xw983) (fun _ h_ => h_) rfl d_M_close_56 ?_
        refine lv_iload_n hx hb d_M_close_59 rfl (lv_at hl 0 rfl) ?_
        refine sm_gaJ (L := 6) (n := ((3 * x1.toNatClampNeg) + x2.toNatClampNeg)) (v := (σ.2 29 ((3 * x1.toNatClampNeg) + x2.toNatClampNeg))) hx hb hK hP 29 28 rfl rfl (xb_in (xb_na (xb_nm (xb_lit (x := (3 : Int32)) 3 rfl) zc1.1.1) zc1.2.1) (by omega) (by decide)) (xb_cl (xb_na (xb_nm (xb_lit (x := (3 : Int32)) 3 rfl) zc1.1.1) zc1.2.1) (by omega)) xb_l_i d_M_close_60 ?_
        refine lv_lconst (v := 0) hx hb d_M_close_61 (by decide) ?_
        refine lv_lconst (v := 0) hx hb d_M_close_62 (by decide) ?_
        refine lv_lconst (v := 0) hx hb d_M_close_63 (by decide) ?_
        refine sm_cv (va_runV (As := [.int x1, .int (97 : Int32), .long (σ.2 29 ((3 * x1.toNatClampNeg) + x2.toNatClampNeg)), .long (0 : Int64), .long (0 : Int64), .long (0 : Int64)]) (rest := []) ⟨hx, hb, hml, hown, hts⟩ (c_M_send l D α κ hα (xb_si σ 0 0 (0 : Int32)) x1 x1.toNatClampNeg zc1.1.1 (by omega) (97 : Int32) (σ.2 29 ((3 * x1.toNatClampNeg) + x2.toNatClampNeg)) (0 : Int64) (0 : Int64) (0 : Int64) (mk_si ok (by decide))) (cwV 6 hts (xa_V xw1084 xw1086 xs6 xw11 xw1087) rfl rfl rfl (by decide +kernel) ⟨Nat.le_of_ble_eq_true rfl, Nat.le_of_ble_eq_true rfl⟩) ⟨sm_blind, va_recv (q0 := 0) (ci := 9) hK hP rfl rfl, sm_pre hP hK hN _⟩ rfl rfl hl.1 rfl (lv_room (Nat.le_of_ble_eq_true rfl)) d_M_close_64 ⟨Nat.le_of_ble_eq_true rfl, Nat.le_of_ble_eq_true rfl⟩) hS (fun _ h_ => h_) (fun H locs hP hS => ?_)
        obtain ⟨τ2, hτ2⟩ : ∃ t_, t_ = (q_send x1.toNatClampNeg (97 : Int32) (σ.2 29 ((3 * x1.toNatClampNeg) + x2.toNatClampNeg)) (0 : Int64) (0 : Int64) (0 : Int64) (xb_si σ 0 0 (0 : Int32))) := ⟨_, rfl⟩
        rw [← hτ2] at hP
        have okτ2 : sm_ok τ2 := by rw [hτ2]; exact (ok_q_send x1.toNatClampNeg (97 : Int32) (σ.2 29 ((3 * x1.toNatClampNeg) + x2.toNatClampNeg)) (0 : Int64) (0 : Int64) (0 : Int64) (by omega) (mk_si ok (by decide)))
        refine lv_aload_n hx hb d_M_close_67 rfl (lv_at hl 1 rfl) ?_
        refine sm_g (v := .ref (α 28)) hx hb ht hown hK hP 30 (by decide) (ht _ xw982) (fun _ h_ => h_) rfl d_M_close_68 ?_
        refine lv_iload_n hx hb d_M_close_71 rfl (lv_at hl 0 rfl) ?_
        refine lv_iconst (v := 3) hx hb d_M_close_72 (by decide) ?_
        refine sm_paI (L := 6) (n := ((3 * x1.toNatClampNeg) + x2.toNatClampNeg)) (x := (3 : Int32)) hx hb hK hP 28 27 rfl rfl hD hS (xb_in (xb_na (xb_nm (xb_lit (x := (3 : Int32)) 3 rfl) zc1.1.1) zc1.2.1) (by omega) (by decide)) (xb_cl (xb_na (xb_nm (xb_lit (x := (3 : Int32)) 3 rfl) zc1.1.1) zc1.2.1) (by omega)) sm_s_28 d_M_close_73 (fun H locs hP hS => ?_)
        refine lv_aload_n hx hb d_M_close_74 rfl (lv_at hl 1 rfl) ?_
        refine sm_g (v := .ref (α 32)) hx hb ht hown hK hP 34 (by decide) (ht _ xw986) (fun _ h_ => h_) rfl d_M_close_75 ?_
        refine lv_iload_n hx hb d_M_close_78 rfl (lv_at hl 0 rfl) ?_
        refine sm_gaI (L := 6) (n := ((3 * x1.toNatClampNeg) + x2.toNatClampNeg)) (v := (τ2.1 32 ((3 * x1.toNatClampNeg) + x2.toNatClampNeg))) hx hb hK hP 32 31 rfl rfl (xb_in (xb_na (xb_nm (xb_lit (x := (3 : Int32)) 3 rfl) zc1.1.1) zc1.2.1) (by omega) (by decide)) (xb_cl (xb_na (xb_nm (xb_lit (x := (3 : Int32)) 3 rfl) zc1.1.1) zc1.2.1) (by omega)) (xb_i_nk (by decide)) d_M_close_79 ?_
        refine lv_istore (lv' := [(4, .int (τ2.1 32 ((3 * x1.toNatClampNeg) + x2.toNatClampNeg))), (3, .int (((3 : Int32) * x1) + x2)), (0, .ref (α 0)), (1, .int x1), (2, .int x2)]) hx hb d_M_close_80 hl (by decide) rfl (fun ls hl => ?_)
        refine lv_aload_n hx hb d_M_close_82 rfl (lv_at hl 2 rfl) ?_
        refine sm_g (v := .ref (α 32)) hx hb ht hown hK hP 34 (by decide) (ht _ xw986) (fun _ h_ => h_) rfl d_M_close_83 ?_
        refine lv_iload_n hx hb d_M_close_86 rfl (lv_at hl 1 rfl) ?_
        refine lv_iconst (v := 0) hx hb d_M_close_87 (by decide) ?_
        refine sm_paI (L := 6) (n := ((3 * x1.toNatClampNeg) + x2.toNatClampNeg)) (x := (0 : Int32)) hx hb hK hP 32 31 rfl rfl hD hS (xb_in (xb_na (xb_nm (xb_lit (x := (3 : Int32)) 3 rfl) zc1.1.1) zc1.2.1) (by omega) (by decide)) (xb_cl (xb_na (xb_nm (xb_lit (x := (3 : Int32)) 3 rfl) zc1.1.1) zc1.2.1) (by omega)) sm_s_32 d_M_close_88 (fun H locs hP hS => ?_)
        refine lv_iload hx hb d_M_close_89 (lv_at hl 0 rfl) ?_
        exact W.iret (v := (τ2.1 32 ((3 * x1.toNatClampNeg) + x2.toNatClampNeg))) hx hb hr (fun t ht_ hW => ⟨⟨(τ2.1 32 ((3 * x1.toNatClampNeg) + x2.toNatClampNeg)), (xb_si (xb_si τ2 28 ((3 * x1.toNatClampNeg) + x2.toNatClampNeg) (3 : Int32)) 32 ((3 * x1.toNatClampNeg) + x2.toNatClampNeg) (0 : Int32)), rfl, ⟨congrArg Prod.fst (((by subst hτ2; exact ((if_neg c1).trans ((if_pos c2).trans ((if_pos c3)))).symm)) : ((τ2.1 32 ((3 * x1.toNatClampNeg) + x2.toNatClampNeg)), (xb_si (xb_si τ2 28 ((3 * x1.toNatClampNeg) + x2.toNatClampNeg) (3 : Int32)) 32 ((3 * x1.toNatClampNeg) + x2.toNatClampNeg) (0 : Int32))) = q_close x1 x2 σ), congrArg Prod.snd (((by subst hτ2; exact ((if_neg c1).trans ((if_pos c2).trans ((if_pos c3)))).symm)) : ((τ2.1 32 ((3 * x1.toNatClampNeg) + x2.toNatClampNeg)), (xb_si (xb_si τ2 28 ((3 * x1.toNatClampNeg) + x2.toNatClampNeg) (3 : Int32)) 32 ((3 * x1.toNatClampNeg) + x2.toNatClampNeg) (0 : Int32))) = q_close x1 x2 σ)⟩, by rw [sm_B, ht_]; exact hP⟩, hS.F ht_⟩) hS.2.2 d_M_close_91
      · skip
        refine lv_aload_n hx hb d_M_close_40 rfl (lv_at hl 1 rfl) ?_
        refine lv_iconst (v := 2) hx hb d_M_close_41 (by decide) ?_
        refine sm_ci (va_runV (As := [.int (2 : Int32)]) (rest := []) ⟨hx, hb, hml, hown, hts⟩ (c_M_raise l D α κ hα σ (2 : Int32)) (cwV 1 hts (xa_V xw1076 xw1078 xs4 xw11 xw1079) rfl rfl rfl (by decide +kernel) ⟨Nat.le_of_ble_eq_true rfl, Nat.le_of_ble_eq_true rfl⟩) ⟨sm_blind, va_recv (q0 := 0) (ci := 9) hK hP rfl rfl, sm_pre hP hK hN _⟩ rfl rfl hl.1 rfl (lv_room (Nat.le_of_ble_eq_true rfl)) d_M_close_42 ⟨Nat.le_of_ble_eq_true rfl, Nat.le_of_ble_eq_true rfl⟩) hS (fun _ h_ => h_) (fun H locs hP hS => ?_)
        obtain ⟨τ3, hτ3⟩ : ∃ t_, t_ = (q_raise (2 : Int32) σ).2 := ⟨_, rfl⟩
        rw [← hτ3] at hP
        have okτ3 : sm_ok τ3 := by rw [hτ3]; exact (ok_q_raise (2 : Int32)  ok)
        obtain ⟨ρ3, hρ3⟩ : ∃ r_, r_ = (q_raise (2 : Int32) σ).1 := ⟨_, rfl⟩
        refine xb_ti (y := ρ3) hρ3.symm ?_
        exact W.iret (v := ρ3) hx hb hr (fun t ht_ hW => ⟨⟨ρ3, τ3, rfl, ⟨congrArg Prod.fst (((by subst hρ3; subst hτ3; exact ((if_neg c1).trans ((if_pos c2).trans ((if_neg c3)))).symm)) : (ρ3, τ3) = q_close x1 x2 σ), congrArg Prod.snd (((by subst hρ3; subst hτ3; exact ((if_neg c1).trans ((if_pos c2).trans ((if_neg c3)))).symm)) : (ρ3, τ3) = q_close x1 x2 σ)⟩, by rw [sm_B, ht_]; exact hP⟩, hS.F ht_⟩) hS.2.2 d_M_close_45
  · skip
    refine lv_aload_n hx hb d_M_close_8 rfl (lv_at hl 0 rfl) ?_
    refine lv_iconst (v := 1) hx hb d_M_close_9 (by decide) ?_
    refine sm_ci (va_runV (As := [.int (1 : Int32)]) (rest := []) ⟨hx, hb, hml, hown, hts⟩ (c_M_raise l D α κ hα σ (1 : Int32)) (cwV 1 hts (xa_V xw1076 xw1078 xs4 xw11 xw1079) rfl rfl rfl (by decide +kernel) ⟨Nat.le_of_ble_eq_true rfl, Nat.le_of_ble_eq_true rfl⟩) ⟨sm_blind, va_recv (q0 := 0) (ci := 9) hK hP rfl rfl, sm_pre hP hK hN _⟩ rfl rfl hl.1 rfl (lv_room (Nat.le_of_ble_eq_true rfl)) d_M_close_10 ⟨Nat.le_of_ble_eq_true rfl, Nat.le_of_ble_eq_true rfl⟩) hS (fun _ h_ => h_) (fun H locs hP hS => ?_)
    obtain ⟨τ4, hτ4⟩ : ∃ t_, t_ = (q_raise (1 : Int32) σ).2 := ⟨_, rfl⟩
    rw [← hτ4] at hP
    have okτ4 : sm_ok τ4 := by rw [hτ4]; exact (ok_q_raise (1 : Int32)  ok)
    obtain ⟨ρ4, hρ4⟩ : ∃ r_, r_ = (q_raise (1 : Int32) σ).1 := ⟨_, rfl⟩
    refine xb_ti (y := ρ4) hρ4.symm ?_
    exact W.iret (v := ρ4) hx hb hr (fun t ht_ hW => ⟨⟨ρ4, τ4, rfl, ⟨congrArg Prod.fst (((by subst hρ4; subst hτ4; exact ((if_pos c1)).symm)) : (ρ4, τ4) = q_close x1 x2 σ), congrArg Prod.snd (((by subst hρ4; subst hτ4; exact ((if_pos c1)).symm)) : (ρ4, τ4) = q_close x1 x2 σ)⟩, by rw [sm_B, ht_]; exact hP⟩, hS.F ht_⟩) hS.2.2 d_M_close_13
theorem ok_q_close {σ : xb_St} (x1 : Int32) (x2 : Int32)  (ok : sm_ok σ) : sm_ok (q_close x1 x2 σ).2 := by
  unfold q_close
  by_cases c1 : (g_isChannel x1 x2) = 0
  · rw [if_pos c1]
    exact (ok_q_raise (1 : Int32)  ok)
  · rw [if_neg c1]
    have zc1 := sm_chan c1
    by_cases c2 : (σ.1 4 x1.toNatClampNeg) = (4 : Int32)
    · rw [if_pos c2]
      by_cases c3 : (σ.1 28 ((3 * x1.toNatClampNeg) + x2.toNatClampNeg)) = (2 : Int32)
      · rw [if_pos c3]
        exact (mk_many0 (mk_si (ok_q_send x1.toNatClampNeg (97 : Int32) (σ.2 29 ((3 * x1.toNatClampNeg) + x2.toNatClampNeg)) (0 : Int64) (0 : Int64) (0 : Int64) (by omega) (mk_si ok (by decide))) (by decide)))
      · rw [if_neg c3]
        exact (ok_q_raise (2 : Int32)  ok)
    · rw [if_neg c2]
      exact (ok_q_raise (2 : Int32)  ok)
abbrev b_M_swap : ByteArray := prog_12_method_46_code
def y_M_swap : MethodName := ⟨"SecurePairModel", "swap", "(I)Z"⟩
abbrev w_M_swap : List Cond := .code y_M_swap b_M_swap 2 (some .boolean) :: xa
theorem d_M_swap_0 : decode b_M_swap 0 = .ok (.aload_n 0, 1) := by decide +kernel
theorem d_M_swap_1 : decode b_M_swap 1 = .ok (.iconst 0, 1) := by decide +kernel
theorem d_M_swap_2 : decode b_M_swap 2 = .ok (.putfield 120, 3) := by decide +kernel
theorem d_M_swap_5 : decode b_M_swap 5 = .ok (.iload_n 1, 1) := by decide +kernel
theorem d_M_swap_6 : decode b_M_swap 6 = .ok (.invokestatic 169, 3) := by decide +kernel
theorem d_M_swap_9 : decode b_M_swap 9 = .ok (.ifCond .eq 13, 3) := by decide +kernel
theorem d_M_swap_12 : decode b_M_swap 12 = .ok (.aload_n 0, 1) := by decide +kernel
theorem d_M_swap_13 : decode b_M_swap 13 = .ok (.getfield 87, 3) := by decide +kernel
theorem d_M_swap_16 : decode b_M_swap 16 = .ok (.iload_n 1, 1) := by decide +kernel
theorem d_M_swap_17 : decode b_M_swap 17 = .ok (.iaload, 1) := by decide +kernel
theorem d_M_swap_18 : decode b_M_swap 18 = .ok (.iconst 2, 1) := by decide +kernel
theorem d_M_swap_19 : decode b_M_swap 19 = .ok (.if_icmp .ge 5, 3) := by decide +kernel
theorem d_M_swap_22 : decode b_M_swap 22 = .ok (.iconst 0, 1) := by decide +kernel
theorem d_M_swap_23 : decode b_M_swap 23 = .ok (.ireturn, 1) := by decide +kernel
theorem d_M_swap_24 : decode b_M_swap 24 = .ok (.aload_n 0, 1) := by decide +kernel
theorem d_M_swap_25 : decode b_M_swap 25 = .ok (.bipush 16, 2) := by decide +kernel
theorem d_M_swap_27 : decode b_M_swap 27 = .ok (.iload_n 1, 1) := by decide +kernel
theorem d_M_swap_28 : decode b_M_swap 28 = .ok (.imul, 1) := by decide +kernel
theorem d_M_swap_29 : decode b_M_swap 29 = .ok (.bipush 33, 2) := by decide +kernel
theorem d_M_swap_31 : decode b_M_swap 31 = .ok (.invokevirtual 161, 3) := by decide +kernel
theorem d_M_swap_34 : decode b_M_swap 34 = .ok (.aload_n 0, 1) := by decide +kernel
theorem d_M_swap_35 : decode b_M_swap 35 = .ok (.bipush 16, 2) := by decide +kernel
theorem d_M_swap_37 : decode b_M_swap 37 = .ok (.iload_n 1, 1) := by decide +kernel
theorem d_M_swap_38 : decode b_M_swap 38 = .ok (.imul, 1) := by decide +kernel
theorem d_M_swap_39 : decode b_M_swap 39 = .ok (.iconst 1, 1) := by decide +kernel
theorem d_M_swap_40 : decode b_M_swap 40 = .ok (.iadd, 1) := by decide +kernel
theorem d_M_swap_41 : decode b_M_swap 41 = .ok (.bipush 16, 2) := by decide +kernel
theorem d_M_swap_43 : decode b_M_swap 43 = .ok (.iload_n 1, 1) := by decide +kernel
theorem d_M_swap_44 : decode b_M_swap 44 = .ok (.imul, 1) := by decide +kernel
theorem d_M_swap_45 : decode b_M_swap 45 = .ok (.invokevirtual 161, 3) := by decide +kernel
theorem d_M_swap_48 : decode b_M_swap 48 = .ok (.aload_n 0, 1) := by decide +kernel
theorem d_M_swap_49 : decode b_M_swap 49 = .ok (.bipush 33, 2) := by decide +kernel
theorem d_M_swap_51 : decode b_M_swap 51 = .ok (.bipush 16, 2) := by decide +kernel
theorem d_M_swap_53 : decode b_M_swap 53 = .ok (.iload_n 1, 1) := by decide +kernel
theorem d_M_swap_54 : decode b_M_swap 54 = .ok (.imul, 1) := by decide +kernel
theorem d_M_swap_55 : decode b_M_swap 55 = .ok (.iconst 1, 1) := by decide +kernel
theorem d_M_swap_56 : decode b_M_swap 56 = .ok (.iadd, 1) := by decide +kernel
theorem d_M_swap_57 : decode b_M_swap 57 = .ok (.invokevirtual 161, 3) := by decide +kernel
theorem d_M_swap_60 : decode b_M_swap 60 = .ok (.iconst 1, 1) := by decide +kernel
theorem d_M_swap_61 : decode b_M_swap 61 = .ok (.ireturn, 1) := by decide +kernel
def q_swap (x1 : Int32) (σ : xb_St) : Int32 × xb_St := (if (g_isEnd x1) = 0 then ((0 : Int32), (xb_si σ 0 0 (0 : Int32))) else (if (2 : Int32) ≤ (σ.1 24 x1.toNatClampNeg) then ((1 : Int32), (q_copy 33 ((16 * x1.toNatClampNeg) + 1) (q_copy ((16 * x1.toNatClampNeg) + 1) (16 * x1.toNatClampNeg) (q_copy (16 * x1.toNatClampNeg) 33 (xb_si σ 0 0 (0 : Int32)))))) else ((0 : Int32), (xb_si σ 0 0 (0 : Int32)))))
set_option maxHeartbeats 4000000 in
set_option maxRecDepth 100000 in
theorem c_M_swap (l : Launch) (D : va_G) (α : Nat → Nat) (κ : Nat → ClassId) (hα : xb_inj α 35) (σ : xb_St) (x1 : Int32) : Met l y_M_swap w_M_swap ({ frames := 1, cells := 0, slots := 0, locals := 23 }) (va_Pc ([.ref (α 0), .int x1]) (sm_Pre D α κ σ)) (va_Qi (fun r (u : xb_St) => r = (q_swap x1 σ).1 ∧ u = (q_swap x1 σ).2) (sm_B D α κ) (xb_A α 35)) 0 0 (xb_A α 35) := by
  refine Met.ofW (cc := b_M_swap) (maxL := 2) (ret := (some .boolean)) (by decide) rfl ?_
  intro p e s m args below meth c s₁ B_ hml hv
  obtain ⟨rfl, hP, hK, hN⟩ := hv
  have hx := B_.exec
  have hb := B_.bytes
  have hr := B_.returns
  have hts := atoms_spec (ws := w_M_swap) B_.pre
  have ht : ∀ w ∈ xa, w.before _ s = true := fun w h => hts w (List.mem_cons_of_mem _ h)
  have hown : s.vm.findClass "SecurePairModel" = some m.cls := findClass_of_methodNamed B_.named
  have hlocks := B_.notSynchronized
  have hD := sm_D hα κ
  have hS : va_S (xb_A α 35) s.heap s.heap [] := va_S.rf
  have hl := lv_entry ([.ref (α 0), .int x1]) (n := 2) (Nat.le_of_ble_eq_true rfl)
  rw [lg_entry_eq]
  generalize (lg_sl ([.ref (α 0), .int x1]) ++ List.replicate (2 - (lg_sl ([.ref (α 0), .int x1])).length) Slot.unset).toArray = ls at hl ⊢
  have hl : lv_has ls 2 [(0, .ref (α 0)), (1, .int x1)] := hl
  refine lv_aload_n hx hb d_M_swap_0 rfl (lv_at hl 0 rfl) ?_
  refine lv_iconst (v := 0) hx hb d_M_swap_1 (by decide) ?_
  refine sm_pi (x := (0 : Int32)) (ty := .int) hx hb ht hown hK hP 0 (by decide) (ht _ xw952) (fun _ h_ => h_) hD hS rfl (by decide +kernel) rfl rfl sm_f_0 d_M_swap_2 (fun H locs hP hS => ?_)
  refine lv_iload_n hx hb d_M_swap_5 rfl (lv_at hl 1 rfl) ?_
  refine vp_callSi (W.runS (As := [.int x1]) (rest := []) ⟨hx, hb, hml, hown, hts⟩ (c_M_isEnd l x1) (cwS 1 hts (xa_S xw1073 xw1074 xw11 xw1075) rfl rfl rfl (by decide +kernel) ⟨Nat.le_of_ble_eq_true rfl, Nat.le_of_ble_eq_true rfl⟩) preEq rfl rfl hl.1 rfl (lv_room (Nat.le_of_ble_eq_true rfl)) d_M_swap_6 ⟨Nat.le_of_ble_eq_true rfl, Nat.le_of_ble_eq_true rfl⟩) (fun r_ e_ => ?_)
  subst e_
  refine lv_if_eq (tgt := 22) hx hb d_M_swap_9 (by decide) (fun c1 => ?_) (fun c1 => ?_)
  · skip
    refine lv_iconst (v := 0) hx hb d_M_swap_22 (by decide) ?_
    exact W.zret (v := (0 : Int32)) hx hb hr rfl (fun t ht_ hW => ⟨⟨(0 : Int32), (xb_si σ 0 0 (0 : Int32)), rfl, ⟨congrArg Prod.fst ((((if_pos c1)).symm) : ((0 : Int32), (xb_si σ 0 0 (0 : Int32))) = q_swap x1 σ), congrArg Prod.snd ((((if_pos c1)).symm) : ((0 : Int32), (xb_si σ 0 0 (0 : Int32))) = q_swap x1 σ)⟩, by rw [sm_B, ht_]; exact hP⟩, hS.F ht_⟩) hS.2.2 d_M_swap_23
  · skip
    have zc1 := sm_end c1
    refine lv_aload_n hx hb d_M_swap_12 rfl (lv_at hl 0 rfl) ?_
    refine sm_g (v := .ref (α 24)) hx hb ht hown hK hP 26 (by decide) (ht _ xw978) (fun _ h_ => h_) rfl d_M_swap_13 ?_
    refine lv_iload_n hx hb d_M_swap_16 rfl (lv_at hl 1 rfl) ?_
    refine sm_gaI (L := 2) (n := x1.toNatClampNeg) (v := (σ.1 24 x1.toNatClampNeg)) hx hb hK hP 24 23 rfl rfl (xb_in zc1.1 (by omega) (by decide)) (xb_cl zc1.1 (by omega)) (xb_i_nk (by decide)) d_M_swap_17 ?_
    refine lv_iconst (v := 2) hx hb d_M_swap_18 (by decide) ?_
    refine lv_icmp_ge (tgt := 24) hx hb d_M_swap_19 (by decide) (fun c2 => ?_) (fun c2 => ?_)
    · skip
      refine lv_aload_n hx hb d_M_swap_24 rfl (lv_at hl 0 rfl) ?_
      refine lv_bipush (v := 16) hx hb d_M_swap_25 (by decide) ?_
      refine lv_iload_n hx hb d_M_swap_27 rfl (lv_at hl 1 rfl) ?_
      refine lv_imul hx hb d_M_swap_28 ?_
      refine lv_bipush (v := 33) hx hb d_M_swap_29 (by decide) ?_
      refine sm_cv (va_runV (As := [.int ((16 : Int32) * x1), .int (33 : Int32)]) (rest := []) ⟨hx, hb, hml, hown, hts⟩ (c_M_copy l D α κ hα (xb_si σ 0 0 (0 : Int32)) ((16 : Int32) * x1) (16 * x1.toNatClampNeg) (xb_nm (xb_lit (x := (16 : Int32)) 16 rfl) zc1.1) (by omega) (33 : Int32) 33 (xb_lit (x := (33 : Int32)) 33 rfl) (by omega)) (cwV 2 hts (xa_V xw1100 xw1102 xs7 xw11 xw1103) rfl rfl rfl (by decide +kernel) ⟨Nat.le_of_ble_eq_true rfl, Nat.le_of_ble_eq_true rfl⟩) ⟨sm_blind, va_recv (q0 := 0) (ci := 9) hK hP rfl rfl, sm_pre hP hK hN _⟩ rfl rfl hl.1 rfl (lv_room (Nat.le_of_ble_eq_true rfl)) d_M_swap_31 ⟨Nat.le_of_ble_eq_true rfl, Nat.le_of_ble_eq_true rfl⟩) hS (fun _ h_ => h_) (fun H locs hP hS => ?_)
      obtain ⟨τ1, hτ1⟩ : ∃ t_, t_ = (q_copy (16 * x1.toNatClampNeg) 33 (xb_si σ 0 0 (0 : Int32))) := ⟨_, rfl⟩
      rw [← hτ1] at hP
      refine lv_aload_n hx hb d_M_swap_34 rfl (lv_at hl 0 rfl) ?_
      refine lv_bipush (v := 16) hx hb d_M_swap_35 (by decide) ?_
      refine lv_iload_n hx hb d_M_swap_37 rfl (lv_at hl 1 rfl) ?_
      refine lv_imul hx hb d_M_swap_38 ?_
      refine lv_iconst (v := 1) hx hb d_M_swap_39 (by decide) ?_
      refine lv_iadd hx hb d_M_swap_40 ?_
      refine lv_bipush (v := 16) hx hb d_M_swap_41 (by decide) ?_
      refine lv_iload_n hx hb d_M_swap_43 rfl (lv_at hl 1 rfl) ?_
      refine lv_imul hx hb d_M_swap_44 ?_
      refine sm_cv (va_runV (As := [.int (((16 : Int32) * x1) + (1 : Int32)), .int ((16 : Int32) * x1)]) (rest := []) ⟨hx, hb, hml, hown, hts⟩ (c_M_copy l D α κ hα τ1 (((16 : Int32) * x1) + (1 : Int32)) ((16 * x1.toNatClampNeg) + 1) (xb_na (xb_nm (xb_lit (x := (16 : Int32)) 16 rfl) zc1.1) (xb_lit (x := (1 : Int32)) 1 rfl)) (by omega) ((16 : Int32) * x1) (16 * x1.toNatClampNeg) (xb_nm (xb_lit (x := (16 : Int32)) 16 rfl) zc1.1) (by omega)) (cwV 2 hts (xa_V xw1100 xw1102 xs7 xw11 xw1103) rfl rfl rfl (by decide +kernel) ⟨Nat.le_of_ble_eq_true rfl, Nat.le_of_ble_eq_true rfl⟩) ⟨sm_blind, va_recv (q0 := 0) (ci := 9) hK hP rfl rfl, sm_pre hP hK hN _⟩ rfl rfl hl.1 rfl (lv_room (Nat.le_of_ble_eq_true rfl)) d_M_swap_45 ⟨Nat.le_of_ble_eq_true rfl, Nat.le_of_ble_eq_true rfl⟩) hS (fun _ h_ => h_) (fun H locs hP hS => ?_)
      obtain ⟨τ2, hτ2⟩ : ∃ t_, t_ = (q_copy ((16 * x1.toNatClampNeg) + 1) (16 * x1.toNatClampNeg) τ1) := ⟨_, rfl⟩
      rw [← hτ2] at hP
      refine lv_aload_n hx hb d_M_swap_48 rfl (lv_at hl 0 rfl) ?_
      refine lv_bipush (v := 33) hx hb d_M_swap_49 (by decide) ?_
      refine lv_bipush (v := 16) hx hb d_M_swap_51 (by decide) ?_
      refine lv_iload_n hx hb d_M_swap_53 rfl (lv_at hl 1 rfl) ?_
      refine lv_imul hx hb d_M_swap_54 ?_
      refine lv_iconst (v := 1) hx hb d_M_swap_55 (by decide) ?_
      refine lv_iadd hx hb d_M_swap_56 ?_
      refine sm_cv (va_runV (As := [.int (33 : Int32), .int (((16 : Int32) * x1) + (1 : Int32))]) (rest := []) ⟨hx, hb, hml, hown, hts⟩ (c_M_copy l D α κ hα τ2 (33 : Int32) 33 (xb_lit (x := (33 : Int32)) 33 rfl) (by omega) (((16 : Int32) * x1) + (1 : Int32)) ((16 * x1.toNatClampNeg) + 1) (xb_na (xb_nm (xb_lit (x := (16 : Int32)) 16 rfl) zc1.1) (xb_lit (x := (1 : Int32)) 1 rfl)) (by omega)) (cwV 2 hts (xa_V xw1100 xw1102 xs7 xw11 xw1103) rfl rfl rfl (by decide +kernel) ⟨Nat.le_of_ble_eq_true rfl, Nat.le_of_ble_eq_true rfl⟩) ⟨sm_blind, va_recv (q0 := 0) (ci := 9) hK hP rfl rfl, sm_pre hP hK hN _⟩ rfl rfl hl.1 rfl (lv_room (Nat.le_of_ble_eq_true rfl)) d_M_swap_57 ⟨Nat.le_of_ble_eq_true rfl, Nat.le_of_ble_eq_true rfl⟩) hS (fun _ h_ => h_) (fun H locs hP hS => ?_)
      obtain ⟨τ3, hτ3⟩ : ∃ t_, t_ = (q_copy 33 ((16 * x1.toNatClampNeg) + 1) τ2) := ⟨_, rfl⟩
      rw [← hτ3] at hP
      refine lv_iconst (v := 1) hx hb d_M_swap_60 (by decide) ?_
      exact W.zret (v := (1 : Int32)) hx hb hr rfl (fun t ht_ hW => ⟨⟨(1 : Int32), τ3, rfl, ⟨congrArg Prod.fst (((by subst hτ3; subst hτ2; subst hτ1; exact ((if_neg c1).trans ((if_pos c2))).symm)) : ((1 : Int32), τ3) = q_swap x1 σ), congrArg Prod.snd (((by subst hτ3; subst hτ2; subst hτ1; exact ((if_neg c1).trans ((if_pos c2))).symm)) : ((1 : Int32), τ3) = q_swap x1 σ)⟩, by rw [sm_B, ht_]; exact hP⟩, hS.F ht_⟩) hS.2.2 d_M_swap_61
    · skip
      refine lv_iconst (v := 0) hx hb d_M_swap_22 (by decide) ?_
      exact W.zret (v := (0 : Int32)) hx hb hr rfl (fun t ht_ hW => ⟨⟨(0 : Int32), (xb_si σ 0 0 (0 : Int32)), rfl, ⟨congrArg Prod.fst ((((if_neg c1).trans ((if_neg c2))).symm) : ((0 : Int32), (xb_si σ 0 0 (0 : Int32))) = q_swap x1 σ), congrArg Prod.snd ((((if_neg c1).trans ((if_neg c2))).symm) : ((0 : Int32), (xb_si σ 0 0 (0 : Int32))) = q_swap x1 σ)⟩, by rw [sm_B, ht_]; exact hP⟩, hS.F ht_⟩) hS.2.2 d_M_swap_23
theorem ok_q_swap {σ : xb_St} (x1 : Int32)  (ok : sm_ok σ) : sm_ok (q_swap x1 σ).2 := by
  unfold q_swap
  by_cases c1 : (g_isEnd x1) = 0
  · rw [if_pos c1]
    exact (mk_si ok (by decide))
  · rw [if_neg c1]
    have zc1 := sm_end c1
    by_cases c2 : (2 : Int32) ≤ (σ.1 24 x1.toNatClampNeg)
    · rw [if_pos c2]
      exact (ok_q_copy 33 ((16 * x1.toNatClampNeg) + 1) (by omega) (by omega) (ok_q_copy ((16 * x1.toNatClampNeg) + 1) (16 * x1.toNatClampNeg) (by omega) (by omega) (ok_q_copy (16 * x1.toNatClampNeg) 33 (by omega) (by omega) (mk_si ok (by decide)))))
    · rw [if_neg c2]
      exact (mk_si ok (by decide))
abbrev b_M_alter : ByteArray := prog_12_method_48_code
def y_M_alter : MethodName := ⟨"SecurePairModel", "alter", "(III)Z"⟩
abbrev w_M_alter : List Cond := .code y_M_alter b_M_alter 5 (some .boolean) :: xa
theorem d_M_alter_0 : decode b_M_alter 0 = .ok (.aload_n 0, 1) := by decide +kernel
theorem d_M_alter_1 : decode b_M_alter 1 = .ok (.iconst 0, 1) := by decide +kernel
theorem d_M_alter_2 : decode b_M_alter 2 = .ok (.putfield 120, 3) := by decide +kernel
theorem d_M_alter_5 : decode b_M_alter 5 = .ok (.iload_n 1, 1) := by decide +kernel
theorem d_M_alter_6 : decode b_M_alter 6 = .ok (.invokestatic 169, 3) := by decide +kernel
theorem d_M_alter_9 : decode b_M_alter 9 = .ok (.ifCond .eq 21, 3) := by decide +kernel
theorem d_M_alter_12 : decode b_M_alter 12 = .ok (.aload_n 0, 1) := by decide +kernel
theorem d_M_alter_13 : decode b_M_alter 13 = .ok (.getfield 87, 3) := by decide +kernel
theorem d_M_alter_16 : decode b_M_alter 16 = .ok (.iload_n 1, 1) := by decide +kernel
theorem d_M_alter_17 : decode b_M_alter 17 = .ok (.iaload, 1) := by decide +kernel
theorem d_M_alter_18 : decode b_M_alter 18 = .ok (.ifCond .eq 12, 3) := by decide +kernel
theorem d_M_alter_21 : decode b_M_alter 21 = .ok (.iload_n 2, 1) := by decide +kernel
theorem d_M_alter_22 : decode b_M_alter 22 = .ok (.ifCond .lt 8, 3) := by decide +kernel
theorem d_M_alter_25 : decode b_M_alter 25 = .ok (.iload_n 2, 1) := by decide +kernel
theorem d_M_alter_26 : decode b_M_alter 26 = .ok (.iconst 5, 1) := by decide +kernel
theorem d_M_alter_27 : decode b_M_alter 27 = .ok (.if_icmp .le 5, 3) := by decide +kernel
theorem d_M_alter_30 : decode b_M_alter 30 = .ok (.iconst 0, 1) := by decide +kernel
theorem d_M_alter_31 : decode b_M_alter 31 = .ok (.ireturn, 1) := by decide +kernel
theorem d_M_alter_32 : decode b_M_alter 32 = .ok (.bipush 16, 2) := by decide +kernel
theorem d_M_alter_34 : decode b_M_alter 34 = .ok (.iload_n 1, 1) := by decide +kernel
theorem d_M_alter_35 : decode b_M_alter 35 = .ok (.imul, 1) := by decide +kernel
theorem d_M_alter_36 : decode b_M_alter 36 = .ok (.istore 4, 2) := by decide +kernel
theorem d_M_alter_38 : decode b_M_alter 38 = .ok (.iload_n 2, 1) := by decide +kernel
theorem d_M_alter_39 : decode b_M_alter 39 = .ok (.ifCond .ne 17, 3) := by decide +kernel
theorem d_M_alter_42 : decode b_M_alter 42 = .ok (.aload_n 0, 1) := by decide +kernel
theorem d_M_alter_43 : decode b_M_alter 43 = .ok (.getfield 90, 3) := by decide +kernel
theorem d_M_alter_46 : decode b_M_alter 46 = .ok (.iload 4, 2) := by decide +kernel
theorem d_M_alter_48 : decode b_M_alter 48 = .ok (.dup2, 1) := by decide +kernel
theorem d_M_alter_49 : decode b_M_alter 49 = .ok (.iaload, 1) := by decide +kernel
theorem d_M_alter_50 : decode b_M_alter 50 = .ok (.iload_n 3, 1) := by decide +kernel
theorem d_M_alter_51 : decode b_M_alter 51 = .ok (.ixor, 1) := by decide +kernel
theorem d_M_alter_52 : decode b_M_alter 52 = .ok (.iastore, 1) := by decide +kernel
theorem d_M_alter_53 : decode b_M_alter 53 = .ok (.goto 41, 3) := by decide +kernel
theorem d_M_alter_56 : decode b_M_alter 56 = .ok (.iload_n 2, 1) := by decide +kernel
theorem d_M_alter_57 : decode b_M_alter 57 = .ok (.iconst 5, 1) := by decide +kernel
theorem d_M_alter_58 : decode b_M_alter 58 = .ok (.if_icmp .ne 18, 3) := by decide +kernel
theorem d_M_alter_61 : decode b_M_alter 61 = .ok (.aload_n 0, 1) := by decide +kernel
theorem d_M_alter_62 : decode b_M_alter 62 = .ok (.getfield 96, 3) := by decide +kernel
theorem d_M_alter_65 : decode b_M_alter 65 = .ok (.iload 4, 2) := by decide +kernel
theorem d_M_alter_67 : decode b_M_alter 67 = .ok (.dup2, 1) := by decide +kernel
theorem d_M_alter_68 : decode b_M_alter 68 = .ok (.laload, 1) := by decide +kernel
theorem d_M_alter_69 : decode b_M_alter 69 = .ok (.iload_n 3, 1) := by decide +kernel
theorem d_M_alter_70 : decode b_M_alter 70 = .ok (.i2l, 1) := by decide +kernel
theorem d_M_alter_71 : decode b_M_alter 71 = .ok (.lxor, 1) := by decide +kernel
theorem d_M_alter_72 : decode b_M_alter 72 = .ok (.lastore, 1) := by decide +kernel
theorem d_M_alter_73 : decode b_M_alter 73 = .ok (.goto 21, 3) := by decide +kernel
theorem d_M_alter_76 : decode b_M_alter 76 = .ok (.aload_n 0, 1) := by decide +kernel
theorem d_M_alter_77 : decode b_M_alter 77 = .ok (.getfield 93, 3) := by decide +kernel
theorem d_M_alter_80 : decode b_M_alter 80 = .ok (.iconst 4, 1) := by decide +kernel
theorem d_M_alter_81 : decode b_M_alter 81 = .ok (.iload 4, 2) := by decide +kernel
theorem d_M_alter_83 : decode b_M_alter 83 = .ok (.imul, 1) := by decide +kernel
theorem d_M_alter_84 : decode b_M_alter 84 = .ok (.iload_n 2, 1) := by decide +kernel
theorem d_M_alter_85 : decode b_M_alter 85 = .ok (.iadd, 1) := by decide +kernel
theorem d_M_alter_86 : decode b_M_alter 86 = .ok (.iconst 1, 1) := by decide +kernel
theorem d_M_alter_87 : decode b_M_alter 87 = .ok (.isub, 1) := by decide +kernel
theorem d_M_alter_88 : decode b_M_alter 88 = .ok (.dup2, 1) := by decide +kernel
theorem d_M_alter_89 : decode b_M_alter 89 = .ok (.laload, 1) := by decide +kernel
theorem d_M_alter_90 : decode b_M_alter 90 = .ok (.iload_n 3, 1) := by decide +kernel
theorem d_M_alter_91 : decode b_M_alter 91 = .ok (.i2l, 1) := by decide +kernel
theorem d_M_alter_92 : decode b_M_alter 92 = .ok (.lxor, 1) := by decide +kernel
theorem d_M_alter_93 : decode b_M_alter 93 = .ok (.lastore, 1) := by decide +kernel
theorem d_M_alter_94 : decode b_M_alter 94 = .ok (.iconst 1, 1) := by decide +kernel
theorem d_M_alter_95 : decode b_M_alter 95 = .ok (.ireturn, 1) := by decide +kernel
def q_alter (x1 : Int32) (x2 : Int32) (x3 : Int32) (σ : xb_St) : Int32 × xb_St := (if (g_isEnd x1) = 0 then ((0 : Int32), (xb_si σ 0 0 (0 : Int32))) else (if (σ.1 24 x1.toNatClampNeg) = 0 then ((0 : Int32), (xb_si σ 0 0 (0 : Int32))) else (if x2 < 0 then ((0 : Int32), (xb_si σ 0 0 (0 : Int32))) else (if x2 ≤ (5 : Int32) then (if x2 = 0 then ((1 : Int32), (xb_si (xb_si σ 0 0 (0 : Int32)) 25 (16 * x1.toNatClampNeg) ((σ.1 25 (16 * x1.toNatClampNeg)) ^^^ x3))) else (if x2 = (5 : Int32) then ((1 : Int32), (xb_sl (xb_si σ 0 0 (0 : Int32)) 27 (16 * x1.toNatClampNeg) ((σ.2 27 (16 * x1.toNatClampNeg)) ^^^ x3.toInt64))) else ((1 : Int32), (xb_sl (xb_si σ 0 0 (0 : Int32)) 26 (((4 * (16 * x1.toNatClampNeg)) + x2.toNatClampNeg) - 1) ((σ.2 26 (((4 * (16 * x1.toNatClampNeg)) + x2.toNatClampNeg) - 1)) ^^^ x3.toInt64))))) else ((0 : Int32), (xb_si σ 0 0 (0 : Int32)))))))
set_option maxHeartbeats 4000000 in
set_option maxRecDepth 100000 in
theorem c_M_alter (l : Launch) (D : va_G) (α : Nat → Nat) (κ : Nat → ClassId) (hα : xb_inj α 35) (σ : xb_St) (x1 : Int32) (x2 : Int32) (x3 : Int32) : Met l y_M_alter w_M_alter ({ frames := 1, cells := 0, slots := 0, locals := 20 }) (va_Pc ([.ref (α 0), .int x1, .int x2, .int x3]) (sm_Pre D α κ σ)) (va_Qi (fun r (u : xb_St) => r = (q_alter x1 x2 x3 σ).1 ∧ u = (q_alter x1 x2 x3 σ).2) (sm_B D α κ) (xb_A α 35)) 0 0 (xb_A α 35) := by
  refine Met.ofW (cc := b_M_alter) (maxL := 5) (ret := (some .boolean)) (by decide) rfl ?_
  intro p e s m args below meth c s₁ B_ hml hv
  obtain ⟨rfl, hP, hK, hN⟩ := hv
  have hx := B_.exec
  have hb := B_.bytes
  have hr := B_.returns
  have hts := atoms_spec (ws := w_M_alter) B_.pre
  have ht : ∀ w ∈ xa, w.before _ s = true := fun w h => hts w (List.mem_cons_of_mem _ h)
  have hown : s.vm.findClass "SecurePairModel" = some m.cls := findClass_of_methodNamed B_.named
  have hlocks := B_.notSynchronized
  have hD := sm_D hα κ
  have hS : va_S (xb_A α 35) s.heap s.heap [] := va_S.rf
  have hl := lv_entry ([.ref (α 0), .int x1, .int x2, .int x3]) (n := 5) (Nat.le_of_ble_eq_true rfl)
  rw [lg_entry_eq]
  generalize (lg_sl ([.ref (α 0), .int x1, .int x2, .int x3]) ++ List.replicate (5 - (lg_sl ([.ref (α 0), .int x1, .int x2, .int x3])).length) Slot.unset).toArray = ls at hl ⊢
  have hl : lv_has ls 5 [(0, .ref (α 0)), (1, .int x1), (2, .int x2), (3, .int x3)] := hl
  refine lv_aload_n hx hb d_M_alter_0 rfl (lv_at hl 0 rfl) ?_
  refine lv_iconst (v := 0) hx hb d_M_alter_1 (by decide) ?_
  refine sm_pi (x := (0 : Int32)) (ty := .int) hx hb ht hown hK hP 0 (by decide) (ht _ xw952) (fun _ h_ => h_) hD hS rfl (by decide +kernel) rfl rfl sm_f_0 d_M_alter_2 (fun H locs hP hS => ?_)
  refine lv_iload_n hx hb d_M_alter_5 rfl (lv_at hl 1 rfl) ?_
  refine vp_callSi (W.runS (As := [.int x1]) (rest := []) ⟨hx, hb, hml, hown, hts⟩ (c_M_isEnd l x1) (cwS 1 hts (xa_S xw1073 xw1074 xw11 xw1075) rfl rfl rfl (by decide +kernel) ⟨Nat.le_of_ble_eq_true rfl, Nat.le_of_ble_eq_true rfl⟩) preEq rfl rfl hl.1 rfl (lv_room (Nat.le_of_ble_eq_true rfl)) d_M_alter_6 ⟨Nat.le_of_ble_eq_true rfl, Nat.le_of_ble_eq_true rfl⟩) (fun r_ e_ => ?_)
  subst e_
  refine lv_if_eq (tgt := 30) hx hb d_M_alter_9 (by decide) (fun c1 => ?_) (fun c1 => ?_)
  · skip
    refine lv_iconst (v := 0) hx hb d_M_alter_30 (by decide) ?_
    exact W.zret (v := (0 : Int32)) hx hb hr rfl (fun t ht_ hW => ⟨⟨(0 : Int32), (xb_si σ 0 0 (0 : Int32)), rfl, ⟨congrArg Prod.fst ((((if_pos c1)).symm) : ((0 : Int32), (xb_si σ 0 0 (0 : Int32))) = q_alter x1 x2 x3 σ), congrArg Prod.snd ((((if_pos c1)).symm) : ((0 : Int32), (xb_si σ 0 0 (0 : Int32))) = q_alter x1 x2 x3 σ)⟩, by rw [sm_B, ht_]; exact hP⟩, hS.F ht_⟩) hS.2.2 d_M_alter_31
  · skip
    have zc1 := sm_end c1
    refine lv_aload_n hx hb d_M_alter_12 rfl (lv_at hl 0 rfl) ?_
    refine sm_g (v := .ref (α 24)) hx hb ht hown hK hP 26 (by decide) (ht _ xw978) (fun _ h_ => h_) rfl d_M_alter_13 ?_
    refine lv_iload_n hx hb d_M_alter_16 rfl (lv_at hl 1 rfl) ?_
    refine sm_gaI (L := 2) (n := x1.toNatClampNeg) (v := (σ.1 24 x1.toNatClampNeg)) hx hb hK hP 24 23 rfl rfl (xb_in zc1.1 (by omega) (by decide)) (xb_cl zc1.1 (by omega)) (xb_i_nk (by decide)) d_M_alter_17 ?_
    refine lv_if_eq (tgt := 30) hx hb d_M_alter_18 (by decide) (fun c2 => ?_) (fun c2 => ?_)
    · skip
      refine lv_iconst (v := 0) hx hb d_M_alter_30 (by decide) ?_
      exact W.zret (v := (0 : Int32)) hx hb hr rfl (fun t ht_ hW => ⟨⟨(0 : Int32), (xb_si σ 0 0 (0 : Int32)), rfl, ⟨congrArg Prod.fst ((((if_neg c1).trans ((if_pos c2))).symm) : ((0 : Int32), (xb_si σ 0 0 (0 : Int32))) = q_alter x1 x2 x3 σ), congrArg Prod.snd ((((if_neg c1).trans ((if_pos c2))).symm) : ((0 : Int32), (xb_si σ 0 0 (0 : Int32))) = q_alter x1 x2 x3 σ)⟩, by rw [sm_B, ht_]; exact hP⟩, hS.F ht_⟩) hS.2.2 d_M_alter_31
    · skip
      refine lv_iload_n hx hb d_M_alter_21 rfl (lv_at hl 2 rfl) ?_
      refine lv_if_lt (tgt := 30) hx hb d_M_alter_22 (by decide) (fun c3 => ?_) (fun c3 => ?_)
      · skip
        refine lv_iconst (v := 0) hx hb d_M_alter_30 (by decide) ?_
        exact W.zret (v := (0 : Int32)) hx hb hr rfl (fun t ht_ hW => ⟨⟨(0 : Int32), (xb_si σ 0 0 (0 : Int32)), rfl, ⟨congrArg Prod.fst ((((if_neg c1).trans ((if_neg c2).trans ((if_pos c3)))).symm) : ((0 : Int32), (xb_si σ 0 0 (0 : Int32))) = q_alter x1 x2 x3 σ), congrArg Prod.snd ((((if_neg c1).trans ((if_neg c2).trans ((if_pos c3)))).symm) : ((0 : Int32), (xb_si σ 0 0 (0 : Int32))) = q_alter x1 x2 x3 σ)⟩, by rw [sm_B, ht_]; exact hP⟩, hS.F ht_⟩) hS.2.2 d_M_alter_31
      · skip
        have zc3 := sp_nn c3
        refine lv_iload_n hx hb d_M_alter_25 rfl (lv_at hl 2 rfl) ?_
        refine lv_iconst (v := 5) hx hb d_M_alter_26 (by decide) ?_
        refine lv_icmp_le (tgt := 32) hx hb d_M_alter_27 (by decide) (fun c4 => ?_) (fun c4 => ?_)
        · skip
          have nc4 := (xb_leN zc3.1 (xb_lit (x := (5 : Int32)) 5 rfl) (by omega) (by omega)).mp c4
          refine lv_bipush (v := 16) hx hb d_M_alter_32 (by decide) ?_
          refine lv_iload_n hx hb d_M_alter_34 rfl (lv_at hl 1 rfl) ?_
          refine lv_imul hx hb d_M_alter_35 ?_
          refine lv_istore (lv' := [(4, .int ((16 : Int32) * x1)), (0, .ref (α 0)), (1, .int x1), (2, .int x2), (3, .int x3)]) hx hb d_M_alter_36 hl (by decide) rfl (fun ls hl => ?_)
          refine lv_iload_n hx hb d_M_alter_38 rfl (lv_at hl 3 rfl) ?_
          refine lv_if_ne (tgt := 56) hx hb d_M_alter_39 (by decide) (fun c5 => ?_) (fun c5 => ?_)
          · skip
            have nc5 := mt (xb_eqN zc3.1 (xb_lit (x := (0 : Int32)) 0 rfl) (by omega) (by omega)).mpr c5
            refine lv_iload_n hx hb d_M_alter_56 rfl (lv_at hl 3 rfl) ?_
            refine lv_iconst (v := 5) hx hb d_M_alter_57 (by decide) ?_
            refine lv_icmp_ne (tgt := 76) hx hb d_M_alter_58 (by decide) (fun c6 => ?_) (fun c6 => ?_)
            · skip
              have nc6 := mt (xb_eqN zc3.1 (xb_lit (x := (5 : Int32)) 5 rfl) (by omega) (by omega)).mpr c6
              refine lv_aload_n hx hb d_M_alter_76 rfl (lv_at hl 1 rfl) ?_
              refine sm_g (v := .ref (α 26)) hx hb ht hown hK hP 28 (by decide) (ht _ xw980) (fun _ h_ => h_) rfl d_M_alter_77 ?_
              refine lv_iconst (v := 4) hx hb d_M_alter_80 (by decide) ?_
              refine lv_iload hx hb d_M_alter_81 (lv_at hl 0 rfl) ?_
              refine lv_imul hx hb d_M_alter_83 ?_
              refine lv_iload_n hx hb d_M_alter_84 rfl (lv_at hl 3 rfl) ?_
              refine lv_iadd hx hb d_M_alter_85 ?_
              refine lv_iconst (v := 1) hx hb d_M_alter_86 (by decide) ?_
              refine lv_isub hx hb d_M_alter_87 ?_
              refine lv_dup2_11 hx hb d_M_alter_88 rfl rfl ?_
              refine sm_gaJ (L := 136) (n := (((4 * (16 * x1.toNatClampNeg)) + x2.toNatClampNeg) - 1)) (v := (σ.2 26 (((4 * (16 * x1.toNatClampNeg)) + x2.toNatClampNeg) - 1))) hx hb hK hP 26 25 rfl rfl (xb_in (xb_ns (xb_na (xb_nm (xb_lit (x := (4 : Int32)) 4 rfl) (xb_nm (xb_lit (x := (16 : Int32)) 16 rfl) zc1.1)) zc3.1) (xb_lit (x := (1 : Int32)) 1 rfl) (by omega)) (by omega) (by decide)) (xb_cl (xb_ns (xb_na (xb_nm (xb_lit (x := (4 : Int32)) 4 rfl) (xb_nm (xb_lit (x := (16 : Int32)) 16 rfl) zc1.1)) zc3.1) (xb_lit (x := (1 : Int32)) 1 rfl) (by omega)) (by omega)) xb_l_i d_M_alter_89 ?_
              refine lv_iload_n hx hb d_M_alter_90 rfl (lv_at hl 4 rfl) ?_
              refine lv_i2l (v := x3.toInt64) hx hb d_M_alter_91 (by rfl) ?_
              refine lv_lxor hx hb d_M_alter_92 ?_
              refine sm_paJ (L := 136) (n := (((4 * (16 * x1.toNatClampNeg)) + x2.toNatClampNeg) - 1)) (x := ((σ.2 26 (((4 * (16 * x1.toNatClampNeg)) + x2.toNatClampNeg) - 1)) ^^^ x3.toInt64)) hx hb hK hP 26 25 rfl rfl hD hS (xb_in (xb_ns (xb_na (xb_nm (xb_lit (x := (4 : Int32)) 4 rfl) (xb_nm (xb_lit (x := (16 : Int32)) 16 rfl) zc1.1)) zc3.1) (xb_lit (x := (1 : Int32)) 1 rfl) (by omega)) (by omega) (by decide)) (xb_cl (xb_ns (xb_na (xb_nm (xb_lit (x := (4 : Int32)) 4 rfl) (xb_nm (xb_lit (x := (16 : Int32)) 16 rfl) zc1.1)) zc3.1) (xb_lit (x := (1 : Int32)) 1 rfl) (by omega)) (by omega)) sm_s_26 d_M_alter_93 (fun H locs hP hS => ?_)
              refine lv_iconst (v := 1) hx hb d_M_alter_94 (by decide) ?_
              exact W.zret (v := (1 : Int32)) hx hb hr rfl (fun t ht_ hW => ⟨⟨(1 : Int32), (xb_sl (xb_si σ 0 0 (0 : Int32)) 26 (((4 * (16 * x1.toNatClampNeg)) + x2.toNatClampNeg) - 1) ((σ.2 26 (((4 * (16 * x1.toNatClampNeg)) + x2.toNatClampNeg) - 1)) ^^^ x3.toInt64)), rfl, ⟨congrArg Prod.fst ((((if_neg c1).trans ((if_neg c2).trans ((if_neg c3).trans ((if_pos c4).trans ((if_neg c5).trans ((if_neg c6))))))).symm) : ((1 : Int32), (xb_sl (xb_si σ 0 0 (0 : Int32)) 26 (((4 * (16 * x1.toNatClampNeg)) + x2.toNatClampNeg) - 1) ((σ.2 26 (((4 * (16 * x1.toNatClampNeg)) + x2.toNatClampNeg) - 1)) ^^^ x3.toInt64))) = q_alter x1 x2 x3 σ), congrArg Prod.snd ((((if_neg c1).trans ((if_neg c2).trans ((if_neg c3).trans ((if_pos c4).trans ((if_neg c5).trans ((if_neg c6))))))).symm) : ((1 : Int32), (xb_sl (xb_si σ 0 0 (0 : Int32)) 26 (((4 * (16 * x1.toNatClampNeg)) + x2.toNatClampNeg) - 1) ((σ.2 26 (((4 * (16 * x1.toNatClampNeg)) + x2.toNatClampNeg) - 1)) ^^^ x3.toInt64))) = q_alter x1 x2 x3 σ)⟩, by rw [sm_B, ht_]; exact hP⟩, hS.F ht_⟩) hS.2.2 d_M_alter_95
            · skip
              have nc6 := (xb_eqN zc3.1 (xb_lit (x := (5 : Int32)) 5 rfl) (by omega) (by omega)).mp c6
              refine lv_aload_n hx hb d_M_alter_61 rfl (lv_at hl 1 rfl) ?_
              refine sm_g (v := .ref (α 27)) hx hb ht hown hK hP 29 (by decide) (ht _ xw981) (fun _ h_ => h_) rfl d_M_alter_62 ?_
              refine lv_iload hx hb d_M_alter_65 (lv_at hl 0 rfl) ?_
              refine lv_dup2_11 hx hb d_M_alter_67 rfl rfl ?_
              refine sm_gaJ (L := 34) (n := (16 * x1.toNatClampNeg)) (v := (σ.2 27 (16 * x1.toNatClampNeg))) hx hb hK hP 27 26 rfl rfl (xb_in (xb_nm (xb_lit (x := (16 : Int32)) 16 rfl) zc1.1) (by omega) (by decide)) (xb_cl (xb_nm (xb_lit (x := (16 : Int32)) 16 rfl) zc1.1) (by omega)) xb_l_i d_M_alter_68 ?_
              refine lv_iload_n hx hb d_M_alter_69 rfl (lv_at hl 4 rfl) ?_
              refine lv_i2l (v := x3.toInt64) hx hb d_M_alter_70 (by rfl) ?_
              refine lv_lxor hx hb d_M_alter_71 ?_
              refine sm_paJ (L := 34) (n := (16 * x1.toNatClampNeg)) (x := ((σ.2 27 (16 * x1.toNatClampNeg)) ^^^ x3.toInt64)) hx hb hK hP 27 26 rfl rfl hD hS (xb_in (xb_nm (xb_lit (x := (16 : Int32)) 16 rfl) zc1.1) (by omega) (by decide)) (xb_cl (xb_nm (xb_lit (x := (16 : Int32)) 16 rfl) zc1.1) (by omega)) sm_s_27 d_M_alter_72 (fun H locs hP hS => ?_)
              refine lv_goto (tgt := 94) hx hb d_M_alter_73 (by decide) ?_
              refine lv_iconst (v := 1) hx hb d_M_alter_94 (by decide) ?_
              exact W.zret (v := (1 : Int32)) hx hb hr rfl (fun t ht_ hW => ⟨⟨(1 : Int32), (xb_sl (xb_si σ 0 0 (0 : Int32)) 27 (16 * x1.toNatClampNeg) ((σ.2 27 (16 * x1.toNatClampNeg)) ^^^ x3.toInt64)), rfl, ⟨congrArg Prod.fst ((((if_neg c1).trans ((if_neg c2).trans ((if_neg c3).trans ((if_pos c4).trans ((if_neg c5).trans ((if_pos c6))))))).symm) : ((1 : Int32), (xb_sl (xb_si σ 0 0 (0 : Int32)) 27 (16 * x1.toNatClampNeg) ((σ.2 27 (16 * x1.toNatClampNeg)) ^^^ x3.toInt64))) = q_alter x1 x2 x3 σ), congrArg Prod.snd ((((if_neg c1).trans ((if_neg c2).trans ((if_neg c3).trans ((if_pos c4).trans ((if_neg c5).trans ((if_pos c6))))))).symm) : ((1 : Int32), (xb_sl (xb_si σ 0 0 (0 : Int32)) 27 (16 * x1.toNatClampNeg) ((σ.2 27 (16 * x1.toNatClampNeg)) ^^^ x3.toInt64))) = q_alter x1 x2 x3 σ)⟩, by rw [sm_B, ht_]; exact hP⟩, hS.F ht_⟩) hS.2.2 d_M_alter_95
          · skip
            have nc5 := (xb_eqN zc3.1 (xb_lit (x := (0 : Int32)) 0 rfl) (by omega) (by omega)).mp c5
            refine lv_aload_n hx hb d_M_alter_42 rfl (lv_at hl 1 rfl) ?_
            refine sm_g (v := .ref (α 25)) hx hb ht hown hK hP 27 (by decide) (ht _ xw979) (fun _ h_ => h_) rfl d_M_alter_43 ?_
            refine lv_iload hx hb d_M_alter_46 (lv_at hl 0 rfl) ?_
            refine lv_dup2_11 hx hb d_M_alter_48 rfl rfl ?_
            refine sm_gaI (L := 34) (n := (16 * x1.toNatClampNeg)) (v := (σ.1 25 (16 * x1.toNatClampNeg))) hx hb hK hP 25 24 rfl rfl (xb_in (xb_nm (xb_lit (x := (16 : Int32)) 16 rfl) zc1.1) (by omega) (by decide)) (xb_cl (xb_nm (xb_lit (x := (16 : Int32)) 16 rfl) zc1.1) (by omega)) (xb_i_nk (by decide)) d_M_alter_49 ?_
            refine lv_iload_n hx hb d_M_alter_50 rfl (lv_at hl 4 rfl) ?_
            refine lv_ixor hx hb d_M_alter_51 ?_
            refine sm_paI (L := 34) (n := (16 * x1.toNatClampNeg)) (x := ((σ.1 25 (16 * x1.toNatClampNeg)) ^^^ x3)) hx hb hK hP 25 24 rfl rfl hD hS (xb_in (xb_nm (xb_lit (x := (16 : Int32)) 16 rfl) zc1.1) (by omega) (by decide)) (xb_cl (xb_nm (xb_lit (x := (16 : Int32)) 16 rfl) zc1.1) (by omega)) sm_s_25 d_M_alter_52 (fun H locs hP hS => ?_)
            refine lv_goto (tgt := 94) hx hb d_M_alter_53 (by decide) ?_
            refine lv_iconst (v := 1) hx hb d_M_alter_94 (by decide) ?_
            exact W.zret (v := (1 : Int32)) hx hb hr rfl (fun t ht_ hW => ⟨⟨(1 : Int32), (xb_si (xb_si σ 0 0 (0 : Int32)) 25 (16 * x1.toNatClampNeg) ((σ.1 25 (16 * x1.toNatClampNeg)) ^^^ x3)), rfl, ⟨congrArg Prod.fst ((((if_neg c1).trans ((if_neg c2).trans ((if_neg c3).trans ((if_pos c4).trans ((if_pos c5)))))).symm) : ((1 : Int32), (xb_si (xb_si σ 0 0 (0 : Int32)) 25 (16 * x1.toNatClampNeg) ((σ.1 25 (16 * x1.toNatClampNeg)) ^^^ x3))) = q_alter x1 x2 x3 σ), congrArg Prod.snd ((((if_neg c1).trans ((if_neg c2).trans ((if_neg c3).trans ((if_pos c4).trans ((if_pos c5)))))).symm) : ((1 : Int32), (xb_si (xb_si σ 0 0 (0 : Int32)) 25 (16 * x1.toNatClampNeg) ((σ.1 25 (16 * x1.toNatClampNeg)) ^^^ x3))) = q_alter x1 x2 x3 σ)⟩, by rw [sm_B, ht_]; exact hP⟩, hS.F ht_⟩) hS.2.2 d_M_alter_95
        · skip
          have nc4 := mt (xb_leN zc3.1 (xb_lit (x := (5 : Int32)) 5 rfl) (by omega) (by omega)).mpr c4
          refine lv_iconst (v := 0) hx hb d_M_alter_30 (by decide) ?_
          exact W.zret (v := (0 : Int32)) hx hb hr rfl (fun t ht_ hW => ⟨⟨(0 : Int32), (xb_si σ 0 0 (0 : Int32)), rfl, ⟨congrArg Prod.fst ((((if_neg c1).trans ((if_neg c2).trans ((if_neg c3).trans ((if_neg c4))))).symm) : ((0 : Int32), (xb_si σ 0 0 (0 : Int32))) = q_alter x1 x2 x3 σ), congrArg Prod.snd ((((if_neg c1).trans ((if_neg c2).trans ((if_neg c3).trans ((if_neg c4))))).symm) : ((0 : Int32), (xb_si σ 0 0 (0 : Int32))) = q_alter x1 x2 x3 σ)⟩, by rw [sm_B, ht_]; exact hP⟩, hS.F ht_⟩) hS.2.2 d_M_alter_31
theorem ok_q_alter {σ : xb_St} (x1 : Int32) (x2 : Int32) (x3 : Int32)  (ok : sm_ok σ) : sm_ok (q_alter x1 x2 x3 σ).2 := by
  unfold q_alter
  by_cases c1 : (g_isEnd x1) = 0
  · rw [if_pos c1]
    exact (mk_si ok (by decide))
  · rw [if_neg c1]
    have zc1 := sm_end c1
    by_cases c2 : (σ.1 24 x1.toNatClampNeg) = 0
    · rw [if_pos c2]
      exact (mk_si ok (by decide))
    · rw [if_neg c2]
      by_cases c3 : x2 < 0
      · rw [if_pos c3]
        exact (mk_si ok (by decide))
      · rw [if_neg c3]
        have zc3 := sp_nn c3
        by_cases c4 : x2 ≤ (5 : Int32)
        · rw [if_pos c4]
          by_cases c5 : x2 = 0
          · rw [if_pos c5]
            exact (mk_si (mk_si ok (by decide)) (by decide))
          · rw [if_neg c5]
            by_cases c6 : x2 = (5 : Int32)
            · rw [if_pos c6]
              exact (mk_sl (mk_si ok (by decide)))
            · rw [if_neg c6]
              exact (mk_sl (mk_si ok (by decide)))
        · rw [if_neg c4]
          exact (mk_si ok (by decide))
abbrev b_M_packet : ByteArray := prog_12_method_53_code
def y_M_packet : MethodName := ⟨"SecurePairModel", "packet", "(III)J"⟩
abbrev w_M_packet : List Cond := .code y_M_packet b_M_packet 5 (some .long) :: xa
theorem d_M_packet_0 : decode b_M_packet 0 = .ok (.aload_n 0, 1) := by decide +kernel
theorem d_M_packet_1 : decode b_M_packet 1 = .ok (.iconst 0, 1) := by decide +kernel
theorem d_M_packet_2 : decode b_M_packet 2 = .ok (.putfield 120, 3) := by decide +kernel
theorem d_M_packet_5 : decode b_M_packet 5 = .ok (.iload_n 1, 1) := by decide +kernel
theorem d_M_packet_6 : decode b_M_packet 6 = .ok (.invokestatic 169, 3) := by decide +kernel
theorem d_M_packet_9 : decode b_M_packet 9 = .ok (.ifCond .eq 26, 3) := by decide +kernel
theorem d_M_packet_12 : decode b_M_packet 12 = .ok (.iload_n 2, 1) := by decide +kernel
theorem d_M_packet_13 : decode b_M_packet 13 = .ok (.ifCond .lt 22, 3) := by decide +kernel
theorem d_M_packet_16 : decode b_M_packet 16 = .ok (.iload_n 2, 1) := by decide +kernel
theorem d_M_packet_17 : decode b_M_packet 17 = .ok (.aload_n 0, 1) := by decide +kernel
theorem d_M_packet_18 : decode b_M_packet 18 = .ok (.getfield 87, 3) := by decide +kernel
theorem d_M_packet_21 : decode b_M_packet 21 = .ok (.iload_n 1, 1) := by decide +kernel
theorem d_M_packet_22 : decode b_M_packet 22 = .ok (.iaload, 1) := by decide +kernel
theorem d_M_packet_23 : decode b_M_packet 23 = .ok (.if_icmp .ge 12, 3) := by decide +kernel
theorem d_M_packet_26 : decode b_M_packet 26 = .ok (.iload_n 3, 1) := by decide +kernel
theorem d_M_packet_27 : decode b_M_packet 27 = .ok (.ifCond .lt 8, 3) := by decide +kernel
theorem d_M_packet_30 : decode b_M_packet 30 = .ok (.iload_n 3, 1) := by decide +kernel
theorem d_M_packet_31 : decode b_M_packet 31 = .ok (.iconst 5, 1) := by decide +kernel
theorem d_M_packet_32 : decode b_M_packet 32 = .ok (.if_icmp .le 5, 3) := by decide +kernel
theorem d_M_packet_35 : decode b_M_packet 35 = .ok (.lconst 0, 1) := by decide +kernel
theorem d_M_packet_36 : decode b_M_packet 36 = .ok (.lreturn, 1) := by decide +kernel
theorem d_M_packet_37 : decode b_M_packet 37 = .ok (.bipush 16, 2) := by decide +kernel
theorem d_M_packet_39 : decode b_M_packet 39 = .ok (.iload_n 1, 1) := by decide +kernel
theorem d_M_packet_40 : decode b_M_packet 40 = .ok (.imul, 1) := by decide +kernel
theorem d_M_packet_41 : decode b_M_packet 41 = .ok (.iload_n 2, 1) := by decide +kernel
theorem d_M_packet_42 : decode b_M_packet 42 = .ok (.iadd, 1) := by decide +kernel
theorem d_M_packet_43 : decode b_M_packet 43 = .ok (.istore 4, 2) := by decide +kernel
theorem d_M_packet_45 : decode b_M_packet 45 = .ok (.iload_n 3, 1) := by decide +kernel
theorem d_M_packet_46 : decode b_M_packet 46 = .ok (.ifCond .ne 14, 3) := by decide +kernel
theorem d_M_packet_49 : decode b_M_packet 49 = .ok (.aload_n 0, 1) := by decide +kernel
theorem d_M_packet_50 : decode b_M_packet 50 = .ok (.getfield 90, 3) := by decide +kernel
theorem d_M_packet_53 : decode b_M_packet 53 = .ok (.iload 4, 2) := by decide +kernel
theorem d_M_packet_55 : decode b_M_packet 55 = .ok (.iaload, 1) := by decide +kernel
theorem d_M_packet_56 : decode b_M_packet 56 = .ok (.i2l, 1) := by decide +kernel
theorem d_M_packet_57 : decode b_M_packet 57 = .ok (.goto 31, 3) := by decide +kernel
theorem d_M_packet_60 : decode b_M_packet 60 = .ok (.iload_n 3, 1) := by decide +kernel
theorem d_M_packet_61 : decode b_M_packet 61 = .ok (.iconst 5, 1) := by decide +kernel
theorem d_M_packet_62 : decode b_M_packet 62 = .ok (.if_icmp .ne 13, 3) := by decide +kernel
theorem d_M_packet_65 : decode b_M_packet 65 = .ok (.aload_n 0, 1) := by decide +kernel
theorem d_M_packet_66 : decode b_M_packet 66 = .ok (.getfield 96, 3) := by decide +kernel
theorem d_M_packet_69 : decode b_M_packet 69 = .ok (.iload 4, 2) := by decide +kernel
theorem d_M_packet_71 : decode b_M_packet 71 = .ok (.laload, 1) := by decide +kernel
theorem d_M_packet_72 : decode b_M_packet 72 = .ok (.goto 16, 3) := by decide +kernel
theorem d_M_packet_75 : decode b_M_packet 75 = .ok (.aload_n 0, 1) := by decide +kernel
theorem d_M_packet_76 : decode b_M_packet 76 = .ok (.getfield 93, 3) := by decide +kernel
theorem d_M_packet_79 : decode b_M_packet 79 = .ok (.iconst 4, 1) := by decide +kernel
theorem d_M_packet_80 : decode b_M_packet 80 = .ok (.iload 4, 2) := by decide +kernel
theorem d_M_packet_82 : decode b_M_packet 82 = .ok (.imul, 1) := by decide +kernel
theorem d_M_packet_83 : decode b_M_packet 83 = .ok (.iload_n 3, 1) := by decide +kernel
theorem d_M_packet_84 : decode b_M_packet 84 = .ok (.iadd, 1) := by decide +kernel
theorem d_M_packet_85 : decode b_M_packet 85 = .ok (.iconst 1, 1) := by decide +kernel
theorem d_M_packet_86 : decode b_M_packet 86 = .ok (.isub, 1) := by decide +kernel
theorem d_M_packet_87 : decode b_M_packet 87 = .ok (.laload, 1) := by decide +kernel
theorem d_M_packet_88 : decode b_M_packet 88 = .ok (.lreturn, 1) := by decide +kernel
def q_packet (x1 : Int32) (x2 : Int32) (x3 : Int32) (σ : xb_St) : Int64 × xb_St := (if (g_isEnd x1) = 0 then ((0 : Int64), (xb_si σ 0 0 (0 : Int32))) else (if x2 < 0 then ((0 : Int64), (xb_si σ 0 0 (0 : Int32))) else (if (σ.1 24 x1.toNatClampNeg) ≤ x2 then ((0 : Int64), (xb_si σ 0 0 (0 : Int32))) else (if x3 < 0 then ((0 : Int64), (xb_si σ 0 0 (0 : Int32))) else (if x3 ≤ (5 : Int32) then (if x3 = 0 then ((σ.1 25 ((16 * x1.toNatClampNeg) + x2.toNatClampNeg)).toInt64, (xb_si σ 0 0 (0 : Int32))) else (if x3 = (5 : Int32) then ((σ.2 27 ((16 * x1.toNatClampNeg) + x2.toNatClampNeg)), (xb_si σ 0 0 (0 : Int32))) else ((σ.2 26 (((4 * ((16 * x1.toNatClampNeg) + x2.toNatClampNeg)) + x3.toNatClampNeg) - 1)), (xb_si σ 0 0 (0 : Int32))))) else ((0 : Int64), (xb_si σ 0 0 (0 : Int32))))))))
set_option maxHeartbeats 4000000 in
set_option maxRecDepth 100000 in
theorem c_M_packet (l : Launch) (D : va_G) (α : Nat → Nat) (κ : Nat → ClassId) (hα : xb_inj α 35) (σ : xb_St) (x1 : Int32) (x2 : Int32) (x3 : Int32) (ok : sm_ok σ) : Met l y_M_packet w_M_packet ({ frames := 1, cells := 0, slots := 0, locals := 20 }) (va_Pc ([.ref (α 0), .int x1, .int x2, .int x3]) (sm_Pre D α κ σ)) (va_Ql (fun r (u : xb_St) => r = (q_packet x1 x2 x3 σ).1 ∧ u = (q_packet x1 x2 x3 σ).2) (sm_B D α κ) (xb_A α 35)) 0 0 (xb_A α 35) := by
  refine Met.ofW (cc := b_M_packet) (maxL := 5) (ret := (some .long)) (by decide) rfl ?_
  intro p e s m args below meth c s₁ B_ hml hv
  obtain ⟨rfl, hP, hK, hN⟩ := hv
  have hx := B_.exec
  have hb := B_.bytes
  have hr := B_.returns
  have hts := atoms_spec (ws := w_M_packet) B_.pre
  have ht : ∀ w ∈ xa, w.before _ s = true := fun w h => hts w (List.mem_cons_of_mem _ h)
  have hown : s.vm.findClass "SecurePairModel" = some m.cls := findClass_of_methodNamed B_.named
  have hlocks := B_.notSynchronized
  have hD := sm_D hα κ
  have hS : va_S (xb_A α 35) s.heap s.heap [] := va_S.rf
  have hl := lv_entry ([.ref (α 0), .int x1, .int x2, .int x3]) (n := 5) (Nat.le_of_ble_eq_true rfl)
  rw [lg_entry_eq]
  generalize (lg_sl ([.ref (α 0), .int x1, .int x2, .int x3]) ++ List.replicate (5 - (lg_sl ([.ref (α 0), .int x1, .int x2, .int x3])).length) Slot.unset).toArray = ls at hl ⊢
  have hl : lv_has ls 5 [(0, .ref (α 0)), (1, .int x1), (2, .int x2), (3, .int x3)] := hl
  refine lv_aload_n hx hb d_M_packet_0 rfl (lv_at hl 0 rfl) ?_
  refine lv_iconst (v := 0) hx hb d_M_packet_1 (by decide) ?_
  refine sm_pi (x := (0 : Int32)) (ty := .int) hx hb ht hown hK hP 0 (by decide) (ht _ xw952) (fun _ h_ => h_) hD hS rfl (by decide +kernel) rfl rfl sm_f_0 d_M_packet_2 (fun H locs hP hS => ?_)
  refine lv_iload_n hx hb d_M_packet_5 rfl (lv_at hl 1 rfl) ?_
  refine vp_callSi (W.runS (As := [.int x1]) (rest := []) ⟨hx, hb, hml, hown, hts⟩ (c_M_isEnd l x1) (cwS 1 hts (xa_S xw1073 xw1074 xw11 xw1075) rfl rfl rfl (by decide +kernel) ⟨Nat.le_of_ble_eq_true rfl, Nat.le_of_ble_eq_true rfl⟩) preEq rfl rfl hl.1 rfl (lv_room (Nat.le_of_ble_eq_true rfl)) d_M_packet_6 ⟨Nat.le_of_ble_eq_true rfl, Nat.le_of_ble_eq_true rfl⟩) (fun r_ e_ => ?_)
  subst e_
  refine lv_if_eq (tgt := 35) hx hb d_M_packet_9 (by decide) (fun c1 => ?_) (fun c1 => ?_)
  · skip
    refine lv_lconst (v := 0) hx hb d_M_packet_35 (by decide) ?_
    exact W.lret (v := (0 : Int64)) hx hb hr (fun t ht_ hW => ⟨⟨(0 : Int64), (xb_si σ 0 0 (0 : Int32)), rfl, ⟨congrArg Prod.fst ((((if_pos c1)).symm) : ((0 : Int64), (xb_si σ 0 0 (0 : Int32))) = q_packet x1 x2 x3 σ), congrArg Prod.snd ((((if_pos c1)).symm) : ((0 : Int64), (xb_si σ 0 0 (0 : Int32))) = q_packet x1 x2 x3 σ)⟩, by rw [sm_B, ht_]; exact hP⟩, hS.F ht_⟩) hS.2.2 d_M_packet_36
  · skip
    have zc1 := sm_end c1; obtain ⟨n0, hn0, en0⟩ := ok.1 x1.toNatClampNeg zc1.2; have yc1 := xb_nb en0 (by omega); have wc1 : (σ.1 24 x1.toNatClampNeg).toNatClampNeg ≤ 16 := by rw [yc1.2]; exact hn0
    refine lv_iload_n hx hb d_M_packet_12 rfl (lv_at hl 2 rfl) ?_
    refine lv_if_lt (tgt := 35) hx hb d_M_packet_13 (by decide) (fun c2 => ?_) (fun c2 => ?_)
    · skip
      refine lv_lconst (v := 0) hx hb d_M_packet_35 (by decide) ?_
      exact W.lret (v := (0 : Int64)) hx hb hr (fun t ht_ hW => ⟨⟨(0 : Int64), (xb_si σ 0 0 (0 : Int32)), rfl, ⟨congrArg Prod.fst ((((if_neg c1).trans ((if_pos c2))).symm) : ((0 : Int64), (xb_si σ 0 0 (0 : Int32))) = q_packet x1 x2 x3 σ), congrArg Prod.snd ((((if_neg c1).trans ((if_pos c2))).symm) : ((0 : Int64), (xb_si σ 0 0 (0 : Int32))) = q_packet x1 x2 x3 σ)⟩, by rw [sm_B, ht_]; exact hP⟩, hS.F ht_⟩) hS.2.2 d_M_packet_36
    · skip
      have zc2 := sp_nn c2
      refine lv_iload_n hx hb d_M_packet_16 rfl (lv_at hl 2 rfl) ?_
      refine lv_aload_n hx hb d_M_packet_17 rfl (lv_at hl 0 rfl) ?_
      refine sm_g (v := .ref (α 24)) hx hb ht hown hK hP 26 (by decide) (ht _ xw978) (fun _ h_ => h_) rfl d_M_packet_18 ?_
      refine lv_iload_n hx hb d_M_packet_21 rfl (lv_at hl 1 rfl) ?_
      refine sm_gaI (L := 2) (n := x1.toNatClampNeg) (v := (σ.1 24 x1.toNatClampNeg)) hx hb hK hP 24 23 rfl rfl (xb_in zc1.1 (by omega) (by decide)) (xb_cl zc1.1 (by omega)) (xb_i_nk (by decide)) d_M_packet_22 ?_
      refine lv_icmp_ge (tgt := 35) hx hb d_M_packet_23 (by decide) (fun c3 => ?_) (fun c3 => ?_)
      · skip
        have nc3 := (xb_leN yc1.1 zc2.1 (by omega) (by omega)).mp c3
        refine lv_lconst (v := 0) hx hb d_M_packet_35 (by decide) ?_
        exact W.lret (v := (0 : Int64)) hx hb hr (fun t ht_ hW => ⟨⟨(0 : Int64), (xb_si σ 0 0 (0 : Int32)), rfl, ⟨congrArg Prod.fst ((((if_neg c1).trans ((if_neg c2).trans ((if_pos c3)))).symm) : ((0 : Int64), (xb_si σ 0 0 (0 : Int32))) = q_packet x1 x2 x3 σ), congrArg Prod.snd ((((if_neg c1).trans ((if_neg c2).trans ((if_pos c3)))).symm) : ((0 : Int64), (xb_si σ 0 0 (0 : Int32))) = q_packet x1 x2 x3 σ)⟩, by rw [sm_B, ht_]; exact hP⟩, hS.F ht_⟩) hS.2.2 d_M_packet_36
      · skip
        have nc3 := mt (xb_leN yc1.1 zc2.1 (by omega) (by omega)).mpr c3
        refine lv_iload_n hx hb d_M_packet_26 rfl (lv_at hl 3 rfl) ?_
        refine lv_if_lt (tgt := 35) hx hb d_M_packet_27 (by decide) (fun c4 => ?_) (fun c4 => ?_)
        · skip
          refine lv_lconst (v := 0) hx hb d_M_packet_35 (by decide) ?_
          exact W.lret (v := (0 : Int64)) hx hb hr (fun t ht_ hW => ⟨⟨(0 : Int64), (xb_si σ 0 0 (0 : Int32)), rfl, ⟨congrArg Prod.fst ((((if_neg c1).trans ((if_neg c2).trans ((if_neg c3).trans ((if_pos c4))))).symm) : ((0 : Int64), (xb_si σ 0 0 (0 : Int32))) = q_packet x1 x2 x3 σ), congrArg Prod.snd ((((if_neg c1).trans ((if_neg c2).trans ((if_neg c3).trans ((if_pos c4))))).symm) : ((0 : Int64), (xb_si σ 0 0 (0 : Int32))) = q_packet x1 x2 x3 σ)⟩, by rw [sm_B, ht_]; exact hP⟩, hS.F ht_⟩) hS.2.2 d_M_packet_36
        · skip
          have zc4 := sp_nn c4
          refine lv_iload_n hx hb d_M_packet_30 rfl (lv_at hl 3 rfl) ?_
          refine lv_iconst (v := 5) hx hb d_M_packet_31 (by decide) ?_
          refine lv_icmp_le (tgt := 37) hx hb d_M_packet_32 (by decide) (fun c5 => ?_) (fun c5 => ?_)
          · skip
            have nc5 := (xb_leN zc4.1 (xb_lit (x := (5 : Int32)) 5 rfl) (by omega) (by omega)).mp c5
            refine lv_bipush (v := 16) hx hb d_M_packet_37 (by decide) ?_
            refine lv_iload_n hx hb d_M_packet_39 rfl (lv_at hl 1 rfl) ?_
            refine lv_imul hx hb d_M_packet_40 ?_
            refine lv_iload_n hx hb d_M_packet_41 rfl (lv_at hl 2 rfl) ?_
            refine lv_iadd hx hb d_M_packet_42 ?_
            refine lv_istore (lv' := [(4, .int (((16 : Int32) * x1) + x2)), (0, .ref (α 0)), (1, .int x1), (2, .int x2), (3, .int x3)]) hx hb d_M_packet_43 hl (by decide) rfl (fun ls hl => ?_)
            refine lv_iload_n hx hb d_M_packet_45 rfl (lv_at hl 4 rfl) ?_
            refine lv_if_ne (tgt := 60) hx hb d_M_packet_46 (by decide) (fun c6 => ?_) (fun c6 => ?_)
            · skip
              have nc6 := mt (xb_eqN zc4.1 (xb_lit (x := (0 : Int32)) 0 rfl) (by omega) (by omega)).mpr c6
              refine lv_iload_n hx hb d_M_packet_60 rfl (lv_at hl 4 rfl) ?_
              refine lv_iconst (v := 5) hx hb d_M_packet_61 (by decide) ?_
              refine lv_icmp_ne (tgt := 75) hx hb d_M_packet_62 (by decide) (fun c7 => ?_) (fun c7 => ?_)
              · skip
                have nc7 := mt (xb_eqN zc4.1 (xb_lit (x := (5 : Int32)) 5 rfl) (by omega) (by omega)).mpr c7
                refine lv_aload_n hx hb d_M_packet_75 rfl (lv_at hl 1 rfl) ?_
                refine sm_g (v := .ref (α 26)) hx hb ht hown hK hP 28 (by decide) (ht _ xw980) (fun _ h_ => h_) rfl d_M_packet_76 ?_
                refine lv_iconst (v := 4) hx hb d_M_packet_79 (by decide) ?_
                refine lv_iload hx hb d_M_packet_80 (lv_at hl 0 rfl) ?_
                refine lv_imul hx hb d_M_packet_82 ?_
                refine lv_iload_n hx hb d_M_packet_83 rfl (lv_at hl 4 rfl) ?_
                refine lv_iadd hx hb d_M_packet_84 ?_
                refine lv_iconst (v := 1) hx hb d_M_packet_85 (by decide) ?_
                refine lv_isub hx hb d_M_packet_86 ?_
                refine sm_gaJ (L := 136) (n := (((4 * ((16 * x1.toNatClampNeg) + x2.toNatClampNeg)) + x3.toNatClampNeg) - 1)) (v := (σ.2 26 (((4 * ((16 * x1.toNatClampNeg) + x2.toNatClampNeg)) + x3.toNatClampNeg) - 1))) hx hb hK hP 26 25 rfl rfl (xb_in (xb_ns (xb_na (xb_nm (xb_lit (x := (4 : Int32)) 4 rfl) (xb_na (xb_nm (xb_lit (x := (16 : Int32)) 16 rfl) zc1.1) zc2.1)) zc4.1) (xb_lit (x := (1 : Int32)) 1 rfl) (by omega)) (by omega) (by decide)) (xb_cl (xb_ns (xb_na (xb_nm (xb_lit (x := (4 : Int32)) 4 rfl) (xb_na (xb_nm (xb_lit (x := (16 : Int32)) 16 rfl) zc1.1) zc2.1)) zc4.1) (xb_lit (x := (1 : Int32)) 1 rfl) (by omega)) (by omega)) xb_l_i d_M_packet_87 ?_
                exact W.lret (v := (σ.2 26 (((4 * ((16 * x1.toNatClampNeg) + x2.toNatClampNeg)) + x3.toNatClampNeg) - 1))) hx hb hr (fun t ht_ hW => ⟨⟨(σ.2 26 (((4 * ((16 * x1.toNatClampNeg) + x2.toNatClampNeg)) + x3.toNatClampNeg) - 1)), (xb_si σ 0 0 (0 : Int32)), rfl, ⟨congrArg Prod.fst ((((if_neg c1).trans ((if_neg c2).trans ((if_neg c3).trans ((if_neg c4).trans ((if_pos c5).trans ((if_neg c6).trans ((if_neg c7)))))))).symm) : ((σ.2 26 (((4 * ((16 * x1.toNatClampNeg) + x2.toNatClampNeg)) + x3.toNatClampNeg) - 1)), (xb_si σ 0 0 (0 : Int32))) = q_packet x1 x2 x3 σ), congrArg Prod.snd ((((if_neg c1).trans ((if_neg c2).trans ((if_neg c3).trans ((if_neg c4).trans ((if_pos c5).trans ((if_neg c6).trans ((if_neg c7)))))))).symm) : ((σ.2 26 (((4 * ((16 * x1.toNatClampNeg) + x2.toNatClampNeg)) + x3.toNatClampNeg) - 1)), (xb_si σ 0 0 (0 : Int32))) = q_packet x1 x2 x3 σ)⟩, by rw [sm_B, ht_]; exact hP⟩, hS.F ht_⟩) hS.2.2 d_M_packet_88
              · skip
                have nc7 := (xb_eqN zc4.1 (xb_lit (x := (5 : Int32)) 5 rfl) (by omega) (by omega)).mp c7
                refine lv_aload_n hx hb d_M_packet_65 rfl (lv_at hl 1 rfl) ?_
                refine sm_g (v := .ref (α 27)) hx hb ht hown hK hP 29 (by decide) (ht _ xw981) (fun _ h_ => h_) rfl d_M_packet_66 ?_
                refine lv_iload hx hb d_M_packet_69 (lv_at hl 0 rfl) ?_
                refine sm_gaJ (L := 34) (n := ((16 * x1.toNatClampNeg) + x2.toNatClampNeg)) (v := (σ.2 27 ((16 * x1.toNatClampNeg) + x2.toNatClampNeg))) hx hb hK hP 27 26 rfl rfl (xb_in (xb_na (xb_nm (xb_lit (x := (16 : Int32)) 16 rfl) zc1.1) zc2.1) (by omega) (by decide)) (xb_cl (xb_na (xb_nm (xb_lit (x := (16 : Int32)) 16 rfl) zc1.1) zc2.1) (by omega)) xb_l_i d_M_packet_71 ?_
                refine lv_goto (tgt := 88) hx hb d_M_packet_72 (by decide) ?_
                exact W.lret (v := (σ.2 27 ((16 * x1.toNatClampNeg) + x2.toNatClampNeg))) hx hb hr (fun t ht_ hW => ⟨⟨(σ.2 27 ((16 * x1.toNatClampNeg) + x2.toNatClampNeg)), (xb_si σ 0 0 (0 : Int32)), rfl, ⟨congrArg Prod.fst ((((if_neg c1).trans ((if_neg c2).trans ((if_neg c3).trans ((if_neg c4).trans ((if_pos c5).trans ((if_neg c6).trans ((if_pos c7)))))))).symm) : ((σ.2 27 ((16 * x1.toNatClampNeg) + x2.toNatClampNeg)), (xb_si σ 0 0 (0 : Int32))) = q_packet x1 x2 x3 σ), congrArg Prod.snd ((((if_neg c1).trans ((if_neg c2).trans ((if_neg c3).trans ((if_neg c4).trans ((if_pos c5).trans ((if_neg c6).trans ((if_pos c7)))))))).symm) : ((σ.2 27 ((16 * x1.toNatClampNeg) + x2.toNatClampNeg)), (xb_si σ 0 0 (0 : Int32))) = q_packet x1 x2 x3 σ)⟩, by rw [sm_B, ht_]; exact hP⟩, hS.F ht_⟩) hS.2.2 d_M_packet_88
            · skip
              have nc6 := (xb_eqN zc4.1 (xb_lit (x := (0 : Int32)) 0 rfl) (by omega) (by omega)).mp c6
              refine lv_aload_n hx hb d_M_packet_49 rfl (lv_at hl 1 rfl) ?_
              refine sm_g (v := .ref (α 25)) hx hb ht hown hK hP 27 (by decide) (ht _ xw979) (fun _ h_ => h_) rfl d_M_packet_50 ?_
              refine lv_iload hx hb d_M_packet_53 (lv_at hl 0 rfl) ?_
              refine sm_gaI (L := 34) (n := ((16 * x1.toNatClampNeg) + x2.toNatClampNeg)) (v := (σ.1 25 ((16 * x1.toNatClampNeg) + x2.toNatClampNeg))) hx hb hK hP 25 24 rfl rfl (xb_in (xb_na (xb_nm (xb_lit (x := (16 : Int32)) 16 rfl) zc1.1) zc2.1) (by omega) (by decide)) (xb_cl (xb_na (xb_nm (xb_lit (x := (16 : Int32)) 16 rfl) zc1.1) zc2.1) (by omega)) (xb_i_nk (by decide)) d_M_packet_55 ?_
              refine lv_i2l (v := (σ.1 25 ((16 * x1.toNatClampNeg) + x2.toNatClampNeg)).toInt64) hx hb d_M_packet_56 (by rfl) ?_
              refine lv_goto (tgt := 88) hx hb d_M_packet_57 (by decide) ?_
              exact W.lret (v := (σ.1 25 ((16 * x1.toNatClampNeg) + x2.toNatClampNeg)).toInt64) hx hb hr (fun t ht_ hW => ⟨⟨(σ.1 25 ((16 * x1.toNatClampNeg) + x2.toNatClampNeg)).toInt64, (xb_si σ 0 0 (0 : Int32)), rfl, ⟨congrArg Prod.fst ((((if_neg c1).trans ((if_neg c2).trans ((if_neg c3).trans ((if_neg c4).trans ((if_pos c5).trans ((if_pos c6))))))).symm) : ((σ.1 25 ((16 * x1.toNatClampNeg) + x2.toNatClampNeg)).toInt64, (xb_si σ 0 0 (0 : Int32))) = q_packet x1 x2 x3 σ), congrArg Prod.snd ((((if_neg c1).trans ((if_neg c2).trans ((if_neg c3).trans ((if_neg c4).trans ((if_pos c5).trans ((if_pos c6))))))).symm) : ((σ.1 25 ((16 * x1.toNatClampNeg) + x2.toNatClampNeg)).toInt64, (xb_si σ 0 0 (0 : Int32))) = q_packet x1 x2 x3 σ)⟩, by rw [sm_B, ht_]; exact hP⟩, hS.F ht_⟩) hS.2.2 d_M_packet_88
          · skip
            have nc5 := mt (xb_leN zc4.1 (xb_lit (x := (5 : Int32)) 5 rfl) (by omega) (by omega)).mpr c5
            refine lv_lconst (v := 0) hx hb d_M_packet_35 (by decide) ?_
            exact W.lret (v := (0 : Int64)) hx hb hr (fun t ht_ hW => ⟨⟨(0 : Int64), (xb_si σ 0 0 (0 : Int32)), rfl, ⟨congrArg Prod.fst ((((if_neg c1).trans ((if_neg c2).trans ((if_neg c3).trans ((if_neg c4).trans ((if_neg c5)))))).symm) : ((0 : Int64), (xb_si σ 0 0 (0 : Int32))) = q_packet x1 x2 x3 σ), congrArg Prod.snd ((((if_neg c1).trans ((if_neg c2).trans ((if_neg c3).trans ((if_neg c4).trans ((if_neg c5)))))).symm) : ((0 : Int64), (xb_si σ 0 0 (0 : Int32))) = q_packet x1 x2 x3 σ)⟩, by rw [sm_B, ht_]; exact hP⟩, hS.F ht_⟩) hS.2.2 d_M_packet_36
theorem ok_q_packet {σ : xb_St} (x1 : Int32) (x2 : Int32) (x3 : Int32)  (ok : sm_ok σ) : sm_ok (q_packet x1 x2 x3 σ).2 := by
  unfold q_packet
  by_cases c1 : (g_isEnd x1) = 0
  · rw [if_pos c1]
    exact (mk_si ok (by decide))
  · rw [if_neg c1]
    have zc1 := sm_end c1; obtain ⟨n0, hn0, en0⟩ := ok.1 x1.toNatClampNeg zc1.2; have yc1 := xb_nb en0 (by omega); have wc1 : (σ.1 24 x1.toNatClampNeg).toNatClampNeg ≤ 16 := by rw [yc1.2]; exact hn0
    by_cases c2 : x2 < 0
    · rw [if_pos c2]
      exact (mk_si ok (by decide))
    · rw [if_neg c2]
      have zc2 := sp_nn c2
      by_cases c3 : (σ.1 24 x1.toNatClampNeg) ≤ x2
      · rw [if_pos c3]
        exact (mk_si ok (by decide))
      · rw [if_neg c3]
        by_cases c4 : x3 < 0
        · rw [if_pos c4]
          exact (mk_si ok (by decide))
        · rw [if_neg c4]
          have zc4 := sp_nn c4
          by_cases c5 : x3 ≤ (5 : Int32)
          · rw [if_pos c5]
            by_cases c6 : x3 = 0
            · rw [if_pos c6]
              exact (mk_si ok (by decide))
            · rw [if_neg c6]
              by_cases c7 : x3 = (5 : Int32)
              · rw [if_pos c7]
                exact (mk_si ok (by decide))
              · rw [if_neg c7]
                exact (mk_si ok (by decide))
          · rw [if_neg c5]
            exact (mk_si ok (by decide))
