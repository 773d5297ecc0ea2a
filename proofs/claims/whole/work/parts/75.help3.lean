abbrev b_L_read : ByteArray := method_7_code
def y_L_read : MethodName := ⟨"SecurePairLaw", "read", "(LSecurePair;II[J)I"⟩
abbrev w_L_read : List Cond := .codeWith y_L_read b_L_read 5 (some .int) [(0, 10, 13, 13)] :: xa
theorem d_L_read_0 : decode b_L_read 0 = .ok (.aload_n 3, 1) := by decide +kernel
theorem d_L_read_1 : decode b_L_read 1 = .ok (.iconst 0, 1) := by decide +kernel
theorem d_L_read_2 : decode b_L_read 2 = .ok (.aload_n 0, 1) := by decide +kernel
theorem d_L_read_3 : decode b_L_read 3 = .ok (.iload_n 1, 1) := by decide +kernel
theorem d_L_read_4 : decode b_L_read 4 = .ok (.iload_n 2, 1) := by decide +kernel
theorem d_L_read_5 : decode b_L_read 5 = .ok (.invokevirtual 31, 3) := by decide +kernel
theorem d_L_read_8 : decode b_L_read 8 = .ok (.i2l, 1) := by decide +kernel
theorem d_L_read_9 : decode b_L_read 9 = .ok (.lastore, 1) := by decide +kernel
theorem d_L_read_10 : decode b_L_read 10 = .ok (.goto 7, 3) := by decide +kernel
theorem d_L_read_13 : decode b_L_read 13 = .ok (.astore 4, 2) := by decide +kernel
theorem d_L_read_15 : decode b_L_read 15 = .ok (.iconst 1, 1) := by decide +kernel
theorem d_L_read_16 : decode b_L_read 16 = .ok (.ireturn, 1) := by decide +kernel
theorem d_L_read_17 : decode b_L_read 17 = .ok (.iconst 0, 1) := by decide +kernel
theorem d_L_read_18 : decode b_L_read 18 = .ok (.ireturn, 1) := by decide +kernel
theorem xw916 : (Cond.methodLink "SecurePairLaw" (31 : Nat) ({ cls := "SecurePair", name := "read", desc := "(II)I" } : MethodName)) ∈ xa := xa_t 916 (by decide +kernel) (by decide +kernel)
theorem xw917 : (Cond.instanceMethod ({ cls := "SecurePair", name := "read", desc := "(II)I" } : MethodName)) ∈ xa := xa_t 917 (by decide +kernel) (by decide +kernel)
theorem xw918 : (Cond.selects "SecurePair" ({ cls := "SecurePair", name := "read", desc := "(II)I" } : MethodName) ({ cls := "SecurePair", name := "read", desc := "(II)I" } : MethodName)) ∈ xa := xa_t 918 (by decide +kernel) (by decide +kernel)
theorem xw919 : (Cond.code ({ cls := "SecurePair", name := "read", desc := "(II)I" } : MethodName) prog_1_method_10_code (6 : Nat) (Option.some ClassFile.FieldType.int)) ∈ xa := xa_t 919 (by decide +kernel) (by decide +kernel)
set_option maxHeartbeats 4000000 in
set_option maxRecDepth 100000 in
theorem c_L_read (l : Launch) (D : va_G) (α : Nat → Nat) (κ : Nat → ClassId) (hα : xb_inj α 35) (htr : l.stackTraces = false) (oa : Nat) (ko : ClassId) (ho : ¬ xb_A α 35 oa) (σ : xb_St) (g : Nat → Int64) (x1 : Int32) (x2 : Int32) (ok : sp_ok σ) : Met l y_L_read w_L_read ({ frames := 8, cells := 1, slots := 6, locals := 137 }) (va_Pc ([.ref (α 0), .int x1, .int x2, .ref oa]) (lh_Pre D α κ oa ko σ g)) (va_Qi (fun r (u : xb_St × Int64) => r = nI (th_P_read 0 x1 x2 σ) ∧ ((th_P_read 0 x1 x2 σ) = 0 → u = ((p_read 0 x1 x2 σ).2, (p_read 0 x1 x2 σ).1.toInt64)) ∧ (¬ (th_P_read 0 x1 x2 σ) = 0 → u = (σ, g 0))) (lh_B D α κ oa ko) (lh_A α oa)) 1 6 (lh_A α oa) := by
  refine xh_ofW (cc := b_L_read) (maxL := 5) (ret := (some .int)) (hh := [(0, 10, 13, 13)]) (by decide) rfl ?_
  intro p e s m args below meth c s₁ B_ hml hte hv
  obtain ⟨rfl, hP, hK, hN, hG, hC⟩ := hv
  have hx := B_.exec
  have hb := B_.bytes
  have hr := B_.returns
  have hts := atoms_spec (ws := w_L_read) B_.pre
  have ht : ∀ w ∈ xa, w.before _ s = true := fun w h => hts w (List.mem_cons_of_mem _ h)
  have hown : s.vm.findClass "SecurePairLaw" = some m.cls := findClass_of_methodNamed B_.named
  have hlocks := B_.notSynchronized
  have hD := fun σ g => lh_D hα κ ho ko σ g
  have hS : va_S (lh_A α oa) s.heap s.heap [] := va_S.rf
  have hP0 := lh_sp hP
  have hPo := lh_o hP
  have hK0 : va_K D xC (sp_t κ) s := hK.sub (List.range 10) rfl
  have hl := lv_entry ([.ref (α 0), .int x1, .int x2, .ref oa]) (n := 5) (Nat.le_of_ble_eq_true rfl)
  rw [lg_entry_eq]
  generalize (lg_sl ([.ref (α 0), .int x1, .int x2, .ref oa]) ++ List.replicate (5 - (lg_sl ([.ref (α 0), .int x1, .int x2, .ref oa])).length) Slot.unset).toArray = ls at hl ⊢
  have hl : lv_has ls 5 [(0, .ref (α 0)), (1, .int x1), (2, .int x2), (3, .ref oa)] := hl
  refine lv_aload_n hx hb d_L_read_0 rfl (lv_at hl 3 rfl) ?_
  refine lv_iconst (v := 0) hx hb d_L_read_1 (by decide) ?_
  refine lv_aload_n hx hb d_L_read_2 rfl (lv_at hl 0 rfl) ?_
  refine lv_iload_n hx hb d_L_read_3 rfl (lv_at hl 1 rfl) ?_
  refine lv_iload_n hx hb d_L_read_4 rfl (lv_at hl 2 rfl) ?_
  by_cases h0 : (th_P_read 0 x1 x2 σ) = 0
  · skip
    refine va_calli (va_runV (As := [.int x1, .int x2]) (rest := [.int (0 : Int32), .ref oa]) ⟨hx, hb, hml, hown, hts⟩ (c_P_read l D α κ hα σ 0 x1 x2 rfl ok h0) (cwV 2 hts (xa_V xw916 xw917 xw918 xw1 xw919) rfl rfl rfl (by decide +kernel) ⟨Nat.le_of_ble_eq_true rfl, Nat.le_of_ble_eq_true rfl⟩) ⟨sp_blind, va_recv hK0 hP0 rfl (sp_at_P rfl), sp_pre hP0 hK0 hN _⟩ rfl rfl hl.1 rfl (lv_room (Nat.le_of_ble_eq_true rfl)) d_L_read_5 ⟨Nat.le_of_ble_eq_true rfl, Nat.le_of_ble_eq_true rfl⟩) hS (fun q _ h => Or.inl h) (fun q h => Or.inl h) (fun r u t H locs ht_ hvm hu hB hz hk hS => ?_)
    obtain ⟨rfl, rfl⟩ := hu
    have hP1 : va_P D xC (sp_w α κ (p_read 0 x1 x2 σ).2) H := by rw [← ht_]; exact hB
    have hP2 := hPo.kept (H1 := H) (fun k q hq => hk q.1 ((hPo k q hq).lt) (lh_ne hq ho))
    have hP := lh_j hP1 hP2
    refine lv_i2l (v := (p_read 0 x1 x2 σ).1.toInt64) hx hb d_L_read_8 rfl ?_
    refine va_last hx hb hK hP (hD _ _) hS 35 10 rfl rfl (i := 0) (xb_in (x := (0 : Int32)) (xb_lit 0 rfl) (by decide) (by decide)) d_L_read_9 (fun H locs hP _ hS => ?_)
    refine lv_goto (tgt := 17) hx hb d_L_read_10 (by decide) ?_
    refine lv_iconst (v := 0) hx hb d_L_read_17 (by decide) ?_
    refine W.widen (k := 1) (n := 6) (by decide) (by decide) ?_
    exact W.iret (v := 0) hx hb hr (fun t ht_ hW => ⟨⟨0, ((p_read 0 x1 x2 σ).2, (p_read 0 x1 x2 σ).1.toInt64), rfl, ⟨by rw [h0]; rfl, fun _ => rfl, fun z => absurd h0 z⟩, ⟨_, rfl, by rw [ht_]; exact hP⟩⟩, hS.F ht_⟩) hS.2.2 d_L_read_18
  · skip
    have h1 : (th_P_read 0 x1 x2 σ) = 1 := (th_P_read_v 0 x1 x2 σ h0)
    refine xt_catch (own := "SecurePairLaw") (name := "java/lang/IndexOutOfBoundsException") (xt_runV (As := [.int x1, .int x2]) (rest := [.int (0 : Int32), .ref oa]) ⟨hx, hb, hml, hown, hts⟩ (t_P_read_1 l D α κ hα htr σ 0 x1 x2 rfl h1) (cwV 2 hts (xa_V xw916 xw917 xw918 xw1 xw919) rfl rfl rfl (by decide +kernel) ⟨Nat.le_of_ble_eq_true rfl, Nat.le_of_ble_eq_true rfl⟩) ⟨st_blind, va_recv hK0 hP0 rfl (sp_at_P rfl), st_pre hP0 hK0 hN hG va_S.rf _⟩ rfl rfl hl.1 rfl (lv_room (Nat.le_of_ble_eq_true rfl)) d_L_read_5 ⟨by decide, by decide⟩) hown [] ⟨0, 10, 13, 13⟩ [] (by rw [hte]; rfl) (fun z hz => nomatch hz) (by decide) (by decide) (ht _ xw503) (va_Nw.use rfl (hG.2.1 "java/lang/IndexOutOfBoundsException" (by decide))) (fun q H hz hk => ?_)
    refine lv_astore (lv' := [(4, .ref q), (0, .ref (α 0)), (1, .int x1), (2, .int x2), (3, .ref oa)]) hx hb d_L_read_13 hl (by decide) rfl (fun ls hl => ?_)
    refine lv_iconst (v := 1) hx hb d_L_read_15 (by decide) ?_
    have hP9 := hP.kept (H1 := H) (fun k q hq => hk q.1 ((hP k q hq).lt))
    exact W.iret (v := 1) hx hb hr (fun t ht_ hW => ⟨⟨1, (σ, g 0), rfl, ⟨by rw [h1]; rfl, fun z => absurd z (by rw [h1]; decide), fun _ => rfl⟩, ⟨_, rfl, by rw [ht_]; exact hP9⟩⟩, by rw [ht_]; exact hz, fun q hq _ => by rw [ht_]; exact hk q hq⟩) (fun z hz => nomatch hz) d_L_read_16
abbrev b_L_close : ByteArray := method_8_code
def y_L_close : MethodName := ⟨"SecurePairLaw", "close", "(LSecurePair;II[J)I"⟩
abbrev w_L_close : List Cond := .codeWith y_L_close b_L_close 5 (some .int) [(0, 10, 13, 13), (0, 10, 17, 15)] :: xa
theorem d_L_close_0 : decode b_L_close 0 = .ok (.aload_n 3, 1) := by decide +kernel
theorem d_L_close_1 : decode b_L_close 1 = .ok (.iconst 0, 1) := by decide +kernel
theorem d_L_close_2 : decode b_L_close 2 = .ok (.aload_n 0, 1) := by decide +kernel
theorem d_L_close_3 : decode b_L_close 3 = .ok (.iload_n 1, 1) := by decide +kernel
theorem d_L_close_4 : decode b_L_close 4 = .ok (.iload_n 2, 1) := by decide +kernel
theorem d_L_close_5 : decode b_L_close 5 = .ok (.invokevirtual 35, 3) := by decide +kernel
theorem d_L_close_8 : decode b_L_close 8 = .ok (.i2l, 1) := by decide +kernel
theorem d_L_close_9 : decode b_L_close 9 = .ok (.lastore, 1) := by decide +kernel
theorem d_L_close_10 : decode b_L_close 10 = .ok (.goto 11, 3) := by decide +kernel
theorem d_L_close_13 : decode b_L_close 13 = .ok (.astore 4, 2) := by decide +kernel
theorem d_L_close_15 : decode b_L_close 15 = .ok (.iconst 1, 1) := by decide +kernel
theorem d_L_close_16 : decode b_L_close 16 = .ok (.ireturn, 1) := by decide +kernel
theorem d_L_close_17 : decode b_L_close 17 = .ok (.astore 4, 2) := by decide +kernel
theorem d_L_close_19 : decode b_L_close 19 = .ok (.iconst 2, 1) := by decide +kernel
theorem d_L_close_20 : decode b_L_close 20 = .ok (.ireturn, 1) := by decide +kernel
theorem d_L_close_21 : decode b_L_close 21 = .ok (.iconst 0, 1) := by decide +kernel
theorem d_L_close_22 : decode b_L_close 22 = .ok (.ireturn, 1) := by decide +kernel
theorem xw934 : (Cond.methodLink "SecurePairLaw" (35 : Nat) ({ cls := "SecurePair", name := "close", desc := "(II)I" } : MethodName)) ∈ xa := xa_t 934 (by decide +kernel) (by decide +kernel)
theorem xw935 : (Cond.instanceMethod ({ cls := "SecurePair", name := "close", desc := "(II)I" } : MethodName)) ∈ xa := xa_t 935 (by decide +kernel) (by decide +kernel)
theorem xw936 : (Cond.selects "SecurePair" ({ cls := "SecurePair", name := "close", desc := "(II)I" } : MethodName) ({ cls := "SecurePair", name := "close", desc := "(II)I" } : MethodName)) ∈ xa := xa_t 936 (by decide +kernel) (by decide +kernel)
theorem xw937 : (Cond.code ({ cls := "SecurePair", name := "close", desc := "(II)I" } : MethodName) prog_1_method_11_code (5 : Nat) (Option.some ClassFile.FieldType.int)) ∈ xa := xa_t 937 (by decide +kernel) (by decide +kernel)
set_option maxHeartbeats 4000000 in
set_option maxRecDepth 100000 in
theorem c_L_close (l : Launch) (D : va_G) (α : Nat → Nat) (κ : Nat → ClassId) (hα : xb_inj α 35) (htr : l.stackTraces = false) (oa : Nat) (ko : ClassId) (ho : ¬ xb_A α 35 oa) (σ : xb_St) (g : Nat → Int64) (x1 : Int32) (x2 : Int32) (ok : sp_ok σ) : Met l y_L_close w_L_close ({ frames := 9, cells := 1, slots := 6, locals := 158 }) (va_Pc ([.ref (α 0), .int x1, .int x2, .ref oa]) (lh_Pre D α κ oa ko σ g)) (va_Qi (fun r (u : xb_St × Int64) => r = nI (th_P_close 0 x1 x2 σ) ∧ ((th_P_close 0 x1 x2 σ) = 0 → u = ((p_close 0 x1 x2 σ).2, (p_close 0 x1 x2 σ).1.toInt64)) ∧ (¬ (th_P_close 0 x1 x2 σ) = 0 → u = (σ, g 0))) (lh_B D α κ oa ko) (lh_A α oa)) 1 6 (lh_A α oa) := by
  refine xh_ofW (cc := b_L_close) (maxL := 5) (ret := (some .int)) (hh := [(0, 10, 13, 13), (0, 10, 17, 15)]) (by decide) rfl ?_
  intro p e s m args below meth c s₁ B_ hml hte hv
  obtain ⟨rfl, hP, hK, hN, hG, hC⟩ := hv
  have hx := B_.exec
  have hb := B_.bytes
  have hr := B_.returns
  have hts := atoms_spec (ws := w_L_close) B_.pre
  have ht : ∀ w ∈ xa, w.before _ s = true := fun w h => hts w (List.mem_cons_of_mem _ h)
  have hown : s.vm.findClass "SecurePairLaw" = some m.cls := findClass_of_methodNamed B_.named
  have hlocks := B_.notSynchronized
  have hD := fun σ g => lh_D hα κ ho ko σ g
  have hS : va_S (lh_A α oa) s.heap s.heap [] := va_S.rf
  have hP0 := lh_sp hP
  have hPo := lh_o hP
  have hK0 : va_K D xC (sp_t κ) s := hK.sub (List.range 10) rfl
  have hl := lv_entry ([.ref (α 0), .int x1, .int x2, .ref oa]) (n := 5) (Nat.le_of_ble_eq_true rfl)
  rw [lg_entry_eq]
  generalize (lg_sl ([.ref (α 0), .int x1, .int x2, .ref oa]) ++ List.replicate (5 - (lg_sl ([.ref (α 0), .int x1, .int x2, .ref oa])).length) Slot.unset).toArray = ls at hl ⊢
  have hl : lv_has ls 5 [(0, .ref (α 0)), (1, .int x1), (2, .int x2), (3, .ref oa)] := hl
  refine lv_aload_n hx hb d_L_close_0 rfl (lv_at hl 3 rfl) ?_
  refine lv_iconst (v := 0) hx hb d_L_close_1 (by decide) ?_
  refine lv_aload_n hx hb d_L_close_2 rfl (lv_at hl 0 rfl) ?_
  refine lv_iload_n hx hb d_L_close_3 rfl (lv_at hl 1 rfl) ?_
  refine lv_iload_n hx hb d_L_close_4 rfl (lv_at hl 2 rfl) ?_
  by_cases h0 : (th_P_close 0 x1 x2 σ) = 0
  · skip
    refine va_calli (va_runV (As := [.int x1, .int x2]) (rest := [.int (0 : Int32), .ref oa]) ⟨hx, hb, hml, hown, hts⟩ (c_P_close l D α κ hα σ 0 x1 x2 rfl ok h0) (cwV 2 hts (xa_V xw934 xw935 xw936 xw1 xw937) rfl rfl rfl (by decide +kernel) ⟨Nat.le_of_ble_eq_true rfl, Nat.le_of_ble_eq_true rfl⟩) ⟨sp_blind, va_recv hK0 hP0 rfl (sp_at_P rfl), sp_pre hP0 hK0 hN _⟩ rfl rfl hl.1 rfl (lv_room (Nat.le_of_ble_eq_true rfl)) d_L_close_5 ⟨Nat.le_of_ble_eq_true rfl, Nat.le_of_ble_eq_true rfl⟩) hS (fun q _ h => Or.inl h) (fun q h => Or.inl h) (fun r u t H locs ht_ hvm hu hB hz hk hS => ?_)
    obtain ⟨rfl, rfl⟩ := hu
    have hP1 : va_P D xC (sp_w α κ (p_close 0 x1 x2 σ).2) H := by rw [← ht_]; exact hB
    have hP2 := hPo.kept (H1 := H) (fun k q hq => hk q.1 ((hPo k q hq).lt) (lh_ne hq ho))
    have hP := lh_j hP1 hP2
    refine lv_i2l (v := (p_close 0 x1 x2 σ).1.toInt64) hx hb d_L_close_8 rfl ?_
    refine va_last hx hb hK hP (hD _ _) hS 35 10 rfl rfl (i := 0) (xb_in (x := (0 : Int32)) (xb_lit 0 rfl) (by decide) (by decide)) d_L_close_9 (fun H locs hP _ hS => ?_)
    refine lv_goto (tgt := 21) hx hb d_L_close_10 (by decide) ?_
    refine lv_iconst (v := 0) hx hb d_L_close_21 (by decide) ?_
    refine W.widen (k := 1) (n := 6) (by decide) (by decide) ?_
    exact W.iret (v := 0) hx hb hr (fun t ht_ hW => ⟨⟨0, ((p_close 0 x1 x2 σ).2, (p_close 0 x1 x2 σ).1.toInt64), rfl, ⟨by rw [h0]; rfl, fun _ => rfl, fun z => absurd h0 z⟩, ⟨_, rfl, by rw [ht_]; exact hP⟩⟩, hS.F ht_⟩) hS.2.2 d_L_close_22
  · skip
    by_cases h1 : (th_P_close 0 x1 x2 σ) = 1
    · skip
      refine xt_catch (own := "SecurePairLaw") (name := "java/lang/IndexOutOfBoundsException") (xt_runV (As := [.int x1, .int x2]) (rest := [.int (0 : Int32), .ref oa]) ⟨hx, hb, hml, hown, hts⟩ (t_P_close_1 l D α κ hα htr σ 0 x1 x2 rfl h1) (cwV 2 hts (xa_V xw934 xw935 xw936 xw1 xw937) rfl rfl rfl (by decide +kernel) ⟨Nat.le_of_ble_eq_true rfl, Nat.le_of_ble_eq_true rfl⟩) ⟨st_blind, va_recv hK0 hP0 rfl (sp_at_P rfl), st_pre hP0 hK0 hN hG va_S.rf _⟩ rfl rfl hl.1 rfl (lv_room (Nat.le_of_ble_eq_true rfl)) d_L_close_5 ⟨by decide, by decide⟩) hown [] ⟨0, 10, 13, 13⟩ [⟨0, 10, 17, 15⟩] (by rw [hte]; rfl) (fun z hz => nomatch hz) (by decide) (by decide) (ht _ xw503) (va_Nw.use rfl (hG.2.1 "java/lang/IndexOutOfBoundsException" (by decide))) (fun q H hz hk => ?_)
      refine lv_astore (lv' := [(4, .ref q), (0, .ref (α 0)), (1, .int x1), (2, .int x2), (3, .ref oa)]) hx hb d_L_close_13 hl (by decide) rfl (fun ls hl => ?_)
      refine lv_iconst (v := 1) hx hb d_L_close_15 (by decide) ?_
      have hP9 := hP.kept (H1 := H) (fun k q hq => hk q.1 ((hP k q hq).lt))
      exact W.iret (v := 1) hx hb hr (fun t ht_ hW => ⟨⟨1, (σ, g 0), rfl, ⟨by rw [h1]; rfl, fun z => absurd z (by rw [h1]; decide), fun _ => rfl⟩, ⟨_, rfl, by rw [ht_]; exact hP9⟩⟩, by rw [ht_]; exact hz, fun q hq _ => by rw [ht_]; exact hk q hq⟩) (fun z hz => nomatch hz) d_L_close_16
    · skip
      have h2 : (th_P_close 0 x1 x2 σ) = 2 := (th_P_close_v 0 x1 x2 σ h0 h1)
      refine xt_catch (own := "SecurePairLaw") (name := "java/lang/IllegalStateException") (xt_runV (As := [.int x1, .int x2]) (rest := [.int (0 : Int32), .ref oa]) ⟨hx, hb, hml, hown, hts⟩ (t_P_close_2 l D α κ hα htr σ 0 x1 x2 rfl h2) (cwV 2 hts (xa_V xw934 xw935 xw936 xw1 xw937) rfl rfl rfl (by decide +kernel) ⟨Nat.le_of_ble_eq_true rfl, Nat.le_of_ble_eq_true rfl⟩) ⟨st_blind, va_recv hK0 hP0 rfl (sp_at_P rfl), st_pre hP0 hK0 hN hG va_S.rf _⟩ rfl rfl hl.1 rfl (lv_room (Nat.le_of_ble_eq_true rfl)) d_L_close_5 ⟨by decide, by decide⟩) hown [⟨0, 10, 13, 13⟩] ⟨0, 10, 17, 15⟩ [] (by rw [hte]; rfl) (fun z hz => by
          simp only [List.mem_cons, List.not_mem_nil, or_false] at hz
          rcases hz with rfl
          · exact Or.inr ⟨by decide, "java/lang/IndexOutOfBoundsException", ht _ xw503, hC ("java/lang/IllegalStateException", "java/lang/IndexOutOfBoundsException") (by decide)⟩
        ) (by decide) (by decide) (ht _ xw504) (va_Nw.use rfl (hG.2.1 "java/lang/IllegalStateException" (by decide))) (fun q H hz hk => ?_)
      refine lv_astore (lv' := [(4, .ref q), (0, .ref (α 0)), (1, .int x1), (2, .int x2), (3, .ref oa)]) hx hb d_L_close_17 hl (by decide) rfl (fun ls hl => ?_)
      refine lv_iconst (v := 2) hx hb d_L_close_19 (by decide) ?_
      have hP9 := hP.kept (H1 := H) (fun k q hq => hk q.1 ((hP k q hq).lt))
      exact W.iret (v := 2) hx hb hr (fun t ht_ hW => ⟨⟨2, (σ, g 0), rfl, ⟨by rw [h2]; rfl, fun z => absurd z (by rw [h2]; decide), fun _ => rfl⟩, ⟨_, rfl, by rw [ht_]; exact hP9⟩⟩, by rw [ht_]; exact hz, fun q hq _ => by rw [ht_]; exact hk q hq⟩) (fun z hz => nomatch hz) d_L_close_20
