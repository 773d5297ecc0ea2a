abbrev b_L_open : ByteArray := method_5_code
def y_L_open : MethodName := ⟨"SecurePairLaw", "open", "(LSecurePair;I[J)I"⟩
abbrev w_L_open : List Cond := .codeWith y_L_open b_L_open 4 (some .int) [(0, 9, 12, 13), (0, 9, 15, 15), (0, 9, 18, 23)] :: xa
theorem d_L_open_0 : decode b_L_open 0 = .ok (.aload_n 2, 1) := by decide +kernel
theorem d_L_open_1 : decode b_L_open 1 = .ok (.iconst 0, 1) := by decide +kernel
theorem d_L_open_2 : decode b_L_open 2 = .ok (.aload_n 0, 1) := by decide +kernel
theorem d_L_open_3 : decode b_L_open 3 = .ok (.iload_n 1, 1) := by decide +kernel
theorem d_L_open_4 : decode b_L_open 4 = .ok (.invokevirtual 20, 3) := by decide +kernel
theorem d_L_open_7 : decode b_L_open 7 = .ok (.i2l, 1) := by decide +kernel
theorem d_L_open_8 : decode b_L_open 8 = .ok (.lastore, 1) := by decide +kernel
theorem d_L_open_9 : decode b_L_open 9 = .ok (.goto 12, 3) := by decide +kernel
theorem d_L_open_12 : decode b_L_open 12 = .ok (.astore_n 3, 1) := by decide +kernel
theorem d_L_open_13 : decode b_L_open 13 = .ok (.iconst 1, 1) := by decide +kernel
theorem d_L_open_14 : decode b_L_open 14 = .ok (.ireturn, 1) := by decide +kernel
theorem d_L_open_15 : decode b_L_open 15 = .ok (.astore_n 3, 1) := by decide +kernel
theorem d_L_open_16 : decode b_L_open 16 = .ok (.iconst 2, 1) := by decide +kernel
theorem d_L_open_17 : decode b_L_open 17 = .ok (.ireturn, 1) := by decide +kernel
theorem d_L_open_18 : decode b_L_open 18 = .ok (.astore_n 3, 1) := by decide +kernel
theorem d_L_open_19 : decode b_L_open 19 = .ok (.iconst 3, 1) := by decide +kernel
theorem d_L_open_20 : decode b_L_open 20 = .ok (.ireturn, 1) := by decide +kernel
theorem d_L_open_21 : decode b_L_open 21 = .ok (.iconst 0, 1) := by decide +kernel
theorem d_L_open_22 : decode b_L_open 22 = .ok (.ireturn, 1) := by decide +kernel
theorem xw837 : (Cond.classLink "SecurePairLaw" (23 : Nat) "java/lang/UnsupportedOperationException") ∈ xa := xa_t 837 (by decide +kernel) (by decide +kernel)
theorem xw838 : (Cond.methodLink "SecurePairLaw" (20 : Nat) ({ cls := "SecurePair", name := "open", desc := "(I)I" } : MethodName)) ∈ xa := xa_t 838 (by decide +kernel) (by decide +kernel)
theorem xw839 : (Cond.instanceMethod ({ cls := "SecurePair", name := "open", desc := "(I)I" } : MethodName)) ∈ xa := xa_t 839 (by decide +kernel) (by decide +kernel)
theorem xw840 : (Cond.selects "SecurePair" ({ cls := "SecurePair", name := "open", desc := "(I)I" } : MethodName) ({ cls := "SecurePair", name := "open", desc := "(I)I" } : MethodName)) ∈ xa := xa_t 840 (by decide +kernel) (by decide +kernel)
theorem xw841 : (Cond.code ({ cls := "SecurePair", name := "open", desc := "(I)I" } : MethodName) prog_1_method_8_code (4 : Nat) (Option.some ClassFile.FieldType.int)) ∈ xa := xa_t 841 (by decide +kernel) (by decide +kernel)
set_option maxHeartbeats 4000000 in
set_option maxRecDepth 100000 in
theorem c_L_open (l : Launch) (D : va_G) (α : Nat → Nat) (κ : Nat → ClassId) (hα : xb_inj α 35) (htr : l.stackTraces = false) (oa : Nat) (ko : ClassId) (ho : ¬ xb_A α 35 oa) (σ : xb_St) (g : Nat → Int64) (x1 : Int32) (ok : sp_ok σ) : Met l y_L_open w_L_open ({ frames := 8, cells := 1, slots := 6, locals := 135 }) (va_Pc ([.ref (α 0), .int x1, .ref oa]) (lh_Pre D α κ oa ko σ g)) (va_Qi (fun r (u : xb_St × Int64) => r = nI (th_P_open 0 x1 σ) ∧ ((th_P_open 0 x1 σ) = 0 → u = ((p_open 0 x1 σ).2, (p_open 0 x1 σ).1.toInt64)) ∧ (¬ (th_P_open 0 x1 σ) = 0 → u = (σ, g 0))) (lh_B D α κ oa ko) (lh_A α oa)) 1 6 (lh_A α oa) := by
  refine xh_ofW (cc := b_L_open) (maxL := 4) (ret := (some .int)) (hh := [(0, 9, 12, 13), (0, 9, 15, 15), (0, 9, 18, 23)]) (by decide) rfl ?_
  intro p e s m args below meth c s₁ B_ hml hte hv
  obtain ⟨rfl, hP, hK, hN, hG, hC⟩ := hv
  have hx := B_.exec
  have hb := B_.bytes
  have hr := B_.returns
  have hts := atoms_spec (ws := w_L_open) B_.pre
  have ht : ∀ w ∈ xa, w.before _ s = true := fun w h => hts w (List.mem_cons_of_mem _ h)
  have hown : s.vm.findClass "SecurePairLaw" = some m.cls := findClass_of_methodNamed B_.named
  have hlocks := B_.notSynchronized
  have hD := fun σ g => lh_D hα κ ho ko σ g
  have hS : va_S (lh_A α oa) s.heap s.heap [] := va_S.rf
  have hP0 := lh_sp hP
  have hPo := lh_o hP
  have hK0 : va_K D xC (sp_t κ) s := hK.sub (List.range 10) rfl
  have hl := lv_entry ([.ref (α 0), .int x1, .ref oa]) (n := 4) (Nat.le_of_ble_eq_true rfl)
  rw [lg_entry_eq]
  generalize (lg_sl ([.ref (α 0), .int x1, .ref oa]) ++ List.replicate (4 - (lg_sl ([.ref (α 0), .int x1, .ref oa])).length) Slot.unset).toArray = ls at hl ⊢
  have hl : lv_has ls 4 [(0, .ref (α 0)), (1, .int x1), (2, .ref oa)] := hl
  refine lv_aload_n hx hb d_L_open_0 rfl (lv_at hl 2 rfl) ?_
  refine lv_iconst (v := 0) hx hb d_L_open_1 (by decide) ?_
  refine lv_aload_n hx hb d_L_open_2 rfl (lv_at hl 0 rfl) ?_
  refine lv_iload_n hx hb d_L_open_3 rfl (lv_at hl 1 rfl) ?_
  by_cases h0 : (th_P_open 0 x1 σ) = 0
  · skip
    refine va_calli (va_runV (As := [.int x1]) (rest := [.int (0 : Int32), .ref oa]) ⟨hx, hb, hml, hown, hts⟩ (c_P_open l D α κ hα σ 0 x1 rfl ok h0) (cwV 1 hts (xa_V xw838 xw839 xw840 xw1 xw841) rfl rfl rfl (by decide +kernel) ⟨Nat.le_of_ble_eq_true rfl, Nat.le_of_ble_eq_true rfl⟩) ⟨sp_blind, va_recv hK0 hP0 rfl (sp_at_P rfl), sp_pre hP0 hK0 hN _⟩ rfl rfl hl.1 rfl (lv_room (Nat.le_of_ble_eq_true rfl)) d_L_open_4 ⟨Nat.le_of_ble_eq_true rfl, Nat.le_of_ble_eq_true rfl⟩) hS (fun q _ h => Or.inl h) (fun q h => Or.inl h) (fun r u t H locs ht_ hvm hu hB hz hk hS => ?_)
    obtain ⟨rfl, rfl⟩ := hu
    have hP1 : va_P D xC (sp_w α κ (p_open 0 x1 σ).2) H := by rw [← ht_]; exact hB
    have hP2 := hPo.kept (H1 := H) (fun k q hq => hk q.1 ((hPo k q hq).lt) (lh_ne hq ho))
    have hP := lh_j hP1 hP2
    refine lv_i2l (v := (p_open 0 x1 σ).1.toInt64) hx hb d_L_open_7 rfl ?_
    refine va_last hx hb hK hP (hD _ _) hS 35 10 rfl rfl (i := 0) (xb_in (x := (0 : Int32)) (xb_lit 0 rfl) (by decide) (by decide)) d_L_open_8 (fun H locs hP _ hS => ?_)
    refine lv_goto (tgt := 21) hx hb d_L_open_9 (by decide) ?_
    refine lv_iconst (v := 0) hx hb d_L_open_21 (by decide) ?_
    refine W.widen (k := 1) (n := 6) (by decide) (by decide) ?_
    exact W.iret (v := 0) hx hb hr (fun t ht_ hW => ⟨⟨0, ((p_open 0 x1 σ).2, (p_open 0 x1 σ).1.toInt64), rfl, ⟨by rw [h0]; rfl, fun _ => rfl, fun z => absurd h0 z⟩, ⟨_, rfl, by rw [ht_]; exact hP⟩⟩, hS.F ht_⟩) hS.2.2 d_L_open_22
  · skip
    by_cases h1 : (th_P_open 0 x1 σ) = 1
    · skip
      refine xt_catch (own := "SecurePairLaw") (name := "java/lang/IndexOutOfBoundsException") (xt_runV (As := [.int x1]) (rest := [.int (0 : Int32), .ref oa]) ⟨hx, hb, hml, hown, hts⟩ (t_P_open_1 l D α κ hα htr σ 0 x1 rfl h1) (cwV 1 hts (xa_V xw838 xw839 xw840 xw1 xw841) rfl rfl rfl (by decide +kernel) ⟨Nat.le_of_ble_eq_true rfl, Nat.le_of_ble_eq_true rfl⟩) ⟨st_blind, va_recv hK0 hP0 rfl (sp_at_P rfl), st_pre hP0 hK0 hN hG va_S.rf _⟩ rfl rfl hl.1 rfl (lv_room (Nat.le_of_ble_eq_true rfl)) d_L_open_4 ⟨by decide, by decide⟩) hown [] ⟨0, 9, 12, 13⟩ [⟨0, 9, 15, 15⟩, ⟨0, 9, 18, 23⟩] (by rw [hte]; rfl) (fun z hz => nomatch hz) (by decide) (by decide) (ht _ xw503) (va_Nw.use rfl (hG.2.1 "java/lang/IndexOutOfBoundsException" (by decide))) (fun q H hz hk => ?_)
      refine lv_astore_n (lv' := [(3, .ref q), (0, .ref (α 0)), (1, .int x1), (2, .ref oa)]) hx hb d_L_open_12 rfl hl (by decide) rfl (fun ls hl => ?_)
      refine lv_iconst (v := 1) hx hb d_L_open_13 (by decide) ?_
      have hP9 := hP.kept (H1 := H) (fun k q hq => hk q.1 ((hP k q hq).lt))
      exact W.iret (v := 1) hx hb hr (fun t ht_ hW => ⟨⟨1, (σ, g 0), rfl, ⟨by rw [h1]; rfl, fun z => absurd z (by rw [h1]; decide), fun _ => rfl⟩, ⟨_, rfl, by rw [ht_]; exact hP9⟩⟩, by rw [ht_]; exact hz, fun q hq _ => by rw [ht_]; exact hk q hq⟩) (fun z hz => nomatch hz) d_L_open_14
    · skip
      by_cases h2 : (th_P_open 0 x1 σ) = 2
      · skip
        refine xt_catch (own := "SecurePairLaw") (name := "java/lang/IllegalStateException") (xt_runV (As := [.int x1]) (rest := [.int (0 : Int32), .ref oa]) ⟨hx, hb, hml, hown, hts⟩ (t_P_open_2 l D α κ hα htr σ 0 x1 rfl h2) (cwV 1 hts (xa_V xw838 xw839 xw840 xw1 xw841) rfl rfl rfl (by decide +kernel) ⟨Nat.le_of_ble_eq_true rfl, Nat.le_of_ble_eq_true rfl⟩) ⟨st_blind, va_recv hK0 hP0 rfl (sp_at_P rfl), st_pre hP0 hK0 hN hG va_S.rf _⟩ rfl rfl hl.1 rfl (lv_room (Nat.le_of_ble_eq_true rfl)) d_L_open_4 ⟨by decide, by decide⟩) hown [⟨0, 9, 12, 13⟩] ⟨0, 9, 15, 15⟩ [⟨0, 9, 18, 23⟩] (by rw [hte]; rfl) (fun z hz => by
            simp only [List.mem_cons, List.not_mem_nil, or_false] at hz
            rcases hz with rfl
            · exact Or.inr ⟨by decide, "java/lang/IndexOutOfBoundsException", ht _ xw503, hC ("java/lang/IllegalStateException", "java/lang/IndexOutOfBoundsException") (by decide)⟩
          ) (by decide) (by decide) (ht _ xw504) (va_Nw.use rfl (hG.2.1 "java/lang/IllegalStateException" (by decide))) (fun q H hz hk => ?_)
        refine lv_astore_n (lv' := [(3, .ref q), (0, .ref (α 0)), (1, .int x1), (2, .ref oa)]) hx hb d_L_open_15 rfl hl (by decide) rfl (fun ls hl => ?_)
        refine lv_iconst (v := 2) hx hb d_L_open_16 (by decide) ?_
        have hP9 := hP.kept (H1 := H) (fun k q hq => hk q.1 ((hP k q hq).lt))
        exact W.iret (v := 2) hx hb hr (fun t ht_ hW => ⟨⟨2, (σ, g 0), rfl, ⟨by rw [h2]; rfl, fun z => absurd z (by rw [h2]; decide), fun _ => rfl⟩, ⟨_, rfl, by rw [ht_]; exact hP9⟩⟩, by rw [ht_]; exact hz, fun q hq _ => by rw [ht_]; exact hk q hq⟩) (fun z hz => nomatch hz) d_L_open_17
      · skip
        have h3 : (th_P_open 0 x1 σ) = 3 := (th_P_open_v 0 x1 σ h0 h1 h2)
        refine xt_catch (own := "SecurePairLaw") (name := "java/lang/UnsupportedOperationException") (xt_runV (As := [.int x1]) (rest := [.int (0 : Int32), .ref oa]) ⟨hx, hb, hml, hown, hts⟩ (t_P_open_3 l D α κ hα htr σ 0 x1 rfl h3) (cwV 1 hts (xa_V xw838 xw839 xw840 xw1 xw841) rfl rfl rfl (by decide +kernel) ⟨Nat.le_of_ble_eq_true rfl, Nat.le_of_ble_eq_true rfl⟩) ⟨st_blind, va_recv hK0 hP0 rfl (sp_at_P rfl), st_pre hP0 hK0 hN hG va_S.rf _⟩ rfl rfl hl.1 rfl (lv_room (Nat.le_of_ble_eq_true rfl)) d_L_open_4 ⟨by decide, by decide⟩) hown [⟨0, 9, 12, 13⟩, ⟨0, 9, 15, 15⟩] ⟨0, 9, 18, 23⟩ [] (by rw [hte]; rfl) (fun z hz => by
            simp only [List.mem_cons, List.not_mem_nil, or_false] at hz
            rcases hz with rfl | rfl
            · exact Or.inr ⟨by decide, "java/lang/IndexOutOfBoundsException", ht _ xw503, hC ("java/lang/UnsupportedOperationException", "java/lang/IndexOutOfBoundsException") (by decide)⟩
            · exact Or.inr ⟨by decide, "java/lang/IllegalStateException", ht _ xw504, hC ("java/lang/UnsupportedOperationException", "java/lang/IllegalStateException") (by decide)⟩
          ) (by decide) (by decide) (ht _ xw837) (va_Nw.use rfl (hG.2.1 "java/lang/UnsupportedOperationException" (by decide))) (fun q H hz hk => ?_)
        refine lv_astore_n (lv' := [(3, .ref q), (0, .ref (α 0)), (1, .int x1), (2, .ref oa)]) hx hb d_L_open_18 rfl hl (by decide) rfl (fun ls hl => ?_)
        refine lv_iconst (v := 3) hx hb d_L_open_19 (by decide) ?_
        have hP9 := hP.kept (H1 := H) (fun k q hq => hk q.1 ((hP k q hq).lt))
        exact W.iret (v := 3) hx hb hr (fun t ht_ hW => ⟨⟨3, (σ, g 0), rfl, ⟨by rw [h3]; rfl, fun z => absurd z (by rw [h3]; decide), fun _ => rfl⟩, ⟨_, rfl, by rw [ht_]; exact hP9⟩⟩, by rw [ht_]; exact hz, fun q hq _ => by rw [ht_]; exact hk q hq⟩) (fun z hz => nomatch hz) d_L_open_20
abbrev b_L_write : ByteArray := method_6_code
def y_L_write : MethodName := ⟨"SecurePairLaw", "write", "(LSecurePair;IIJI[J)I"⟩
abbrev w_L_write : List Cond := .codeWith y_L_write b_L_write 8 (some .int) [(0, 14, 17, 13), (0, 14, 21, 15), (0, 14, 25, 29)] :: xa
theorem d_L_write_0 : decode b_L_write 0 = .ok (.aload 6, 2) := by decide +kernel
theorem d_L_write_2 : decode b_L_write 2 = .ok (.iconst 0, 1) := by decide +kernel
theorem d_L_write_3 : decode b_L_write 3 = .ok (.aload_n 0, 1) := by decide +kernel
theorem d_L_write_4 : decode b_L_write 4 = .ok (.iload_n 1, 1) := by decide +kernel
theorem d_L_write_5 : decode b_L_write 5 = .ok (.iload_n 2, 1) := by decide +kernel
theorem d_L_write_6 : decode b_L_write 6 = .ok (.lload_n 3, 1) := by decide +kernel
theorem d_L_write_7 : decode b_L_write 7 = .ok (.iload 5, 2) := by decide +kernel
theorem d_L_write_9 : decode b_L_write 9 = .ok (.invokevirtual 25, 3) := by decide +kernel
theorem d_L_write_12 : decode b_L_write 12 = .ok (.i2l, 1) := by decide +kernel
theorem d_L_write_13 : decode b_L_write 13 = .ok (.lastore, 1) := by decide +kernel
theorem d_L_write_14 : decode b_L_write 14 = .ok (.goto 15, 3) := by decide +kernel
theorem d_L_write_17 : decode b_L_write 17 = .ok (.astore 7, 2) := by decide +kernel
theorem d_L_write_19 : decode b_L_write 19 = .ok (.iconst 1, 1) := by decide +kernel
theorem d_L_write_20 : decode b_L_write 20 = .ok (.ireturn, 1) := by decide +kernel
theorem d_L_write_21 : decode b_L_write 21 = .ok (.astore 7, 2) := by decide +kernel
theorem d_L_write_23 : decode b_L_write 23 = .ok (.iconst 2, 1) := by decide +kernel
theorem d_L_write_24 : decode b_L_write 24 = .ok (.ireturn, 1) := by decide +kernel
theorem d_L_write_25 : decode b_L_write 25 = .ok (.astore 7, 2) := by decide +kernel
theorem d_L_write_27 : decode b_L_write 27 = .ok (.iconst 3, 1) := by decide +kernel
theorem d_L_write_28 : decode b_L_write 28 = .ok (.ireturn, 1) := by decide +kernel
theorem d_L_write_29 : decode b_L_write 29 = .ok (.iconst 0, 1) := by decide +kernel
theorem d_L_write_30 : decode b_L_write 30 = .ok (.ireturn, 1) := by decide +kernel
theorem xw869 : (Cond.classLink "SecurePairLaw" (29 : Nat) "java/lang/IllegalArgumentException") ∈ xa := xa_t 869 (by decide +kernel) (by decide +kernel)
theorem xw870 : (Cond.methodLink "SecurePairLaw" (25 : Nat) ({ cls := "SecurePair", name := "write", desc := "(IIJI)I" } : MethodName)) ∈ xa := xa_t 870 (by decide +kernel) (by decide +kernel)
theorem xw871 : (Cond.instanceMethod ({ cls := "SecurePair", name := "write", desc := "(IIJI)I" } : MethodName)) ∈ xa := xa_t 871 (by decide +kernel) (by decide +kernel)
theorem xw872 : (Cond.selects "SecurePair" ({ cls := "SecurePair", name := "write", desc := "(IIJI)I" } : MethodName) ({ cls := "SecurePair", name := "write", desc := "(IIJI)I" } : MethodName)) ∈ xa := xa_t 872 (by decide +kernel) (by decide +kernel)
theorem xw873 : (Cond.code ({ cls := "SecurePair", name := "write", desc := "(IIJI)I" } : MethodName) prog_1_method_9_code (8 : Nat) (Option.some ClassFile.FieldType.int)) ∈ xa := xa_t 873 (by decide +kernel) (by decide +kernel)
set_option maxHeartbeats 4000000 in
set_option maxRecDepth 100000 in
theorem c_L_write (l : Launch) (D : va_G) (α : Nat → Nat) (κ : Nat → ClassId) (hα : xb_inj α 35) (htr : l.stackTraces = false) (oa : Nat) (ko : ClassId) (ho : ¬ xb_A α 35 oa) (σ : xb_St) (g : Nat → Int64) (x1 : Int32) (x2 : Int32) (x3 : Int64) (x4 : Int32) (ok : sp_ok σ) : Met l y_L_write w_L_write ({ frames := 9, cells := 1, slots := 6, locals := 161 }) (va_Pc ([.ref (α 0), .int x1, .int x2, .long x3, .int x4, .ref oa]) (lh_Pre D α κ oa ko σ g)) (va_Qi (fun r (u : xb_St × Int64) => r = nI (th_P_write 0 x1 x2 x3 x4 σ) ∧ ((th_P_write 0 x1 x2 x3 x4 σ) = 0 → u = ((p_write 0 x1 x2 x3 x4 σ).2, (p_write 0 x1 x2 x3 x4 σ).1.toInt64)) ∧ (¬ (th_P_write 0 x1 x2 x3 x4 σ) = 0 → u = (σ, g 0))) (lh_B D α κ oa ko) (lh_A α oa)) 1 6 (lh_A α oa) := by
  refine xh_ofW (cc := b_L_write) (maxL := 8) (ret := (some .int)) (hh := [(0, 14, 17, 13), (0, 14, 21, 15), (0, 14, 25, 29)]) (by decide) rfl ?_
  intro p e s m args below meth c s₁ B_ hml hte hv
  obtain ⟨rfl, hP, hK, hN, hG, hC⟩ := hv
  have hx := B_.exec
  have hb := B_.bytes
  have hr := B_.returns
  have hts := atoms_spec (ws := w_L_write) B_.pre
  have ht : ∀ w ∈ xa, w.before _ s = true := fun w h => hts w (List.mem_cons_of_mem _ h)
  have hown : s.vm.findClass "SecurePairLaw" = some m.cls := findClass_of_methodNamed B_.named
  have hlocks := B_.notSynchronized
  have hD := fun σ g => lh_D hα κ ho ko σ g
  have hS : va_S (lh_A α oa) s.heap s.heap [] := va_S.rf
  have hP0 := lh_sp hP
  have hPo := lh_o hP
  have hK0 : va_K D xC (sp_t κ) s := hK.sub (List.range 10) rfl
  have hl := lv_entry ([.ref (α 0), .int x1, .int x2, .long x3, .int x4, .ref oa]) (n := 8) (Nat.le_of_ble_eq_true rfl)
  rw [lg_entry_eq]
  generalize (lg_sl ([.ref (α 0), .int x1, .int x2, .long x3, .int x4, .ref oa]) ++ List.replicate (8 - (lg_sl ([.ref (α 0), .int x1, .int x2, .long x3, .int x4, .ref oa])).length) Slot.unset).toArray = ls at hl ⊢
  have hl : lv_has ls 8 [(0, .ref (α 0)), (1, .int x1), (2, .int x2), (3, .long x3), (5, .int x4), (6, .ref oa)] := hl
  refine lv_aload hx hb d_L_write_0 (lv_at hl 5 rfl) ?_
  refine lv_iconst (v := 0) hx hb d_L_write_2 (by decide) ?_
  refine lv_aload_n hx hb d_L_write_3 rfl (lv_at hl 0 rfl) ?_
  refine lv_iload_n hx hb d_L_write_4 rfl (lv_at hl 1 rfl) ?_
  refine lv_iload_n hx hb d_L_write_5 rfl (lv_at hl 2 rfl) ?_
  refine lv_lload_n hx hb d_L_write_6 rfl (lv_at hl 3 rfl) ?_
  refine lv_iload hx hb d_L_write_7 (lv_at hl 4 rfl) ?_
  by_cases h0 : (th_P_write 0 x1 x2 x3 x4 σ) = 0
  · skip
    refine va_calli (va_runV (As := [.int x1, .int x2, .long x3, .int x4]) (rest := [.int (0 : Int32), .ref oa]) ⟨hx, hb, hml, hown, hts⟩ (c_P_write l D α κ hα σ 0 x1 x2 x3 x4 rfl ok h0) (cwV 4 hts (xa_V xw870 xw871 xw872 xw1 xw873) rfl rfl rfl (by decide +kernel) ⟨Nat.le_of_ble_eq_true rfl, Nat.le_of_ble_eq_true rfl⟩) ⟨sp_blind, va_recv hK0 hP0 rfl (sp_at_P rfl), sp_pre hP0 hK0 hN _⟩ rfl rfl hl.1 rfl (lv_room (Nat.le_of_ble_eq_true rfl)) d_L_write_9 ⟨Nat.le_of_ble_eq_true rfl, Nat.le_of_ble_eq_true rfl⟩) hS (fun q _ h => Or.inl h) (fun q h => Or.inl h) (fun r u t H locs ht_ hvm hu hB hz hk hS => ?_)
    obtain ⟨rfl, rfl⟩ := hu
    have hP1 : va_P D xC (sp_w α κ (p_write 0 x1 x2 x3 x4 σ).2) H := by rw [← ht_]; exact hB
    have hP2 := hPo.kept (H1 := H) (fun k q hq => hk q.1 ((hPo k q hq).lt) (lh_ne hq ho))
    have hP := lh_j hP1 hP2
    refine lv_i2l (v := (p_write 0 x1 x2 x3 x4 σ).1.toInt64) hx hb d_L_write_12 rfl ?_
    refine va_last hx hb hK hP (hD _ _) hS 35 10 rfl rfl (i := 0) (xb_in (x := (0 : Int32)) (xb_lit 0 rfl) (by decide) (by decide)) d_L_write_13 (fun H locs hP _ hS => ?_)
    refine lv_goto (tgt := 29) hx hb d_L_write_14 (by decide) ?_
    refine lv_iconst (v := 0) hx hb d_L_write_29 (by decide) ?_
    refine W.widen (k := 1) (n := 6) (by decide) (by decide) ?_
    exact W.iret (v := 0) hx hb hr (fun t ht_ hW => ⟨⟨0, ((p_write 0 x1 x2 x3 x4 σ).2, (p_write 0 x1 x2 x3 x4 σ).1.toInt64), rfl, ⟨by rw [h0]; rfl, fun _ => rfl, fun z => absurd h0 z⟩, ⟨_, rfl, by rw [ht_]; exact hP⟩⟩, hS.F ht_⟩) hS.2.2 d_L_write_30
  · skip
    by_cases h1 : (th_P_write 0 x1 x2 x3 x4 σ) = 1
    · skip
      refine xt_catch (own := "SecurePairLaw") (name := "java/lang/IndexOutOfBoundsException") (xt_runV (As := [.int x1, .int x2, .long x3, .int x4]) (rest := [.int (0 : Int32), .ref oa]) ⟨hx, hb, hml, hown, hts⟩ (t_P_write_1 l D α κ hα htr σ 0 x1 x2 x3 x4 rfl h1) (cwV 4 hts (xa_V xw870 xw871 xw872 xw1 xw873) rfl rfl rfl (by decide +kernel) ⟨Nat.le_of_ble_eq_true rfl, Nat.le_of_ble_eq_true rfl⟩) ⟨st_blind, va_recv hK0 hP0 rfl (sp_at_P rfl), st_pre hP0 hK0 hN hG va_S.rf _⟩ rfl rfl hl.1 rfl (lv_room (Nat.le_of_ble_eq_true rfl)) d_L_write_9 ⟨by decide, by decide⟩) hown [] ⟨0, 14, 17, 13⟩ [⟨0, 14, 21, 15⟩, ⟨0, 14, 25, 29⟩] (by rw [hte]; rfl) (fun z hz => nomatch hz) (by decide) (by decide) (ht _ xw503) (va_Nw.use rfl (hG.2.1 "java/lang/IndexOutOfBoundsException" (by decide))) (fun q H hz hk => ?_)
      refine lv_astore (lv' := [(7, .ref q), (0, .ref (α 0)), (1, .int x1), (2, .int x2), (3, .long x3), (5, .int x4), (6, .ref oa)]) hx hb d_L_write_17 hl (by decide) rfl (fun ls hl => ?_)
      refine lv_iconst (v := 1) hx hb d_L_write_19 (by decide) ?_
      have hP9 := hP.kept (H1 := H) (fun k q hq => hk q.1 ((hP k q hq).lt))
      exact W.iret (v := 1) hx hb hr (fun t ht_ hW => ⟨⟨1, (σ, g 0), rfl, ⟨by rw [h1]; rfl, fun z => absurd z (by rw [h1]; decide), fun _ => rfl⟩, ⟨_, rfl, by rw [ht_]; exact hP9⟩⟩, by rw [ht_]; exact hz, fun q hq _ => by rw [ht_]; exact hk q hq⟩) (fun z hz => nomatch hz) d_L_write_20
    · skip
      by_cases h2 : (th_P_write 0 x1 x2 x3 x4 σ) = 2
      · skip
        refine xt_catch (own := "SecurePairLaw") (name := "java/lang/IllegalStateException") (xt_runV (As := [.int x1, .int x2, .long x3, .int x4]) (rest := [.int (0 : Int32), .ref oa]) ⟨hx, hb, hml, hown, hts⟩ (t_P_write_2 l D α κ hα htr σ 0 x1 x2 x3 x4 rfl h2) (cwV 4 hts (xa_V xw870 xw871 xw872 xw1 xw873) rfl rfl rfl (by decide +kernel) ⟨Nat.le_of_ble_eq_true rfl, Nat.le_of_ble_eq_true rfl⟩) ⟨st_blind, va_recv hK0 hP0 rfl (sp_at_P rfl), st_pre hP0 hK0 hN hG va_S.rf _⟩ rfl rfl hl.1 rfl (lv_room (Nat.le_of_ble_eq_true rfl)) d_L_write_9 ⟨by decide, by decide⟩) hown [⟨0, 14, 17, 13⟩] ⟨0, 14, 21, 15⟩ [⟨0, 14, 25, 29⟩] (by rw [hte]; rfl) (fun z hz => by
            simp only [List.mem_cons, List.not_mem_nil, or_false] at hz
            rcases hz with rfl
            · exact Or.inr ⟨by decide, "java/lang/IndexOutOfBoundsException", ht _ xw503, hC ("java/lang/IllegalStateException", "java/lang/IndexOutOfBoundsException") (by decide)⟩
          ) (by decide) (by decide) (ht _ xw504) (va_Nw.use rfl (hG.2.1 "java/lang/IllegalStateException" (by decide))) (fun q H hz hk => ?_)
        refine lv_astore (lv' := [(7, .ref q), (0, .ref (α 0)), (1, .int x1), (2, .int x2), (3, .long x3), (5, .int x4), (6, .ref oa)]) hx hb d_L_write_21 hl (by decide) rfl (fun ls hl => ?_)
        refine lv_iconst (v := 2) hx hb d_L_write_23 (by decide) ?_
        have hP9 := hP.kept (H1 := H) (fun k q hq => hk q.1 ((hP k q hq).lt))
        exact W.iret (v := 2) hx hb hr (fun t ht_ hW => ⟨⟨2, (σ, g 0), rfl, ⟨by rw [h2]; rfl, fun z => absurd z (by rw [h2]; decide), fun _ => rfl⟩, ⟨_, rfl, by rw [ht_]; exact hP9⟩⟩, by rw [ht_]; exact hz, fun q hq _ => by rw [ht_]; exact hk q hq⟩) (fun z hz => nomatch hz) d_L_write_24
      · skip
        have h3 : (th_P_write 0 x1 x2 x3 x4 σ) = 3 := (th_P_write_v 0 x1 x2 x3 x4 σ h0 h1 h2)
        refine xt_catch (own := "SecurePairLaw") (name := "java/lang/IllegalArgumentException") (xt_runV (As := [.int x1, .int x2, .long x3, .int x4]) (rest := [.int (0 : Int32), .ref oa]) ⟨hx, hb, hml, hown, hts⟩ (t_P_write_3 l D α κ hα htr σ 0 x1 x2 x3 x4 rfl h3) (cwV 4 hts (xa_V xw870 xw871 xw872 xw1 xw873) rfl rfl rfl (by decide +kernel) ⟨Nat.le_of_ble_eq_true rfl, Nat.le_of_ble_eq_true rfl⟩) ⟨st_blind, va_recv hK0 hP0 rfl (sp_at_P rfl), st_pre hP0 hK0 hN hG va_S.rf _⟩ rfl rfl hl.1 rfl (lv_room (Nat.le_of_ble_eq_true rfl)) d_L_write_9 ⟨by decide, by decide⟩) hown [⟨0, 14, 17, 13⟩, ⟨0, 14, 21, 15⟩] ⟨0, 14, 25, 29⟩ [] (by rw [hte]; rfl) (fun z hz => by
            simp only [List.mem_cons, List.not_mem_nil, or_false] at hz
            rcases hz with rfl | rfl
            · exact Or.inr ⟨by decide, "java/lang/IndexOutOfBoundsException", ht _ xw503, hC ("java/lang/IllegalArgumentException", "java/lang/IndexOutOfBoundsException") (by decide)⟩
            · exact Or.inr ⟨by decide, "java/lang/IllegalStateException", ht _ xw504, hC ("java/lang/IllegalArgumentException", "java/lang/IllegalStateException") (by decide)⟩
          ) (by decide) (by decide) (ht _ xw869) (va_Nw.use rfl (hG.2.1 "java/lang/IllegalArgumentException" (by decide))) (fun q H hz hk => ?_)
        refine lv_astore (lv' := [(7, .ref q), (0, .ref (α 0)), (1, .int x1), (2, .int x2), (3, .long x3), (5, .int x4), (6, .ref oa)]) hx hb d_L_write_25 hl (by decide) rfl (fun ls hl => ?_)
        refine lv_iconst (v := 3) hx hb d_L_write_27 (by decide) ?_
        have hP9 := hP.kept (H1 := H) (fun k q hq => hk q.1 ((hP k q hq).lt))
        exact W.iret (v := 3) hx hb hr (fun t ht_ hW => ⟨⟨3, (σ, g 0), rfl, ⟨by rw [h3]; rfl, fun z => absurd z (by rw [h3]; decide), fun _ => rfl⟩, ⟨_, rfl, by rw [ht_]; exact hP9⟩⟩, by rw [ht_]; exact hz, fun q hq _ => by rw [ht_]; exact hk q hq⟩) (fun z hz => nomatch hz) d_L_write_28
