/-! The law's helpers: the program's world and the cell of one long beside it. -/
def xt_nc : List (String × String) := [("java/lang/IllegalStateException", "java/lang/IndexOutOfBoundsException"), ("java/lang/UnsupportedOperationException", "java/lang/IndexOutOfBoundsException"), ("java/lang/UnsupportedOperationException", "java/lang/IllegalStateException"), ("java/lang/IllegalArgumentException", "java/lang/IndexOutOfBoundsException"), ("java/lang/IllegalArgumentException", "java/lang/IllegalStateException")]
def lh_w (α : Nat → Nat) (κ : Nat → ClassId) (oa : Nat) (ko : ClassId) (σ : xb_St) (g : Nat → Int64) : va_W := sp_w α κ σ ++ [(oa, .inl (ko, 1, .inr (.inl g)))]
def lh_t (κ : Nat → ClassId) (ko : ClassId) : List (ClassId × FieldType) := sp_t κ ++ [(ko, .long)]
def lh_A (α : Nat → Nat) (oa : Nat) : Nat → Prop := fun q => xb_A α 35 q ∨ q = oa
theorem lh_D {α : Nat → Nat} (hα : xb_inj α 35) (κ : Nat → ClassId) {oa : Nat} (ho : ¬ xb_A α 35 oa) (ko : ClassId) (σ : xb_St) (g : Nat → Int64) : va_D (lh_A α oa) (lh_w α κ oa ko σ g) := by
  have h1 := sp_D hα κ σ
  refine va_D.app (h1.weaken fun _ _ _ h => Or.inl h) ⟨fun i j p q hi hj _ => ?_, fun k q hk => ?_⟩ (fun i j p q hi hj e => ?_)
  · have hi' := (List.getElem?_eq_some_iff.mp hi).1
    have hj' := (List.getElem?_eq_some_iff.mp hj).1
    simp only [List.length_cons, List.length_nil] at hi' hj'
    omega
  · have hk' := (List.getElem?_eq_some_iff.mp hk).1
    simp only [List.length_cons, List.length_nil] at hk'
    obtain rfl : k = 0 := by omega
    cases hk
    exact Or.inr rfl
  · have hj' := (List.getElem?_eq_some_iff.mp hj).1
    simp only [List.length_cons, List.length_nil] at hj'
    obtain rfl : j = 0 := by omega
    cases hj
    have e' : p.1 = oa := e
    exact ho (e' ▸ h1.2 i p hi)
def lh_Pre (D : va_G) (α : Nat → Nat) (κ : Nat → ClassId) (oa : Nat) (ko : ClassId) (σ : xb_St) (g : Nat → Int64) (U : State) : Prop := va_P D xC (lh_w α κ oa ko σ g) U.heap ∧ va_K D xC (lh_t κ ko) U ∧ sp_N U ∧ xt_G (xb_A α 35) U U.heap ∧ ∀ q ∈ xt_nc, va_Nc q.1 q.2 U
def lh_B (D : va_G) (α : Nat → Nat) (κ : Nat → ClassId) (oa : Nat) (ko : ClassId) (u : xb_St × Int64) (t : State) : Prop := ∃ g : Nat → Int64, g 0 = u.2 ∧ va_P D xC (lh_w α κ oa ko u.1 g) t.heap
theorem lh_blind {D : va_G} {α : Nat → Nat} {κ : Nat → ClassId} {oa : Nat} {ko : ClassId} {σ : xb_St} {g : Nat → Int64} {av : List Value} : FrameBlind (va_Pc av (lh_Pre D α κ oa ko σ g)) := fun a U g mk h => ⟨h.1, h.2.1, va_K.moved (u := U) (U := U.calling g mk a) (Vm.Alike.refl U.vm) h.2.2.1, h.2.2.2.1.same rfl, xt_G.same (u := U) rfl h.2.2.2.2.1, fun q hq => va_Nc.moved (u := U) (U := U.calling g mk a) (Vm.Alike.refl U.vm) (h.2.2.2.2.2 q hq)⟩
theorem lh_sp {D : va_G} {α : Nat → Nat} {κ : Nat → ClassId} {oa : Nat} {ko : ClassId} {σ : xb_St} {g : Nat → Int64} {H : Heap} (h : va_P D xC (lh_w α κ oa ko σ g) H) : va_P D xC (sp_w α κ σ) H := h.sub (List.range 35) rfl
theorem lh_o {D : va_G} {α : Nat → Nat} {κ : Nat → ClassId} {oa : Nat} {ko : ClassId} {σ : xb_St} {g : Nat → Int64} {H : Heap} (h : va_P D xC (lh_w α κ oa ko σ g) H) : va_P D xC [(oa, .inl (ko, 1, .inr (.inl g)))] H := h.sub [35] rfl
theorem lh_j {D : va_G} {α : Nat → Nat} {κ : Nat → ClassId} {oa : Nat} {ko : ClassId} {σ : xb_St} {g : Nat → Int64} {H : Heap} (h : va_P D xC (sp_w α κ σ) H) (h2 : va_P D xC [(oa, .inl (ko, 1, .inr (.inl g)))] H) : va_P D xC (lh_w α κ oa ko σ g) H := h.app h2
theorem lh_ne {α : Nat → Nat} {oa : Nat} {ko : ClassId} {g : Nat → Int64} {k : Nat} {q : Nat × va_E} (hq : ([(oa, .inl (ko, 1, .inr (.inl g)))] : va_W)[k]? = some q) (ho : ¬ xb_A α 35 oa) : ¬ xb_A α 35 q.1 := by
  have hk' := (List.getElem?_eq_some_iff.mp hq).1
  simp only [List.length_cons, List.length_nil] at hk'
  obtain rfl : k = 0 := by omega
  cases hq
  exact ho
abbrev b_L_begin : ByteArray := method_3_code
def y_L_begin : MethodName := ⟨"SecurePairLaw", "begin", "(LSecurePair;I[J)I"⟩
abbrev w_L_begin : List Cond := .codeWith y_L_begin b_L_begin 4 (some .int) [(0, 9, 12, 13), (0, 9, 15, 15)] :: xa
theorem d_L_begin_0 : decode b_L_begin 0 = .ok (.aload_n 2, 1) := by decide +kernel
theorem d_L_begin_1 : decode b_L_begin 1 = .ok (.iconst 0, 1) := by decide +kernel
theorem d_L_begin_2 : decode b_L_begin 2 = .ok (.aload_n 0, 1) := by decide +kernel
theorem d_L_begin_3 : decode b_L_begin 3 = .ok (.iload_n 1, 1) := by decide +kernel
theorem d_L_begin_4 : decode b_L_begin 4 = .ok (.invokevirtual 7, 3) := by decide +kernel
theorem d_L_begin_7 : decode b_L_begin 7 = .ok (.i2l, 1) := by decide +kernel
theorem d_L_begin_8 : decode b_L_begin 8 = .ok (.lastore, 1) := by decide +kernel
theorem d_L_begin_9 : decode b_L_begin 9 = .ok (.goto 9, 3) := by decide +kernel
theorem d_L_begin_12 : decode b_L_begin 12 = .ok (.astore_n 3, 1) := by decide +kernel
theorem d_L_begin_13 : decode b_L_begin 13 = .ok (.iconst 1, 1) := by decide +kernel
theorem d_L_begin_14 : decode b_L_begin 14 = .ok (.ireturn, 1) := by decide +kernel
theorem d_L_begin_15 : decode b_L_begin 15 = .ok (.astore_n 3, 1) := by decide +kernel
theorem d_L_begin_16 : decode b_L_begin 16 = .ok (.iconst 2, 1) := by decide +kernel
theorem d_L_begin_17 : decode b_L_begin 17 = .ok (.ireturn, 1) := by decide +kernel
theorem d_L_begin_18 : decode b_L_begin 18 = .ok (.iconst 0, 1) := by decide +kernel
theorem d_L_begin_19 : decode b_L_begin 19 = .ok (.ireturn, 1) := by decide +kernel
theorem xw503 : (Cond.classLink "SecurePairLaw" (13 : Nat) "java/lang/IndexOutOfBoundsException") ∈ xa := xa_t 503 (by decide +kernel) (by decide +kernel)
theorem xw504 : (Cond.classLink "SecurePairLaw" (15 : Nat) "java/lang/IllegalStateException") ∈ xa := xa_t 504 (by decide +kernel) (by decide +kernel)
theorem xw505 : (Cond.methodLink "SecurePairLaw" (7 : Nat) ({ cls := "SecurePair", name := "begin", desc := "(I)I" } : MethodName)) ∈ xa := xa_t 505 (by decide +kernel) (by decide +kernel)
theorem xw506 : (Cond.instanceMethod ({ cls := "SecurePair", name := "begin", desc := "(I)I" } : MethodName)) ∈ xa := xa_t 506 (by decide +kernel) (by decide +kernel)
theorem xw507 : (Cond.selects "SecurePair" ({ cls := "SecurePair", name := "begin", desc := "(I)I" } : MethodName) ({ cls := "SecurePair", name := "begin", desc := "(I)I" } : MethodName)) ∈ xa := xa_t 507 (by decide +kernel) (by decide +kernel)
theorem xw508 : (Cond.code ({ cls := "SecurePair", name := "begin", desc := "(I)I" } : MethodName) prog_1_method_6_code (3 : Nat) (Option.some ClassFile.FieldType.int)) ∈ xa := xa_t 508 (by decide +kernel) (by decide +kernel)
set_option maxHeartbeats 4000000 in
set_option maxRecDepth 100000 in
theorem c_L_begin (l : Launch) (D : va_G) (α : Nat → Nat) (κ : Nat → ClassId) (hα : xb_inj α 35) (htr : l.stackTraces = false) (oa : Nat) (ko : ClassId) (ho : ¬ xb_A α 35 oa) (σ : xb_St) (g : Nat → Int64) (x1 : Int32) (ok : sp_ok σ) : Met l y_L_begin w_L_begin ({ frames := 8, cells := 1, slots := 6, locals := 134 }) (va_Pc ([.ref (α 0), .int x1, .ref oa]) (lh_Pre D α κ oa ko σ g)) (va_Qi (fun r (u : xb_St × Int64) => r = nI (th_P_begin 0 x1 σ) ∧ ((th_P_begin 0 x1 σ) = 0 → u = ((p_begin 0 x1 σ).2, (p_begin 0 x1 σ).1.toInt64)) ∧ (¬ (th_P_begin 0 x1 σ) = 0 → u = (σ, g 0))) (lh_B D α κ oa ko) (lh_A α oa)) 1 6 (lh_A α oa) := by
  refine xh_ofW (cc := b_L_begin) (maxL := 4) (ret := (some .int)) (hh := [(0, 9, 12, 13), (0, 9, 15, 15)]) (by decide) rfl ?_
  intro p e s m args below meth c s₁ B_ hml hte hv
  obtain ⟨rfl, hP, hK, hN, hG, hC⟩ := hv
  have hx := B_.exec
  have hb := B_.bytes
  have hr := B_.returns
  have hts := atoms_spec (ws := w_L_begin) B_.pre
  have ht : ∀ w ∈ xa, w.before _ s = true := fun w h => hts w (List.mem_cons_of_mem _ h)
  have hown : s.vm.findClass "SecurePairLaw" = some m.cls := findClass_of_methodNamed B_.named
  have hlocks := B_.notSynchronized
  have hD := fun σ g => lh_D hα κ ho ko σ g
  have hS : va_S (lh_A α oa) s.heap s.heap [] := va_S.rf
  have hP0 := lh_sp hP
  have hPo := lh_o hP
  have hK0 : va_K D xC (sp_t κ) s := hK.sub (List.range 10) rfl
  have hl := lv_entry ([.ref (α 0), .int x1, .ref oa]) (n := 4) (Nat.le_of_ble_eq_true rfl)
  rw [lg_entry_eq]
  generalize (lg_sl ([.ref (α 0), .int x1, .ref oa]) ++ List.replicate (4 - (lg_sl ([.ref (α 0), .int x1, .ref oa])).length) Slot.unset).toArray = ls at hl ⊢
  have hl : lv_has ls 4 [(0, .ref (α 0)), (1, .int x1), (2, .ref oa)] := hl
  refine lv_aload_n hx hb d_L_begin_0 rfl (lv_at hl 2 rfl) ?_
  refine lv_iconst (v := 0) hx hb d_L_begin_1 (by decide) ?_
  refine lv_aload_n hx hb d_L_begin_2 rfl (lv_at hl 0 rfl) ?_
  refine lv_iload_n hx hb d_L_begin_3 rfl (lv_at hl 1 rfl) ?_
  by_cases h0 : (th_P_begin 0 x1 σ) = 0
  · skip
    refine va_calli (va_runV (As := [.int x1]) (rest := [.int (0 : Int32), .ref oa]) ⟨hx, hb, hml, hown, hts⟩ (c_P_begin l D α κ hα σ 0 x1 rfl ok h0) (cwV 1 hts (xa_V xw505 xw506 xw507 xw1 xw508) rfl rfl rfl (by decide +kernel) ⟨Nat.le_of_ble_eq_true rfl, Nat.le_of_ble_eq_true rfl⟩) ⟨sp_blind, va_recv hK0 hP0 rfl (sp_at_P rfl), sp_pre hP0 hK0 hN _⟩ rfl rfl hl.1 rfl (lv_room (Nat.le_of_ble_eq_true rfl)) d_L_begin_4 ⟨Nat.le_of_ble_eq_true rfl, Nat.le_of_ble_eq_true rfl⟩) hS (fun q _ h => Or.inl h) (fun q h => Or.inl h) (fun r u t H locs ht_ hvm hu hB hz hk hS => ?_)
    obtain ⟨rfl, rfl⟩ := hu
    have hP1 : va_P D xC (sp_w α κ (p_begin 0 x1 σ).2) H := by rw [← ht_]; exact hB
    have hP2 := hPo.kept (H1 := H) (fun k q hq => hk q.1 ((hPo k q hq).lt) (lh_ne hq ho))
    have hP := lh_j hP1 hP2
    refine lv_i2l (v := (p_begin 0 x1 σ).1.toInt64) hx hb d_L_begin_7 rfl ?_
    refine va_last hx hb hK hP (hD _ _) hS 35 10 rfl rfl (i := 0) (xb_in (x := (0 : Int32)) (xb_lit 0 rfl) (by decide) (by decide)) d_L_begin_8 (fun H locs hP _ hS => ?_)
    refine lv_goto (tgt := 18) hx hb d_L_begin_9 (by decide) ?_
    refine lv_iconst (v := 0) hx hb d_L_begin_18 (by decide) ?_
    refine W.widen (k := 1) (n := 6) (by decide) (by decide) ?_
    exact W.iret (v := 0) hx hb hr (fun t ht_ hW => ⟨⟨0, ((p_begin 0 x1 σ).2, (p_begin 0 x1 σ).1.toInt64), rfl, ⟨by rw [h0]; rfl, fun _ => rfl, fun z => absurd h0 z⟩, ⟨_, rfl, by rw [ht_]; exact hP⟩⟩, hS.F ht_⟩) hS.2.2 d_L_begin_19
  · skip
    by_cases h1 : (th_P_begin 0 x1 σ) = 1
    · skip
      refine xt_catch (own := "SecurePairLaw") (name := "java/lang/IndexOutOfBoundsException") (xt_runV (As := [.int x1]) (rest := [.int (0 : Int32), .ref oa]) ⟨hx, hb, hml, hown, hts⟩ (t_P_begin_1 l D α κ hα htr σ 0 x1 rfl h1) (cwV 1 hts (xa_V xw505 xw506 xw507 xw1 xw508) rfl rfl rfl (by decide +kernel) ⟨Nat.le_of_ble_eq_true rfl, Nat.le_of_ble_eq_true rfl⟩) ⟨st_blind, va_recv hK0 hP0 rfl (sp_at_P rfl), st_pre hP0 hK0 hN hG va_S.rf _⟩ rfl rfl hl.1 rfl (lv_room (Nat.le_of_ble_eq_true rfl)) d_L_begin_4 ⟨by decide, by decide⟩) hown [] ⟨0, 9, 12, 13⟩ [⟨0, 9, 15, 15⟩] (by rw [hte]; rfl) (fun z hz => nomatch hz) (by decide) (by decide) (ht _ xw503) (va_Nw.use rfl (hG.2.1 "java/lang/IndexOutOfBoundsException" (by decide))) (fun q H hz hk => ?_)
      refine lv_astore_n (lv' := [(3, .ref q), (0, .ref (α 0)), (1, .int x1), (2, .ref oa)]) hx hb d_L_begin_12 rfl hl (by decide) rfl (fun ls hl => ?_)
      refine lv_iconst (v := 1) hx hb d_L_begin_13 (by decide) ?_
      have hP9 := hP.kept (H1 := H) (fun k q hq => hk q.1 ((hP k q hq).lt))
      exact W.iret (v := 1) hx hb hr (fun t ht_ hW => ⟨⟨1, (σ, g 0), rfl, ⟨by rw [h1]; rfl, fun z => absurd z (by rw [h1]; decide), fun _ => rfl⟩, ⟨_, rfl, by rw [ht_]; exact hP9⟩⟩, by rw [ht_]; exact hz, fun q hq _ => by rw [ht_]; exact hk q hq⟩) (fun z hz => nomatch hz) d_L_begin_14
    · skip
      have h2 : (th_P_begin 0 x1 σ) = 2 := (th_P_begin_v 0 x1 σ h0 h1)
      refine xt_catch (own := "SecurePairLaw") (name := "java/lang/IllegalStateException") (xt_runV (As := [.int x1]) (rest := [.int (0 : Int32), .ref oa]) ⟨hx, hb, hml, hown, hts⟩ (t_P_begin_2 l D α κ hα htr σ 0 x1 rfl h2) (cwV 1 hts (xa_V xw505 xw506 xw507 xw1 xw508) rfl rfl rfl (by decide +kernel) ⟨Nat.le_of_ble_eq_true rfl, Nat.le_of_ble_eq_true rfl⟩) ⟨st_blind, va_recv hK0 hP0 rfl (sp_at_P rfl), st_pre hP0 hK0 hN hG va_S.rf _⟩ rfl rfl hl.1 rfl (lv_room (Nat.le_of_ble_eq_true rfl)) d_L_begin_4 ⟨by decide, by decide⟩) hown [⟨0, 9, 12, 13⟩] ⟨0, 9, 15, 15⟩ [] (by rw [hte]; rfl) (fun z hz => by
          simp only [List.mem_cons, List.not_mem_nil, or_false] at hz
          rcases hz with rfl
          · exact Or.inr ⟨by decide, "java/lang/IndexOutOfBoundsException", ht _ xw503, hC ("java/lang/IllegalStateException", "java/lang/IndexOutOfBoundsException") (by decide)⟩
        ) (by decide) (by decide) (ht _ xw504) (va_Nw.use rfl (hG.2.1 "java/lang/IllegalStateException" (by decide))) (fun q H hz hk => ?_)
      refine lv_astore_n (lv' := [(3, .ref q), (0, .ref (α 0)), (1, .int x1), (2, .ref oa)]) hx hb d_L_begin_15 rfl hl (by decide) rfl (fun ls hl => ?_)
      refine lv_iconst (v := 2) hx hb d_L_begin_16 (by decide) ?_
      have hP9 := hP.kept (H1 := H) (fun k q hq => hk q.1 ((hP k q hq).lt))
      exact W.iret (v := 2) hx hb hr (fun t ht_ hW => ⟨⟨2, (σ, g 0), rfl, ⟨by rw [h2]; rfl, fun z => absurd z (by rw [h2]; decide), fun _ => rfl⟩, ⟨_, rfl, by rw [ht_]; exact hP9⟩⟩, by rw [ht_]; exact hz, fun q hq _ => by rw [ht_]; exact hk q hq⟩) (fun z hz => nomatch hz) d_L_begin_17
abbrev b_L_deliver : ByteArray := method_4_code
def y_L_deliver : MethodName := ⟨"SecurePairLaw", "deliver", "(LSecurePair;I[J)I"⟩
abbrev w_L_deliver : List Cond := .codeWith y_L_deliver b_L_deliver 4 (some .int) [(0, 9, 12, 13)] :: xa
theorem d_L_deliver_0 : decode b_L_deliver 0 = .ok (.aload_n 2, 1) := by decide +kernel
theorem d_L_deliver_1 : decode b_L_deliver 1 = .ok (.iconst 0, 1) := by decide +kernel
theorem d_L_deliver_2 : decode b_L_deliver 2 = .ok (.aload_n 0, 1) := by decide +kernel
theorem d_L_deliver_3 : decode b_L_deliver 3 = .ok (.iload_n 1, 1) := by decide +kernel
theorem d_L_deliver_4 : decode b_L_deliver 4 = .ok (.invokevirtual 17, 3) := by decide +kernel
theorem d_L_deliver_7 : decode b_L_deliver 7 = .ok (.i2l, 1) := by decide +kernel
theorem d_L_deliver_8 : decode b_L_deliver 8 = .ok (.lastore, 1) := by decide +kernel
theorem d_L_deliver_9 : decode b_L_deliver 9 = .ok (.goto 6, 3) := by decide +kernel
theorem d_L_deliver_12 : decode b_L_deliver 12 = .ok (.astore_n 3, 1) := by decide +kernel
theorem d_L_deliver_13 : decode b_L_deliver 13 = .ok (.iconst 1, 1) := by decide +kernel
theorem d_L_deliver_14 : decode b_L_deliver 14 = .ok (.ireturn, 1) := by decide +kernel
theorem d_L_deliver_15 : decode b_L_deliver 15 = .ok (.iconst 0, 1) := by decide +kernel
theorem d_L_deliver_16 : decode b_L_deliver 16 = .ok (.ireturn, 1) := by decide +kernel
theorem xw623 : (Cond.methodLink "SecurePairLaw" (17 : Nat) ({ cls := "SecurePair", name := "deliver", desc := "(I)I" } : MethodName)) ∈ xa := xa_t 623 (by decide +kernel) (by decide +kernel)
theorem xw624 : (Cond.instanceMethod ({ cls := "SecurePair", name := "deliver", desc := "(I)I" } : MethodName)) ∈ xa := xa_t 624 (by decide +kernel) (by decide +kernel)
theorem xw625 : (Cond.selects "SecurePair" ({ cls := "SecurePair", name := "deliver", desc := "(I)I" } : MethodName) ({ cls := "SecurePair", name := "deliver", desc := "(I)I" } : MethodName)) ∈ xa := xa_t 625 (by decide +kernel) (by decide +kernel)
theorem xw626 : (Cond.code ({ cls := "SecurePair", name := "deliver", desc := "(I)I" } : MethodName) prog_1_method_7_code (3 : Nat) (Option.some ClassFile.FieldType.int)) ∈ xa := xa_t 626 (by decide +kernel) (by decide +kernel)
set_option maxHeartbeats 4000000 in
set_option maxRecDepth 100000 in
theorem c_L_deliver (l : Launch) (D : va_G) (α : Nat → Nat) (κ : Nat → ClassId) (hα : xb_inj α 35) (htr : l.stackTraces = false) (oa : Nat) (ko : ClassId) (ho : ¬ xb_A α 35 oa) (σ : xb_St) (g : Nat → Int64) (x1 : Int32) (ok : sp_ok σ) : Met l y_L_deliver w_L_deliver ({ frames := 8, cells := 1, slots := 6, locals := 191 }) (va_Pc ([.ref (α 0), .int x1, .ref oa]) (lh_Pre D α κ oa ko σ g)) (va_Qi (fun r (u : xb_St × Int64) => r = nI (th_P_deliver 0 x1 σ) ∧ ((th_P_deliver 0 x1 σ) = 0 → u = ((p_deliver 0 x1 σ).2, (p_deliver 0 x1 σ).1.toInt64)) ∧ (¬ (th_P_deliver 0 x1 σ) = 0 → u = (σ, g 0))) (lh_B D α κ oa ko) (lh_A α oa)) 1 6 (lh_A α oa) := by
  refine xh_ofW (cc := b_L_deliver) (maxL := 4) (ret := (some .int)) (hh := [(0, 9, 12, 13)]) (by decide) rfl ?_
  intro p e s m args below meth c s₁ B_ hml hte hv
  obtain ⟨rfl, hP, hK, hN, hG, hC⟩ := hv
  have hx := B_.exec
  have hb := B_.bytes
  have hr := B_.returns
  have hts := atoms_spec (ws := w_L_deliver) B_.pre
  have ht : ∀ w ∈ xa, w.before _ s = true := fun w h => hts w (List.mem_cons_of_mem _ h)
  have hown : s.vm.findClass "SecurePairLaw" = some m.cls := findClass_of_methodNamed B_.named
  have hlocks := B_.notSynchronized
  have hD := fun σ g => lh_D hα κ ho ko σ g
  have hS : va_S (lh_A α oa) s.heap s.heap [] := va_S.rf
  have hP0 := lh_sp hP
  have hPo := lh_o hP
  have hK0 : va_K D xC (sp_t κ) s := hK.sub (List.range 10) rfl
  have hl := lv_entry ([.ref (α 0), .int x1, .ref oa]) (n := 4) (Nat.le_of_ble_eq_true rfl)
  rw [lg_entry_eq]
  generalize (lg_sl ([.ref (α 0), .int x1, .ref oa]) ++ List.replicate (4 - (lg_sl ([.ref (α 0), .int x1, .ref oa])).length) Slot.unset).toArray = ls at hl ⊢
  have hl : lv_has ls 4 [(0, .ref (α 0)), (1, .int x1), (2, .ref oa)] := hl
  refine lv_aload_n hx hb d_L_deliver_0 rfl (lv_at hl 2 rfl) ?_
  refine lv_iconst (v := 0) hx hb d_L_deliver_1 (by decide) ?_
  refine lv_aload_n hx hb d_L_deliver_2 rfl (lv_at hl 0 rfl) ?_
  refine lv_iload_n hx hb d_L_deliver_3 rfl (lv_at hl 1 rfl) ?_
  by_cases h0 : (th_P_deliver 0 x1 σ) = 0
  · skip
    refine va_calli (va_runV (As := [.int x1]) (rest := [.int (0 : Int32), .ref oa]) ⟨hx, hb, hml, hown, hts⟩ (c_P_deliver l D α κ hα σ 0 x1 rfl ok h0) (cwV 1 hts (xa_V xw623 xw624 xw625 xw1 xw626) rfl rfl rfl (by decide +kernel) ⟨Nat.le_of_ble_eq_true rfl, Nat.le_of_ble_eq_true rfl⟩) ⟨sp_blind, va_recv hK0 hP0 rfl (sp_at_P rfl), sp_pre hP0 hK0 hN _⟩ rfl rfl hl.1 rfl (lv_room (Nat.le_of_ble_eq_true rfl)) d_L_deliver_4 ⟨Nat.le_of_ble_eq_true rfl, Nat.le_of_ble_eq_true rfl⟩) hS (fun q _ h => Or.inl h) (fun q h => Or.inl h) (fun r u t H locs ht_ hvm hu hB hz hk hS => ?_)
    obtain ⟨rfl, rfl⟩ := hu
    have hP1 : va_P D xC (sp_w α κ (p_deliver 0 x1 σ).2) H := by rw [← ht_]; exact hB
    have hP2 := hPo.kept (H1 := H) (fun k q hq => hk q.1 ((hPo k q hq).lt) (lh_ne hq ho))
    have hP := lh_j hP1 hP2
    refine lv_i2l (v := (p_deliver 0 x1 σ).1.toInt64) hx hb d_L_deliver_7 rfl ?_
    refine va_last hx hb hK hP (hD _ _) hS 35 10 rfl rfl (i := 0) (xb_in (x := (0 : Int32)) (xb_lit 0 rfl) (by decide) (by decide)) d_L_deliver_8 (fun H locs hP _ hS => ?_)
    refine lv_goto (tgt := 15) hx hb d_L_deliver_9 (by decide) ?_
    refine lv_iconst (v := 0) hx hb d_L_deliver_15 (by decide) ?_
    refine W.widen (k := 1) (n := 6) (by decide) (by decide) ?_
    exact W.iret (v := 0) hx hb hr (fun t ht_ hW => ⟨⟨0, ((p_deliver 0 x1 σ).2, (p_deliver 0 x1 σ).1.toInt64), rfl, ⟨by rw [h0]; rfl, fun _ => rfl, fun z => absurd h0 z⟩, ⟨_, rfl, by rw [ht_]; exact hP⟩⟩, hS.F ht_⟩) hS.2.2 d_L_deliver_16
  · skip
    have h1 : (th_P_deliver 0 x1 σ) = 1 := (th_P_deliver_v 0 x1 σ h0)
    refine xt_catch (own := "SecurePairLaw") (name := "java/lang/IndexOutOfBoundsException") (xt_runV (As := [.int x1]) (rest := [.int (0 : Int32), .ref oa]) ⟨hx, hb, hml, hown, hts⟩ (t_P_deliver_1 l D α κ hα htr σ 0 x1 rfl h1) (cwV 1 hts (xa_V xw623 xw624 xw625 xw1 xw626) rfl rfl rfl (by decide +kernel) ⟨Nat.le_of_ble_eq_true rfl, Nat.le_of_ble_eq_true rfl⟩) ⟨st_blind, va_recv hK0 hP0 rfl (sp_at_P rfl), st_pre hP0 hK0 hN hG va_S.rf _⟩ rfl rfl hl.1 rfl (lv_room (Nat.le_of_ble_eq_true rfl)) d_L_deliver_4 ⟨by decide, by decide⟩) hown [] ⟨0, 9, 12, 13⟩ [] (by rw [hte]; rfl) (fun z hz => nomatch hz) (by decide) (by decide) (ht _ xw503) (va_Nw.use rfl (hG.2.1 "java/lang/IndexOutOfBoundsException" (by decide))) (fun q H hz hk => ?_)
    refine lv_astore_n (lv' := [(3, .ref q), (0, .ref (α 0)), (1, .int x1), (2, .ref oa)]) hx hb d_L_deliver_12 rfl hl (by decide) rfl (fun ls hl => ?_)
    refine lv_iconst (v := 1) hx hb d_L_deliver_13 (by decide) ?_
    have hP9 := hP.kept (H1 := H) (fun k q hq => hk q.1 ((hP k q hq).lt))
    exact W.iret (v := 1) hx hb hr (fun t ht_ hW => ⟨⟨1, (σ, g 0), rfl, ⟨by rw [h1]; rfl, fun z => absurd z (by rw [h1]; decide), fun _ => rfl⟩, ⟨_, rfl, by rw [ht_]; exact hP9⟩⟩, by rw [ht_]; exact hz, fun q hq _ => by rw [ht_]; exact hk q hq⟩) (fun z hz => nomatch hz) d_L_deliver_14
