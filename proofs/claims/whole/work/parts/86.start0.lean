theorem xw21 : (Cond.classLink "SecurePairLaw" (8 : Nat) "SecurePair") ∈ xa := xa_t 21 (by decide +kernel) (by decide +kernel)
set_option maxHeartbeats 2000000 in
set_option maxRecDepth 100000 in
theorem lw_s0 {p : Program} {l : Launch} {e : Env} {s : State} {m : MethodId} {below : List Frame} {meth : Method} {c : Code} {Q : State → Prop} {b : Nat} {D : va_G} {A : Nat → Prop} {H : Heap} {locs : List Loc} {ls : Array Slot} (hx : p.tables.exec = Jvm.exec) (hb : c.code = code) (hml : c.maxLocals = 7) (hown : s.vm.findClass "SecurePairLaw" = some m.cls) (ht : ∀ w ∈ xa, w.before #[Value.ref b] s = true) (hN : sp_N s) (hO : va_AO "SecurePair$Channel" s) (hA : ∀ q : Nat, s.heap.size ≤ q → A q) (hP : va_P D xC [] H) (hD : va_D A []) (hK : va_K D xC [] s) (hS : va_S A s.heap H locs) (hl : lv_has ls 7 [(0, .ref b)])
    (kk : ∀ (H : Heap) (locs : List Loc) (ls : Array Slot) (q1 : Nat), va_P D xC [(q1, .inr (0, [.null, .null]))] H → va_D A [(q1, .inr (0, [.null, .null]))] → va_K D xC [] s → va_S A s.heap H locs → lv_has ls 7 [(0, .ref b)] → W p l e room_1 s m #[Value.ref b] below meth c H locs 1 2 Q (F0 m 4 ls [.ref q1, .ref q1])) : W p l e room_1 s m #[Value.ref b] below meth c H locs 0 0 Q (F0 m 0 ls []) := by
  have hts := lw_hts ht
  refine va_new (ci := 0) (fs := [.null, .null]) (C := "SecurePair") (T := T_P) (N := 2) hx hb ht in_P t_P t_P_ok hown (ht _ xw21) (ht _ xw22) (ht _ xw1) hK hP hD hS hA rfl (fun j hj => by rcases (show j = 0 ∨ j = 1 by omega) with rfl | rfl <;> rfl) (by decide +kernel) (by decide +kernel) d_lw_0 (fun q1 H hP hD hS => ?_)
  have hP : va_P D xC [(q1, .inr (0, [.null, .null]))] H := hP
  have hD : va_D A [(q1, .inr (0, [.null, .null]))] := hD
  refine lv_dup hx hb d_lw_3 rfl ?_
  exact kk _ _ _ q1 hP hD hK hS hl
