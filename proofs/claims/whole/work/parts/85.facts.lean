theorem xw22 : (Cond.instantiable "SecurePair" (2 : Nat)) ∈ xa := xa_t 22 (by decide +kernel) (by decide +kernel)
theorem xw946 : (Cond.instantiable "SecurePairModel" (37 : Nat)) ∈ xa := xa_t 946 (by decide +kernel) (by decide +kernel)
/-! What the Statement says of the start. -/
theorem lw_N {args : Array Value} {s : State} (hts : ∀ w ∈ lw_tbl, w.before args s = true) : sp_N s := ⟨(List.forall_mem_cons.mpr ⟨va_Nw.of rfl (hts _ (List.mem_append_right _ (List.mem_of_getElem? (i := 31) (by decide +kernel)))), (List.forall_mem_cons.mpr ⟨va_Nw.of rfl (hts _ (List.mem_append_right _ (List.mem_of_getElem? (i := 56) (by decide +kernel)))), (List.forall_mem_cons.mpr ⟨va_Nw.of rfl (hts _ (List.mem_append_right _ (List.mem_of_getElem? (i := 98) (by decide +kernel)))), (List.forall_mem_cons.mpr ⟨va_Nw.of rfl (hts _ (List.mem_append_right _ (List.mem_of_getElem? (i := 128) (by decide +kernel)))), (List.forall_mem_cons.mpr ⟨va_Nw.of rfl (hts _ (List.mem_append_right _ (List.mem_of_getElem? (i := 134) (by decide +kernel)))), (List.forall_mem_cons.mpr ⟨va_Nw.of rfl (hts _ (List.mem_append_right _ (List.mem_of_getElem? (i := 389) (by decide +kernel)))), (List.forall_mem_cons.mpr ⟨va_Nw.of rfl (hts _ (List.mem_append_right _ (List.mem_of_getElem? (i := 667) (by decide +kernel)))), (List.forall_mem_cons.mpr ⟨va_Nw.of rfl (hts _ (List.mem_append_right _ (List.mem_of_getElem? (i := 684) (by decide +kernel)))), (List.forall_mem_cons.mpr ⟨va_Nw.of rfl (hts _ (List.mem_append_right _ (List.mem_of_getElem? (i := 701) (by decide +kernel)))), (List.forall_mem_cons.mpr ⟨va_Nw.of rfl (hts _ (List.mem_append_right _ (List.mem_of_getElem? (i := 707) (by decide +kernel)))), (List.forall_mem_cons.mpr ⟨va_Nw.of rfl (hts _ (List.mem_append_right _ (List.mem_of_getElem? (i := 717) (by decide +kernel)))), (List.forall_mem_cons.mpr ⟨va_Nw.of rfl (hts _ (List.mem_append_right _ (List.mem_of_getElem? (i := 718) (by decide +kernel)))), (List.forall_mem_cons.mpr ⟨va_Nw.of rfl (hts _ (List.mem_append_right _ (List.mem_of_getElem? (i := 720) (by decide +kernel)))), (List.forall_mem_cons.mpr ⟨va_Nw.of rfl (hts _ (List.mem_append_right _ (List.mem_of_getElem? (i := 744) (by decide +kernel)))), (List.forall_mem_cons.mpr ⟨va_Nw.of rfl (hts _ (List.mem_append_right _ (List.mem_of_getElem? (i := 746) (by decide +kernel)))), (fun _ h => absurd h List.not_mem_nil)⟩)⟩)⟩)⟩)⟩)⟩)⟩)⟩)⟩)⟩)⟩)⟩)⟩)⟩)⟩), (List.forall_mem_cons.mpr ⟨va_Nw.of rfl (hts _ (List.mem_append_right _ (List.mem_of_getElem? (i := 674) (by decide +kernel)))), (List.forall_mem_cons.mpr ⟨va_Nw.of rfl (hts _ (List.mem_append_right _ (List.mem_of_getElem? (i := 687) (by decide +kernel)))), (List.forall_mem_cons.mpr ⟨va_Nw.of rfl (hts _ (List.mem_append_right _ (List.mem_of_getElem? (i := 693) (by decide +kernel)))), (List.forall_mem_cons.mpr ⟨va_Nw.of rfl (hts _ (List.mem_append_right _ (List.mem_of_getElem? (i := 730) (by decide +kernel)))), (List.forall_mem_cons.mpr ⟨va_Nw.of rfl (hts _ (List.mem_append_right _ (List.mem_of_getElem? (i := 739) (by decide +kernel)))), (fun _ h => absurd h List.not_mem_nil)⟩)⟩)⟩)⟩)⟩)⟩
theorem lw_O {args : Array Value} {s : State} (hts : ∀ w ∈ lw_tbl, w.before args s = true) : va_AO "SecurePair$Channel" s := va_AO.of (hts _ (List.mem_append_right _ (List.mem_of_getElem? (i := 184) (by decide +kernel))))
theorem lw_dc {args : Array Value} {s : State} (hts : ∀ w ∈ lw_tbl, w.before args s = true) : ∀ x ∈ xt_dc, va_Nw (.declares x) s := (List.forall_mem_cons.mpr ⟨va_Nw.of rfl (hts _ (List.mem_append_right _ (List.mem_of_getElem? (i := 517) (by decide +kernel)))), (List.forall_mem_cons.mpr ⟨va_Nw.of rfl (hts _ (List.mem_append_right _ (List.mem_of_getElem? (i := 519) (by decide +kernel)))), (List.forall_mem_cons.mpr ⟨va_Nw.of rfl (hts _ (List.mem_append_right _ (List.mem_of_getElem? (i := 521) (by decide +kernel)))), (fun _ h => absurd h List.not_mem_nil)⟩)⟩)⟩)
theorem lw_cs {args : Array Value} {s : State} (hts : ∀ w ∈ lw_tbl, w.before args s = true) : ∀ c ∈ xt_cs, va_Nw (.castable c c) s := (List.forall_mem_cons.mpr ⟨va_Nw.of rfl (hts _ (List.mem_append_right _ (List.mem_of_getElem? (i := 515) (by decide +kernel)))), (List.forall_mem_cons.mpr ⟨va_Nw.of rfl (hts _ (List.mem_append_right _ (List.mem_of_getElem? (i := 590) (by decide +kernel)))), (List.forall_mem_cons.mpr ⟨va_Nw.of rfl (hts _ (List.mem_append_right _ (List.mem_of_getElem? (i := 846) (by decide +kernel)))), (List.forall_mem_cons.mpr ⟨va_Nw.of rfl (hts _ (List.mem_append_right _ (List.mem_of_getElem? (i := 890) (by decide +kernel)))), (fun _ h => absurd h List.not_mem_nil)⟩)⟩)⟩)⟩)
theorem lw_st211 {args : Array Value} {s : State} (hts : ∀ w ∈ lw_tbl, w.before args s = true) (hgv : (Jvm.Cond.and given_1 narrow_1).before args s = true) : ∃ a, vk_R "SecurePair" 211 "no such endpoint" a s := by
  have h1 : (Cond.exactly (.string "SecurePair" 211) "java/lang/String").before args s = true := flat_of_before _ hgv _ (by decide +kernel)
  obtain ⟨a, -, -, -, ha, -⟩ := Cond.exactly_spec h1
  exact ⟨a, vk_R.of (hts _ (List.mem_append_right _ (List.mem_of_getElem? (i := 555) (by decide +kernel)))) ha⟩
theorem lw_st73 {args : Array Value} {s : State} (hts : ∀ w ∈ lw_tbl, w.before args s = true) (hgv : (Jvm.Cond.and given_1 narrow_1).before args s = true) : ∃ a, vk_R "SecurePair" 73 "neither new nor ready" a s := by
  have h1 : (Cond.exactly (.string "SecurePair" 73) "java/lang/String").before args s = true := flat_of_before _ hgv _ (by decide +kernel)
  obtain ⟨a, -, -, -, ha, -⟩ := Cond.exactly_spec h1
  exact ⟨a, vk_R.of (hts _ (List.mem_append_right _ (List.mem_of_getElem? (i := 597) (by decide +kernel)))) ha⟩
theorem lw_st101 {args : Array Value} {s : State} (hts : ∀ w ∈ lw_tbl, w.before args s = true) (hgv : (Jvm.Cond.and given_1 narrow_1).before args s = true) : ∃ a, vk_R "SecurePair" 101 "not ready" a s := by
  have h1 : (Cond.exactly (.string "SecurePair" 101) "java/lang/String").before args s = true := flat_of_before _ hgv _ (by decide +kernel)
  obtain ⟨a, -, -, -, ha, -⟩ := Cond.exactly_spec h1
  exact ⟨a, vk_R.of (hts _ (List.mem_append_right _ (List.mem_of_getElem? (i := 842) (by decide +kernel)))) ha⟩
theorem lw_st109 {args : Array Value} {s : State} (hts : ∀ w ∈ lw_tbl, w.before args s = true) (hgv : (Jvm.Cond.and given_1 narrow_1).before args s = true) : ∃ a, vk_R "SecurePair" 109 "no channel is free" a s := by
  have h1 : (Cond.exactly (.string "SecurePair" 109) "java/lang/String").before args s = true := flat_of_before _ hgv _ (by decide +kernel)
  obtain ⟨a, -, -, -, ha, -⟩ := Cond.exactly_spec h1
  exact ⟨a, vk_R.of (hts _ (List.mem_append_right _ (List.mem_of_getElem? (i := 853) (by decide +kernel)))) ha⟩
theorem lw_st214 {args : Array Value} {s : State} (hts : ∀ w ∈ lw_tbl, w.before args s = true) (hgv : (Jvm.Cond.and given_1 narrow_1).before args s = true) : ∃ a, vk_R "SecurePair" 214 "no such channel" a s := by
  have h1 : (Cond.exactly (.string "SecurePair" 214) "java/lang/String").before args s = true := flat_of_before _ hgv _ (by decide +kernel)
  obtain ⟨a, -, -, -, ha, -⟩ := Cond.exactly_spec h1
  exact ⟨a, vk_R.of (hts _ (List.mem_append_right _ (List.mem_of_getElem? (i := 880) (by decide +kernel)))) ha⟩
theorem lw_st220 {args : Array Value} {s : State} (hts : ∀ w ∈ lw_tbl, w.before args s = true) (hgv : (Jvm.Cond.and given_1 narrow_1).before args s = true) : ∃ a, vk_R "SecurePair" 220 "not ready, or the channel is not open" a s := by
  have h1 : (Cond.exactly (.string "SecurePair" 220) "java/lang/String").before args s = true := flat_of_before _ hgv _ (by decide +kernel)
  obtain ⟨a, -, -, -, ha, -⟩ := Cond.exactly_spec h1
  exact ⟨a, vk_R.of (hts _ (List.mem_append_right _ (List.mem_of_getElem? (i := 887) (by decide +kernel)))) ha⟩
theorem lw_st127 {args : Array Value} {s : State} (hts : ∀ w ∈ lw_tbl, w.before args s = true) (hgv : (Jvm.Cond.and given_1 narrow_1).before args s = true) : ∃ a, vk_R "SecurePair" 127 "not 1 to 8 bytes" a s := by
  have h1 : (Cond.exactly (.string "SecurePair" 127) "java/lang/String").before args s = true := flat_of_before _ hgv _ (by decide +kernel)
  obtain ⟨a, -, -, -, ha, -⟩ := Cond.exactly_spec h1
  exact ⟨a, vk_R.of (hts _ (List.mem_append_right _ (List.mem_of_getElem? (i := 897) (by decide +kernel)))) ha⟩
theorem lw_sts {args : Array Value} {s : State} (hts : ∀ w ∈ lw_tbl, w.before args s = true) (hgv : (Jvm.Cond.and given_1 narrow_1).before args s = true) : ∀ q ∈ xt_st, ∃ a, vk_R "SecurePair" q.1 q.2 a s := (List.forall_mem_cons.mpr ⟨lw_st211 hts hgv, (List.forall_mem_cons.mpr ⟨lw_st73 hts hgv, (List.forall_mem_cons.mpr ⟨lw_st101 hts hgv, (List.forall_mem_cons.mpr ⟨lw_st109 hts hgv, (List.forall_mem_cons.mpr ⟨lw_st214 hts hgv, (List.forall_mem_cons.mpr ⟨lw_st220 hts hgv, (List.forall_mem_cons.mpr ⟨lw_st127 hts hgv, (fun _ h => absurd h List.not_mem_nil)⟩)⟩)⟩)⟩)⟩)⟩)⟩)
theorem lw_z1 {args : Array Value} {s : State} (hts : ∀ w ∈ lw_tbl, w.before args s = true) (hgv : (Jvm.Cond.and given_1 narrow_1).before args s = true) : va_Zq "java/lang/Throwable" "UNASSIGNED_STACK" "[Ljava/lang/StackTraceElement;" (lw_A s) s s.heap ∧ xt_L "UNASSIGNED_STACK" "[Ljava/lang/StackTraceElement;" (lw_A s) s s.heap := by
  have h1 : (Cond.isRef (.static "java/lang/Throwable" "UNASSIGNED_STACK" "[Ljava/lang/StackTraceElement;")).before args s = true := flat_of_before _ hgv _ (by decide +kernel)
  have h2 : (Cond.laysStatic "java/lang/Throwable" "UNASSIGNED_STACK" "[Ljava/lang/StackTraceElement;").before args s = true := hts _ (List.mem_append_right _ (List.mem_of_getElem? (i := 540) (by decide +kernel)))
  have hA : ∀ a : Nat, a < s.heap.size → ¬ lw_A s a := fun a h => Nat.not_le.mpr h
  exact ⟨va_Zqof h2 (hts _ (List.mem_append_right _ (List.mem_of_getElem? (i := 12) (by decide +kernel)))) h1 hA, xt_L.of h2 hA⟩
theorem lw_z2 {args : Array Value} {s : State} (hts : ∀ w ∈ lw_tbl, w.before args s = true) (hgv : (Jvm.Cond.and given_1 narrow_1).before args s = true) : va_Zq "java/lang/Throwable" "SUPPRESSED_SENTINEL" "Ljava/util/List;" (lw_A s) s s.heap ∧ xt_L "SUPPRESSED_SENTINEL" "Ljava/util/List;" (lw_A s) s s.heap := by
  have h1 : (Cond.isRef (.static "java/lang/Throwable" "SUPPRESSED_SENTINEL" "Ljava/util/List;")).before args s = true := flat_of_before _ hgv _ (by decide +kernel)
  have h2 : (Cond.laysStatic "java/lang/Throwable" "SUPPRESSED_SENTINEL" "Ljava/util/List;").before args s = true := hts _ (List.mem_append_right _ (List.mem_of_getElem? (i := 542) (by decide +kernel)))
  have hA : ∀ a : Nat, a < s.heap.size → ¬ lw_A s a := fun a h => Nat.not_le.mpr h
  exact ⟨va_Zqof h2 (hts _ (List.mem_append_right _ (List.mem_of_getElem? (i := 12) (by decide +kernel)))) h1 hA, xt_L.of h2 hA⟩
theorem lw_G {args : Array Value} {s : State} (hts : ∀ w ∈ lw_tbl, w.before args s = true) (hgv : (Jvm.Cond.and given_1 narrow_1).before args s = true) : xt_G (lw_A s) s s.heap := ⟨lw_dc hts, lw_cs hts, lw_sts hts hgv, lw_z1 hts hgv, (lw_z2 hts hgv).1, (lw_z2 hts hgv).2⟩
theorem lw_C {args : Array Value} {s : State} (hgv : (Jvm.Cond.and given_1 narrow_1).before args s = true) : ∀ q ∈ xt_nc, va_Nc q.1 q.2 s := (List.forall_mem_cons.mpr ⟨va_Nc.of (flat_of_before _ hgv (.not (.castable "java/lang/IllegalStateException" "java/lang/IndexOutOfBoundsException")) (by decide +kernel)), (List.forall_mem_cons.mpr ⟨va_Nc.of (flat_of_before _ hgv (.not (.castable "java/lang/UnsupportedOperationException" "java/lang/IndexOutOfBoundsException")) (by decide +kernel)), (List.forall_mem_cons.mpr ⟨va_Nc.of (flat_of_before _ hgv (.not (.castable "java/lang/UnsupportedOperationException" "java/lang/IllegalStateException")) (by decide +kernel)), (List.forall_mem_cons.mpr ⟨va_Nc.of (flat_of_before _ hgv (.not (.castable "java/lang/IllegalArgumentException" "java/lang/IndexOutOfBoundsException")) (by decide +kernel)), (List.forall_mem_cons.mpr ⟨va_Nc.of (flat_of_before _ hgv (.not (.castable "java/lang/IllegalArgumentException" "java/lang/IllegalStateException")) (by decide +kernel)), (fun _ h => absurd h List.not_mem_nil)⟩)⟩)⟩)⟩)⟩)
theorem lw_K {args : Array Value} {s : State} (ht : ∀ w ∈ xa, w.before args s = true) : ∃ D : va_G, va_K D xC [] s := by
  obtain ⟨c0, i0, h0⟩ := u_known (N := 2) ht in_P (ht _ xw22)
  obtain ⟨c1, i1, h1⟩ := u_known (N := 2) ht in_Line (ht _ xw30)
  obtain ⟨c2, i2, h2⟩ := u_known (N := 6) ht in_Packet (ht _ xw55)
  obtain ⟨c3, i3, h3⟩ := u_known (N := 6) ht in_Keys (ht _ xw97)
  obtain ⟨c4, i4, h4⟩ := u_known (N := 3) ht in_Init (ht _ xw133)
  obtain ⟨c5, i5, h5⟩ := u_known (N := 7) ht in_Exchange (ht _ xw127)
  obtain ⟨c6, i6, h6⟩ := u_known (N := 9) ht in_Channel (ht _ xw185)
  obtain ⟨c7, i7, h7⟩ := u_known (N := 18) ht in_Client (ht _ xw46)
  obtain ⟨c8, i8, h8⟩ := u_known (N := 18) ht in_Server (ht _ xw302)
  obtain ⟨c9, i9, h9⟩ := u_known (N := 37) ht in_Model (ht _ xw946)
  refine ⟨(fun k => if k = 0 then c0 else if k = 1 then c1 else if k = 2 then c2 else if k = 3 then c3 else if k = 4 then c4 else if k = 5 then c5 else if k = 6 then c6 else if k = 7 then c7 else if k = 8 then c8 else if k = 9 then c9 else c0, fun k => if k = 0 then i0 else if k = 1 then i1 else if k = 2 then i2 else if k = 3 then i3 else if k = 4 then i4 else if k = 5 then i5 else if k = 6 then i6 else if k = 7 then i7 else if k = 8 then i8 else if k = 9 then i9 else i0), fun k q hq => ?_, fun k q hq => by simp at hq⟩
  have hk : k < 10 := (List.getElem?_eq_some_iff.mp hq).1
  rcases (show k = 0 ∨ k = 1 ∨ k = 2 ∨ k = 3 ∨ k = 4 ∨ k = 5 ∨ k = 6 ∨ k = 7 ∨ k = 8 ∨ k = 9 by omega) with rfl | rfl | rfl | rfl | rfl | rfl | rfl | rfl | rfl | rfl
  · cases hq; exact h0
  · cases hq; exact h1
  · cases hq; exact h2
  · cases hq; exact h3
  · cases hq; exact h4
  · cases hq; exact h5
  · cases hq; exact h6
  · cases hq; exact h7
  · cases hq; exact h8
  · cases hq; exact h9
