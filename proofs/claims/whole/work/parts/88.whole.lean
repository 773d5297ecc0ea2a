/-! THE CLAIM OUT OF ONE WALK OF THE LAW'S BODY. Your part is whole_start (and what it stands on); all else here is the same for every law, but numbers. -/
def R_law : String := "SecurePairLaw"
def lw_P (b : Addr) (xs : List Int32) (args : Array Value) (s : State) : Prop := args = #[.ref b] ∧ s.IntsAt b xs ∧ xs.length ≤ 3584 ∧ (Jvm.Cond.and given_1 narrow_1).before args s = true
def lw_Q (_ : Array Value) (s : State) (o : Outcome) (t : State) : Prop := o = .returned (some (.int 1)) ∧ Framed s o t [] 601024 7293034
def lw_Z (below : List Frame) (a : Array Value) (s : State) : State → Prop := fun t => ∃ o, t.status = .running ∧ Ended t below o ∧ lw_Q a s o t
/-- the law's own end, with 1 on the stack, nothing written that was there before, its room as the claim has it -/
theorem lw_ret {p : Program} {l : Launch} {e : Env} {s : State} {m : MethodId} {below : List Frame} {meth : Method} {c : Code} {b : Nat} (hx : p.tables.exec = Jvm.exec) (hb : c.code = code) (hr : meth.sig.returnType = ret) (hlocks : meth.locks = false) {pc : Nat} {H : Heap} {ls : Array Slot} (hdg : decode code pc = .ok (.ireturn, 1)) : W p l e room_1 s m #[Value.ref b] below meth c H [] 601024 7293034 (lw_Z below #[Value.ref b] s) (F0 m pc ls [.int 1]) := by
  intro T hT X
  obtain ⟨fs, hret, hrun, hended, hW, hframe⟩ := X.leave (v := some (.int 1)) (hlocks := hlocks) (fun h => by rw [hr] at h; cases h)
  have hmeth' : T.vm.method? m = some meth := X.method'
  refine ⟨T.setFrames fs, ?_, .returned (some (.int 1)), hrun, hended, rfl, ⟨_, rfl⟩, hW, hframe⟩
  jvm_step X.here [X.here.top, hx, hb, hdg, hmeth', hr, ret, narrow_b1]
  (try refine ⟨rfl, ?_⟩); (try refine ⟨rfl, ?_⟩)
  first | (intro acts; rw [hret _ acts rfl rfl rfl]) | rw [hret _ _ rfl rfl rfl]
  exact Steps.refl _
/-- what holds at the law's entry: the machine, the code, the tables' words (any of lw_tbl by 'hts w (by decide +kernel)'), the script of L ints xs at the cell b, what the Statement gives of the start (any of its parts by flat_of_before) -/
def lw_At (p : Program) (s : State) (m : MethodId) (meth : Method) (c : Code) (b L : Nat) (xs : Nat → Int32) : Prop :=
  p.tables.exec = Jvm.exec ∧ c.code = code ∧ meth.sig.returnType = ret ∧ c.maxLocals = 7 ∧ s.vm.findClass R_law = some m.cls ∧ (∀ w ∈ lw_tbl, w.before #[Value.ref b] s = true) ∧ va_X b L xs s s.heap ∧ b < s.heap.size ∧ meth.locks = false ∧ (Jvm.Cond.and given_1 narrow_1).before #[Value.ref b] s = true
set_option maxHeartbeats 2000000 in
theorem lw_end {p : Program} {e : Env} {s : State} {m : MethodId} {below : List Frame} {meth : Method} {c : Code} (l : Launch) (htr : l.stackTraces = false) {b L : Nat} {xs : Nat → Int32} (hL : L ≤ 3584) (C0 : lw_At p s m meth c b L xs) {D : va_G} {α μ : Nat → Nat} {κ ν : Nat → ClassId} {oa : Nat} {ko : ClassId} {H : Heap} {locs : List Loc} {ls : Array Slot} (hPs : va_P D xC (lh_w α κ oa ko lw_z0 (fun _ => 0)) H) (hM : va_P D xC (sm_w μ ν lw_y0) H) (ap : lw_ap α μ oa) (hA : lw_in (lw_A s) α μ oa) (hK1 : va_K D xC (lh_t κ ko) s) (hK2 : va_K D xC (sm_t ν) s) (hS : va_S (lw_A s) s.heap H locs) (hl : lv_has ls 7 (lw_ls b α μ oa 0)) : W p l e room_1 s m #[Value.ref b] below meth c H locs 71 1054 (lw_Z below #[Value.ref b] s) (F0 m 23 ls []) := by
  obtain ⟨hx, hb, hr, hml, hown, hts, hX, hbl, hlocks, hgv⟩ := C0
  have ht : ∀ w ∈ xa, w.before #[Value.ref b] s = true := fun w hw => hts w (List.mem_filter.mp hw).1
  obtain ⟨a1, a2, a3, a4, a5⟩ := ap
  obtain ⟨b1, b2, b3⟩ := hA
  have F : lw_F p l s m c b L xs D α κ μ ν oa ko := ⟨⟨hx, hb, hml, hown, ht, htr⟩, ⟨hX, hbl, hL⟩, ⟨a1, a2, b1, b2, b3, a3, a4, a5⟩, hK1, hK2, lw_N hts, lw_G hts hgv, lw_C hgv⟩
  refine lw_loop F (fun H locs cells slots ls hS hc hs => ?_) 512 0 H locs 71 1054 lw_z0 lw_y0 (fun _ => 0) ls (by omega) (by omega) (by omega) (by omega) (by omega) (by omega) ⟨hPs, hM, lw_rel0, hS⟩ hl
  refine va_forget hS.2.2 ?_
  refine lv_iconst (v := 1) hx hb d_lw_1202 (by decide) ?_
  refine W.widen (k := 601024) (n := 7293034) hc hs ?_
  exact lw_ret hx hb hr hlocks d_lw_1203
set_option maxHeartbeats 4000000 in
set_option maxRecDepth 100000 in
theorem whole_start {p : Program} {e : Env} {s : State} {m : MethodId} {below : List Frame} {meth : Method} {c : Code} (l : Launch) (htr : l.stackTraces = false) {b L : Nat} {xs : Nat → Int32} (hL : L ≤ 3584) (C0 : lw_At p s m meth c b L xs) : W p l e room_1 s m #[Value.ref b] below meth c s.heap [] 0 0 (lw_Z below #[Value.ref b] s) (entryFrame m ([Value.ref b] : List Value).toArray 7) := by
  have C1 := C0
  obtain ⟨hx, hb, hr, hml, hown, hts, hX, hbl, hlocks, hgv⟩ := C1
  have ht : ∀ w ∈ xa, w.before #[Value.ref b] s = true := fun w hw => hts w (List.mem_filter.mp hw).1
  obtain ⟨D, hK⟩ := lw_K ht
  have hA0 : ∀ q : Nat, s.heap.size ≤ q → lw_A s q := fun q h => h
  have hl := lv_entry ([.ref b]) (n := 7) (Nat.le_of_ble_eq_true rfl)
  rw [lg_entry_eq]
  generalize (lg_sl ([.ref b]) ++ List.replicate (7 - (lg_sl ([.ref b])).length) Slot.unset).toArray = ls at hl ⊢
  have hl : lv_has ls 7 [(0, .ref b)] := hl
  have hP : va_P D xC [] s.heap := fun k q h => by simp at h
  have hD : va_D (lw_A s) [] := ⟨fun i j p q h => by simp at h, fun k q h => by simp at h⟩
  refine lw_s0 hx hb hml hown ht (lw_N hts) (lw_O hts) hA0 hP hD hK va_S.rf hl (fun H locs ls q1 hP hD hK hS hl => ?_)
  refine lw_s1 hx hb hml hown ht (lw_N hts) (lw_O hts) hA0 hP hD hK hS hl (fun H locs ls q2 q3 q4 q5 q6 q7 q8 q9 q10 q11 q12 q13 q14 q15 q16 q17 q18 q19 q20 q21 q22 q23 q24 q25 q26 q27 q28 q29 q30 q31 q32 q33 q34 q35 k36 k37 k38 k39 k40 k41 k42 k43 k44 k45 hP hD hK hS hl => ?_)
  refine lw_t2 hx hb hml hown ht (lw_N hts) (lw_O hts) hA0 (lw_g1 hP) (lw_g1D hD) hK hS hl (fun H ls h0 hP hD hS hl => ?_)
  refine lw_t3 hx hb hml hown ht (lw_N hts) (lw_O hts) hA0 hP hD hK hS hl (fun H locs n1 n2 n3 n4 n5 n6 n7 n8 n9 n10 n11 n12 n13 n14 n15 n16 n17 n18 n19 n20 n21 n22 n23 n24 n25 n26 n27 n28 n29 n30 n31 n32 n33 n34 k1 k2 k3 k4 k5 k6 k7 k8 k9 k10 k11 k12 k13 k14 k15 k16 k17 k18 k19 k20 k21 k22 k23 k24 k25 k26 k27 k28 k29 k30 k31 k32 k33 k34 hP hD hKm hS => ?_)
  refine lw_t4 hx hb hml hown ht (lw_N hts) (lw_O hts) hA0 hP hD (hK.sub [] rfl) hS hl (fun H ls oa ko hP hD hKo hS hl => ?_)
  have hl' : lv_has ls 7 (lw_ls b (lw_al [q1, q2, q4, q3, q5, q6, q7, q8, q9, q10, q11, q12, q13, q14, q15, q17, q19, q16, q18, q20, q21, q22, q23, q24, q25, q26, q27, q28, q29, q30, q32, q34, q31, q33, q35]) (lw_al [h0, n1, n2, n3, n4, n5, n6, n7, n8, n9, n10, n11, n12, n13, n14, n15, n16, n17, n18, n19, n20, n21, n22, n23, n24, n25, n26, n27, n28, n29, n30, n31, n32, n33, n34]) oa 0) := lw_u6 rfl rfl hl
  have hJ := lw_u4 hD
  have hPs := lw_u1 hP
  have hM := lw_u2 hP
  have hK1 := lw_u5 hK hKo
  have hK2 := lw_g9 hKm
  exact lw_end l htr hL C0 hPs hM hJ.1 hJ.2 hK1 hK2 hS hl'
