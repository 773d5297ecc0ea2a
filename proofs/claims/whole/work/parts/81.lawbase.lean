theorem th_P_begin_le (Z : Nat) (x1 : Int32) (σ : xb_St) : th_P_begin Z x1 σ ≤ 3 := by
  by_cases h0 : th_P_begin Z x1 σ = 0
  · rw [h0]; decide
  · skip
    by_cases h1 : th_P_begin Z x1 σ = 1
    · rw [h1]; decide
    · skip
      rw [th_P_begin_v Z x1 σ h0 h1]; decide
theorem th_P_deliver_le (Z : Nat) (x1 : Int32) (σ : xb_St) : th_P_deliver Z x1 σ ≤ 3 := by
  by_cases h0 : th_P_deliver Z x1 σ = 0
  · rw [h0]; decide
  · skip
    rw [th_P_deliver_v Z x1 σ h0]; decide
theorem th_P_open_le (Z : Nat) (x1 : Int32) (σ : xb_St) : th_P_open Z x1 σ ≤ 3 := by
  by_cases h0 : th_P_open Z x1 σ = 0
  · rw [h0]; decide
  · skip
    by_cases h1 : th_P_open Z x1 σ = 1
    · rw [h1]; decide
    · skip
      by_cases h2 : th_P_open Z x1 σ = 2
      · rw [h2]; decide
      · skip
        rw [th_P_open_v Z x1 σ h0 h1 h2]; decide
theorem th_P_write_le (Z : Nat) (x1 x2 : Int32) (x3 : Int64) (x4 : Int32) (σ : xb_St) : th_P_write Z x1 x2 x3 x4 σ ≤ 3 := by
  by_cases h0 : th_P_write Z x1 x2 x3 x4 σ = 0
  · rw [h0]; decide
  · skip
    by_cases h1 : th_P_write Z x1 x2 x3 x4 σ = 1
    · rw [h1]; decide
    · skip
      by_cases h2 : th_P_write Z x1 x2 x3 x4 σ = 2
      · rw [h2]; decide
      · skip
        rw [th_P_write_v Z x1 x2 x3 x4 σ h0 h1 h2]; decide
theorem th_P_read_le (Z : Nat) (x1 x2 : Int32) (σ : xb_St) : th_P_read Z x1 x2 σ ≤ 3 := by
  by_cases h0 : th_P_read Z x1 x2 σ = 0
  · rw [h0]; decide
  · skip
    rw [th_P_read_v Z x1 x2 σ h0]; decide
theorem th_P_close_le (Z : Nat) (x1 x2 : Int32) (σ : xb_St) : th_P_close Z x1 x2 σ ≤ 3 := by
  by_cases h0 : th_P_close Z x1 x2 σ = 0
  · rw [h0]; decide
  · skip
    by_cases h1 : th_P_close Z x1 x2 σ = 1
    · rw [h1]; decide
    · skip
      rw [th_P_close_v Z x1 x2 σ h0 h1]; decide
/-! The law's loop: what stands fast, and what its head keeps. -/
abbrev lw_ws : List Cond := Cond.initialized "SecurePair" :: xa
theorem lw_hts {args : Array Value} {s : State} (h : ∀ w ∈ xa, w.before args s = true) : ∀ w ∈ lw_ws, w.before args s = true := fun w hw => by
  rcases List.mem_cons.mp hw with rfl | h'
  · exact h _ xw1
  · exact h w h'
abbrev lw_A (s : State) : Nat → Prop := fun q => s.heap.size ≤ q
def lw_F (p : Program) (l : Launch) (s : State) (m : MethodId) (c : Code) (b L : Nat) (xs : Nat → Int32) (D : va_G) (α : Nat → Nat) (κ : Nat → ClassId) (μ : Nat → Nat) (ν : Nat → ClassId) (oa : Nat) (ko : ClassId) : Prop :=
  (p.tables.exec = Jvm.exec ∧ c.code = code ∧ c.maxLocals = 7 ∧ s.vm.findClass "SecurePairLaw" = some m.cls ∧ (∀ w ∈ xa, w.before #[Value.ref b] s = true) ∧ l.stackTraces = false) ∧ (va_X b L xs s s.heap ∧ b < s.heap.size ∧ L ≤ 3584) ∧
  (xb_inj α 35 ∧ xb_inj μ 35 ∧ (∀ q, xb_A α 35 q → lw_A s q) ∧ (∀ q, xb_A μ 35 q → lw_A s q) ∧ lw_A s oa ∧ ¬ xb_A α 35 oa ∧ ¬ xb_A μ 35 oa ∧ ∀ q, xb_A α 35 q → ¬ xb_A μ 35 q) ∧
  va_K D xC (lh_t κ ko) s ∧ va_K D xC (sm_t ν) s ∧ sp_N s ∧ xt_G (lw_A s) s s.heap ∧ ∀ q ∈ xt_nc, va_Nc q.1 q.2 s
def lw_I (D : va_G) (α : Nat → Nat) (κ : Nat → ClassId) (μ : Nat → Nat) (ν : Nat → ClassId) (oa : Nat) (ko : ClassId) (s : State) (H : Heap) (locs : List Loc) (σ τ : xb_St) (g : Nat → Int64) : Prop := va_P D xC (lh_w α κ oa ko σ g) H ∧ va_P D xC (sm_w μ ν τ) H ∧ Rel σ τ ∧ va_S (lw_A s) s.heap H locs
abbrev lw_ls (b : Nat) (α μ : Nat → Nat) (oa i : Nat) : List (Nat × Value) := [(0, .ref b), (1, .ref (α 0)), (2, .ref (μ 0)), (3, .ref oa), (4, .int (nI i))]
theorem xt_G.narrow {A B : Nat → Prop} {U : State} {H : Heap} (h : xt_G A U H) (hAB : ∀ q, B q → A q) : xt_G B U H := ⟨h.1, h.2.1, h.2.2.1, ⟨h.2.2.2.1.1.narrow hAB, h.2.2.2.1.2.narrow hAB⟩, h.2.2.2.2.1.narrow hAB, h.2.2.2.2.2.narrow hAB⟩
theorem Rel_sp {σ τ : xb_St} (h : Rel σ τ) : sp_ok σ := by
  refine ⟨fun k hk => ?_, fun k hk => ?_⟩
  · rcases hk with rfl | rfl
    · obtain ⟨n, hn, e1, -⟩ := h.l0; exact ⟨n, hn, e1⟩
    · obtain ⟨n, hn, e1, -⟩ := h.l1; exact ⟨n, hn, e1⟩
  · have one : ∀ C q c, rQ C q c → (∃ n : Nat, n < 24 ∧ σ.1 C 6 = nI n) ∧ ∃ n : Nat, n ≤ 24 ∧ σ.1 C 7 = nI n := by
      intro C q c hQ
      have hC := h.Ch hQ
      obtain ⟨f, a, b, d, hf, hu, e1, e2, e3, e4, -⟩ := hC.nu
      exact ⟨⟨f, hf, e1⟩, b, by omega, hC.he.trans e3⟩
    rcases hk with rfl | rfl | rfl | rfl | rfl | rfl
    · exact one 14 0 0 (by decide)
    · exact one 15 1 1 (by decide)
    · exact one 16 2 2 (by decide)
    · exact one 29 3 0 (by decide)
    · exact one 30 4 1 (by decide)
    · exact one 31 5 2 (by decide)
theorem Rel_sm {σ τ : xb_St} (h : Rel σ τ) : sm_ok τ := by
  refine ⟨fun e he => ?_, fun q hq => ?_⟩
  · obtain ⟨n, hn, -, e2, -⟩ := h.L he; exact ⟨n, hn, e2⟩
  · have one : ∀ C c, rQ C q c → ∃ a b c : Nat, a + b + c ≤ 24 ∧ τ.1 31 q = nI a ∧ τ.1 32 q = nI b ∧ τ.1 33 q = nI c := by
      intro C c hQ
      obtain ⟨f, a, b, d, hf, hu, e1, e2, e3, e4, -⟩ := (h.Ch hQ).nu
      exact ⟨a, b, d, hu, e2, e3, e4⟩
    obtain rfl | rfl | rfl | rfl | rfl | rfl : q = 0 ∨ q = 1 ∨ q = 2 ∨ q = 3 ∨ q = 4 ∨ q = 5 := by omega
    · exact one 14 0 (by decide)
    · exact one 15 1 (by decide)
    · exact one 16 2 (by decide)
    · exact one 29 0 (by decide)
    · exact one 30 1 (by decide)
    · exact one 31 2 (by decide)
section LW
variable {p : Program} {l : Launch} {e : Env} {s : State} {m : MethodId} {below : List Frame} {meth : Method} {c : Code} {H : Heap} {locs : List Loc} {cells slots : Nat} {Q : State → Prop}
variable {pc : Nat} {ls : Array Slot} {rest st0 : List Value} {b L : Nat} {xs : Nat → Int32} {D : va_G} {α : Nat → Nat} {κ : Nat → ClassId} {μ : Nat → Nat} {ν : Nat → ClassId} {oa : Nat} {ko : ClassId} {σ τ : xb_St} {g : Nat → Int64} {i : Nat}
theorem lw_rd2 (F : lw_F p l s m c b L xs D α κ μ ν oa ko) (hS : va_S (lw_A s) s.heap H locs) {k : Nat} {y : Int32} (hy : y = nI k) (hk : i + k < L) (d1 : decode code pc = .ok (.iadd, 1)) (d2 : decode code (pc + 1) = .ok (.iaload, 1)) (kk : W p l e room_1 s m #[Value.ref b] below meth c H locs cells slots Q (F0 m (pc + 1 + 1) ls (.int (xs (i + k)) :: rest))) : W p l e room_1 s m #[Value.ref b] below meth c H locs cells slots Q (F0 m pc ls (.int y :: .int (nI i) :: .ref b :: rest)) := by
  obtain ⟨⟨hx, hb, -⟩, ⟨hX, hbl, hL⟩, -⟩ := F
  subst hy
  refine lv_iadd hx hb d1 ?_
  refine xb_ti (nI_add i k) ?_
  refine va_sld hx hb hX hbl (Nat.not_le.mpr hbl) hS (xb_in rfl hk (by omega)) d2 ?_
  rw [nI_clamp (by omega)]
  exact kk
theorem lw_mk (F : lw_F p l s m c b L xs D α κ μ ν oa ko) {H1 : Heap} (hM : va_P D xC (sm_w μ ν τ) H) (hk : ∀ q : Nat, q < H.size → ¬ xb_A α 35 q → H1[q]? = H[q]?) : va_P D xC (sm_w μ ν τ) H1 := hM.kept (fun k q hq => hk q.1 ((hM k q hq).lt) (fun z => F.2.2.1.2.2.2.2.2.2.2 _ z ((sm_D F.2.2.1.2.1 ν τ).2 k q hq)))
theorem lw_ok (F : lw_F p l s m c b L xs D α κ μ ν oa ko) {H1 : Heap} (hP : va_P D xC (lh_w α κ oa ko σ g) H) (hk : ∀ q : Nat, q < H.size → ¬ xb_A α 35 q → H1[q]? = H[q]?) : va_P D xC [(oa, .inl (ko, 1, .inr (.inl g)))] H1 := (lh_o hP).kept (fun k q hq => hk q.1 ((lh_o hP k q hq).lt) (lh_ne hq F.2.2.1.2.2.2.2.2.1))
theorem lw_pk (F : lw_F p l s m c b L xs D α κ μ ν oa ko) {H1 : Heap} (hP : va_P D xC (lh_w α κ oa ko σ g) H) (hk : ∀ q : Nat, q < H.size → ¬ xb_A μ 35 q → H1[q]? = H[q]?) : va_P D xC (lh_w α κ oa ko σ g) H1 := by
  obtain ⟨-, -, ⟨hα, hμ, hA1, hA2, hA3, ho, ho2, hd⟩, -⟩ := F
  refine hP.kept (fun k q hq => hk q.1 ((hP k q hq).lt) (fun z => ?_))
  rcases (lh_D hα κ ho ko σ g).2 k q hq with h | h
  · exact hd _ h z
  · exact ho2 (h ▸ z)
theorem lp_i (F : lw_F p l s m c b L xs D α κ μ ν oa ko) (hP : va_P D xC (lh_w α κ oa ko σ g) H) (hM : va_P D xC (sm_w μ ν τ) H) (hS : va_S (lw_A s) s.heap H locs) {y : MethodName} {bytes : ByteArray} {maxL n index : Nat} {ret0 : Option FieldType} {ws : List Cond} {rm : Room} {As : List Value} {fr : Int32} {fu : xb_St} (hc : Met l y ws rm (va_Pc (.ref (α 0) :: As) (sp_Pre D α κ σ)) (va_Qi (fun r (u : xb_St) => r = fr ∧ u = fu) (sp_B D α κ) (xb_A α 35)) 0 0 (xb_A α 35)) (cw : CallW room_1 s #[Value.ref b] "SecurePairLaw" "SecurePair" index y bytes maxL ret0 ws rm 0 0 n) (hn : As.length = n) (hsz : ls.size = 7) (hst : st0 = As.reverse ++ .ref (α 0) :: rest) (hW : (rest.map fun v => v.category).sum ≤ 8) (hdg : decode code pc = .ok (.invokevirtual index, 3)) (hcl : cells ≤ 601024) (hsl : slots ≤ 7293034)
    (kk : ∀ (H : Heap) (locs : List Loc), va_P D xC (lh_w α κ oa ko fu g) H → va_P D xC (sm_w μ ν τ) H → va_S (lw_A s) s.heap H locs → W p l e room_1 s m #[Value.ref b] below meth c H locs cells slots Q (F0 m (pc + 3) ls (.int fr :: rest))) : W p l e room_1 s m #[Value.ref b] below meth c H locs cells slots Q (F0 m pc ls st0) := by
  have F9 := F
  obtain ⟨⟨hx, hb, hml, hown, ht, -⟩, -, ⟨hα, -, hA1, -⟩, hK, -, hN, -⟩ := F
  have hts := lw_hts ht
  have hP0 := lh_sp hP
  have hK0 : va_K D xC (sp_t κ) s := hK.sub (List.range 10) rfl
  refine va_calli (va_runV (As := As) (rest := rest) ⟨hx, hb, hml, hown, hts⟩ hc cw ⟨sp_blind, va_recv hK0 hP0 rfl (sp_at_P rfl), sp_pre hP0 hK0 hN _⟩ rfl hn hsz hst (lv_room hW) hdg ⟨hcl, hsl⟩) hS (fun q _ h => hA1 q h) hA1 (fun r u t H1 locs1 ht_ hvm hu hB hz hk hS => ?_)
  obtain ⟨rfl, rfl⟩ := hu
  exact kk H1 locs1 (lh_j (by rw [← ht_]; exact hB) (lw_ok F9 hP hk)) (lw_mk F9 hM hk) hS
theorem lm_i (F : lw_F p l s m c b L xs D α κ μ ν oa ko) (hP : va_P D xC (lh_w α κ oa ko σ g) H) (hM : va_P D xC (sm_w μ ν τ) H) (hS : va_S (lw_A s) s.heap H locs) {y : MethodName} {bytes : ByteArray} {maxL n index : Nat} {ret0 : Option FieldType} {ws : List Cond} {rm : Room} {As : List Value} {fr : Int32} {fu : xb_St} (hc : Met l y ws rm (va_Pc (.ref (μ 0) :: As) (sm_Pre D μ ν τ)) (va_Qi (fun r (u : xb_St) => r = fr ∧ u = fu) (sm_B D μ ν) (xb_A μ 35)) 0 0 (xb_A μ 35)) (cw : CallW room_1 s #[Value.ref b] "SecurePairLaw" "SecurePairModel" index y bytes maxL ret0 ws rm 0 0 n) (hn : As.length = n) (hsz : ls.size = 7) (hst : st0 = As.reverse ++ .ref (μ 0) :: rest) (hW : (rest.map fun v => v.category).sum ≤ 8) (hdg : decode code pc = .ok (.invokevirtual index, 3)) (hcl : cells ≤ 601024) (hsl : slots ≤ 7293034)
    (kk : ∀ (H : Heap) (locs : List Loc), va_P D xC (lh_w α κ oa ko σ g) H → va_P D xC (sm_w μ ν fu) H → va_S (lw_A s) s.heap H locs → W p l e room_1 s m #[Value.ref b] below meth c H locs cells slots Q (F0 m (pc + 3) ls (.int fr :: rest))) : W p l e room_1 s m #[Value.ref b] below meth c H locs cells slots Q (F0 m pc ls st0) := by
  have F9 := F
  obtain ⟨⟨hx, hb, hml, hown, ht, -⟩, -, ⟨-, hμ, -, hA2, -⟩, -, hKm, -⟩ := F
  have hts := lw_hts ht
  refine va_calli (va_runV (As := As) (rest := rest) ⟨hx, hb, hml, hown, hts⟩ hc cw ⟨sm_blind, va_recv (q0 := 0) (ci := 9) hKm hM rfl rfl, sm_pre hM hKm trivial _⟩ rfl hn hsz hst (lv_room hW) hdg ⟨hcl, hsl⟩) hS (fun q _ h => hA2 q h) hA2 (fun r u t H1 locs1 ht_ hvm hu hB hz hk hS => ?_)
  obtain ⟨rfl, rfl⟩ := hu
  exact kk H1 locs1 (lw_pk F9 hP hk) (by rw [← ht_]; exact hB) hS
theorem lp_l (F : lw_F p l s m c b L xs D α κ μ ν oa ko) (hP : va_P D xC (lh_w α κ oa ko σ g) H) (hM : va_P D xC (sm_w μ ν τ) H) (hS : va_S (lw_A s) s.heap H locs) {y : MethodName} {bytes : ByteArray} {maxL n index : Nat} {ret0 : Option FieldType} {ws : List Cond} {rm : Room} {As : List Value} {fr : Int64} {fu : xb_St} (hc : Met l y ws rm (va_Pc (.ref (α 0) :: As) (sp_Pre D α κ σ)) (va_Ql (fun r (u : xb_St) => r = fr ∧ u = fu) (sp_B D α κ) (xb_A α 35)) 0 0 (xb_A α 35)) (cw : CallW room_1 s #[Value.ref b] "SecurePairLaw" "SecurePair" index y bytes maxL ret0 ws rm 0 0 n) (hn : As.length = n) (hsz : ls.size = 7) (hst : st0 = As.reverse ++ .ref (α 0) :: rest) (hW : (rest.map fun v => v.category).sum ≤ 8) (hdg : decode code pc = .ok (.invokevirtual index, 3)) (hcl : cells ≤ 601024) (hsl : slots ≤ 7293034)
    (kk : ∀ (H : Heap) (locs : List Loc), va_P D xC (lh_w α κ oa ko fu g) H → va_P D xC (sm_w μ ν τ) H → va_S (lw_A s) s.heap H locs → W p l e room_1 s m #[Value.ref b] below meth c H locs cells slots Q (F0 m (pc + 3) ls (.long fr :: rest))) : W p l e room_1 s m #[Value.ref b] below meth c H locs cells slots Q (F0 m pc ls st0) := by
  have F9 := F
  obtain ⟨⟨hx, hb, hml, hown, ht, -⟩, -, ⟨hα, -, hA1, -⟩, hK, -, hN, -⟩ := F
  have hts := lw_hts ht
  have hP0 := lh_sp hP
  have hK0 : va_K D xC (sp_t κ) s := hK.sub (List.range 10) rfl
  refine va_calll (va_runV (As := As) (rest := rest) ⟨hx, hb, hml, hown, hts⟩ hc cw ⟨sp_blind, va_recv hK0 hP0 rfl (sp_at_P rfl), sp_pre hP0 hK0 hN _⟩ rfl hn hsz hst (lv_room hW) hdg ⟨hcl, hsl⟩) hS (fun q _ h => hA1 q h) hA1 (fun r u t H1 locs1 ht_ hvm hu hB hz hk hS => ?_)
  obtain ⟨rfl, rfl⟩ := hu
  exact kk H1 locs1 (lh_j (by rw [← ht_]; exact hB) (lw_ok F9 hP hk)) (lw_mk F9 hM hk) hS
theorem lm_l (F : lw_F p l s m c b L xs D α κ μ ν oa ko) (hP : va_P D xC (lh_w α κ oa ko σ g) H) (hM : va_P D xC (sm_w μ ν τ) H) (hS : va_S (lw_A s) s.heap H locs) {y : MethodName} {bytes : ByteArray} {maxL n index : Nat} {ret0 : Option FieldType} {ws : List Cond} {rm : Room} {As : List Value} {fr : Int64} {fu : xb_St} (hc : Met l y ws rm (va_Pc (.ref (μ 0) :: As) (sm_Pre D μ ν τ)) (va_Ql (fun r (u : xb_St) => r = fr ∧ u = fu) (sm_B D μ ν) (xb_A μ 35)) 0 0 (xb_A μ 35)) (cw : CallW room_1 s #[Value.ref b] "SecurePairLaw" "SecurePairModel" index y bytes maxL ret0 ws rm 0 0 n) (hn : As.length = n) (hsz : ls.size = 7) (hst : st0 = As.reverse ++ .ref (μ 0) :: rest) (hW : (rest.map fun v => v.category).sum ≤ 8) (hdg : decode code pc = .ok (.invokevirtual index, 3)) (hcl : cells ≤ 601024) (hsl : slots ≤ 7293034)
    (kk : ∀ (H : Heap) (locs : List Loc), va_P D xC (lh_w α κ oa ko σ g) H → va_P D xC (sm_w μ ν fu) H → va_S (lw_A s) s.heap H locs → W p l e room_1 s m #[Value.ref b] below meth c H locs cells slots Q (F0 m (pc + 3) ls (.long fr :: rest))) : W p l e room_1 s m #[Value.ref b] below meth c H locs cells slots Q (F0 m pc ls st0) := by
  have F9 := F
  obtain ⟨⟨hx, hb, hml, hown, ht, -⟩, -, ⟨-, hμ, -, hA2, -⟩, -, hKm, -⟩ := F
  have hts := lw_hts ht
  refine va_calll (va_runV (As := As) (rest := rest) ⟨hx, hb, hml, hown, hts⟩ hc cw ⟨sm_blind, va_recv (q0 := 0) (ci := 9) hKm hM rfl rfl, sm_pre hM hKm trivial _⟩ rfl hn hsz hst (lv_room hW) hdg ⟨hcl, hsl⟩) hS (fun q _ h => hA2 q h) hA2 (fun r u t H1 locs1 ht_ hvm hu hB hz hk hS => ?_)
  obtain ⟨rfl, rfl⟩ := hu
  exact kk H1 locs1 (lw_pk F9 hP hk) (by rw [← ht_]; exact hB) hS
theorem lp_v (F : lw_F p l s m c b L xs D α κ μ ν oa ko) (hP : va_P D xC (lh_w α κ oa ko σ g) H) (hM : va_P D xC (sm_w μ ν τ) H) (hS : va_S (lw_A s) s.heap H locs) {y : MethodName} {bytes : ByteArray} {maxL n index : Nat} {ret0 : Option FieldType} {ws : List Cond} {rm : Room} {As : List Value} {fu : xb_St} (hc : Met l y ws rm (va_Pc (.ref (α 0) :: As) (sp_Pre D α κ σ)) (va_Qv (fun u : xb_St => u = fu) (sp_B D α κ) (xb_A α 35)) 0 0 (xb_A α 35)) (cw : CallW room_1 s #[Value.ref b] "SecurePairLaw" "SecurePair" index y bytes maxL ret0 ws rm 0 0 n) (hn : As.length = n) (hsz : ls.size = 7) (hst : st0 = As.reverse ++ .ref (α 0) :: rest) (hW : (rest.map fun v => v.category).sum ≤ 8) (hdg : decode code pc = .ok (.invokevirtual index, 3)) (hcl : cells ≤ 601024) (hsl : slots ≤ 7293034)
    (kk : ∀ (H : Heap) (locs : List Loc), va_P D xC (lh_w α κ oa ko fu g) H → va_P D xC (sm_w μ ν τ) H → va_S (lw_A s) s.heap H locs → W p l e room_1 s m #[Value.ref b] below meth c H locs cells slots Q (F0 m (pc + 3) ls rest)) : W p l e room_1 s m #[Value.ref b] below meth c H locs cells slots Q (F0 m pc ls st0) := by
  have F9 := F
  obtain ⟨⟨hx, hb, hml, hown, ht, -⟩, -, ⟨hα, -, hA1, -⟩, hK, -, hN, -⟩ := F
  have hts := lw_hts ht
  have hP0 := lh_sp hP
  have hK0 : va_K D xC (sp_t κ) s := hK.sub (List.range 10) rfl
  refine va_callv (va_runV (As := As) (rest := rest) ⟨hx, hb, hml, hown, hts⟩ hc cw ⟨sp_blind, va_recv hK0 hP0 rfl (sp_at_P rfl), sp_pre hP0 hK0 hN _⟩ rfl hn hsz hst (lv_room hW) hdg ⟨hcl, hsl⟩) hS (fun q _ h => hA1 q h) hA1 (fun u t H1 locs1 ht_ hvm hu hB hz hk hS => ?_)
  subst hu
  exact kk H1 locs1 (lh_j (by rw [← ht_]; exact hB) (lw_ok F9 hP hk)) (lw_mk F9 hM hk) hS
theorem lm_v (F : lw_F p l s m c b L xs D α κ μ ν oa ko) (hP : va_P D xC (lh_w α κ oa ko σ g) H) (hM : va_P D xC (sm_w μ ν τ) H) (hS : va_S (lw_A s) s.heap H locs) {y : MethodName} {bytes : ByteArray} {maxL n index : Nat} {ret0 : Option FieldType} {ws : List Cond} {rm : Room} {As : List Value} {fu : xb_St} (hc : Met l y ws rm (va_Pc (.ref (μ 0) :: As) (sm_Pre D μ ν τ)) (va_Qv (fun u : xb_St => u = fu) (sm_B D μ ν) (xb_A μ 35)) 0 0 (xb_A μ 35)) (cw : CallW room_1 s #[Value.ref b] "SecurePairLaw" "SecurePairModel" index y bytes maxL ret0 ws rm 0 0 n) (hn : As.length = n) (hsz : ls.size = 7) (hst : st0 = As.reverse ++ .ref (μ 0) :: rest) (hW : (rest.map fun v => v.category).sum ≤ 8) (hdg : decode code pc = .ok (.invokevirtual index, 3)) (hcl : cells ≤ 601024) (hsl : slots ≤ 7293034)
    (kk : ∀ (H : Heap) (locs : List Loc), va_P D xC (lh_w α κ oa ko σ g) H → va_P D xC (sm_w μ ν fu) H → va_S (lw_A s) s.heap H locs → W p l e room_1 s m #[Value.ref b] below meth c H locs cells slots Q (F0 m (pc + 3) ls rest)) : W p l e room_1 s m #[Value.ref b] below meth c H locs cells slots Q (F0 m pc ls st0) := by
  have F9 := F
  obtain ⟨⟨hx, hb, hml, hown, ht, -⟩, -, ⟨-, hμ, -, hA2, -⟩, -, hKm, -⟩ := F
  have hts := lw_hts ht
  refine va_callv (va_runV (As := As) (rest := rest) ⟨hx, hb, hml, hown, hts⟩ hc cw ⟨sm_blind, va_recv (q0 := 0) (ci := 9) hKm hM rfl rfl, sm_pre hM hKm trivial _⟩ rfl hn hsz hst (lv_room hW) hdg ⟨hcl, hsl⟩) hS (fun q _ h => hA2 q h) hA2 (fun u t H1 locs1 ht_ hvm hu hB hz hk hS => ?_)
  subst hu
  exact kk H1 locs1 (lw_pk F9 hP hk) (by rw [← ht_]; exact hB) hS
theorem lh_c (F : lw_F p l s m c b L xs D α κ μ ν oa ko) (hP : va_P D xC (lh_w α κ oa ko σ g) H) (hM : va_P D xC (sm_w μ ν τ) H) (hS : va_S (lw_A s) s.heap H locs) {y : MethodName} {bytes : ByteArray} {maxL n index fr lo th : Nat} {ret0 : Option FieldType} {hh : List (Nat × Nat × Nat × Nat)} {As : List Value} {fu : xb_St} {fv : Int64} (hc : Met l y (Cond.codeWith y bytes maxL ret0 hh :: xa) { frames := fr, cells := 1, slots := 6, locals := lo } (va_Pc As (lh_Pre D α κ oa ko σ g)) (va_Qi (fun r (u : xb_St × Int64) => r = nI th ∧ (th = 0 → u = (fu, fv)) ∧ (¬ th = 0 → u = (σ, g 0))) (lh_B D α κ oa ko) (lh_A α oa)) 1 6 (lh_A α oa))
    (hfr : fr + 1 ≤ 12) (hlo : 8 + (maxL + 11) + lo ≤ 482) (hcx : Cond.codeWith y bytes maxL ret0 hh ∈ xa) (hlk : Cond.methodLink "SecurePairLaw" index y ∈ xa) (hstc : Cond.static y ∈ xa) (hini : Cond.initialized y.cls ∈ xa) (hy : y.cls ≠ "java/lang/invoke/MethodHandle" ∧ y.cls ≠ "java/lang/invoke/VarHandle") (hlen : (parseMethodDescriptor y.desc).map (fun d => d.parameters.length) = some n) (hn : As.length = n) (hsz : ls.size = 7) (hst : st0 = As.reverse ++ rest) (hW : (rest.map fun v => v.category).sum ≤ 8) (hdg : decode code pc = .ok (.invokestatic index, 3)) (hcl : cells + 1 ≤ 601024) (hsl : slots + 6 ≤ 7293034)
    (kk : ∀ (H : Heap) (locs : List Loc) (u : xb_St) (g' : Nat → Int64), (th = 0 → u = fu ∧ g' 0 = fv) → (¬ th = 0 → u = σ) → va_P D xC (lh_w α κ oa ko u g') H → va_P D xC (sm_w μ ν τ) H → va_S (lw_A s) s.heap H locs → W p l e room_1 s m #[Value.ref b] below meth c H locs (cells + 1) (slots + 6) Q (F0 m (pc + 3) ls (.int (nI th) :: rest))) : W p l e room_1 s m #[Value.ref b] below meth c H locs cells slots Q (F0 m pc ls st0) := by
  have F9 := F
  obtain ⟨⟨hx, hb, hml, hown, ht, -⟩, -, ⟨hα, hμ, hA1, hA2, hA3, ho, ho2, hd⟩, hK, hKm, hN, hG, hC⟩ := F
  have hts := lw_hts ht
  have hlA : ∀ q, lh_A α oa q → lw_A s q := fun q h => by
    rcases h with h | rfl
    · exact hA1 q h
    · exact hA3
  have hK0 : va_K D xC (sp_t κ) s := hK.sub (List.range 10) rfl
  have hws : ∀ w ∈ (Cond.codeWith y bytes maxL ret0 hh :: xa), ∀ (a' : Array Value) (U : State), s.WarmedH U.vm → w.before a' U = true := fun w hw a' U hW => by
    have hw' : w ∈ xa := by
      rcases List.mem_cons.mp hw with rfl | h
      · exact hcx
      · exact h
    exact word_at hW (xa_ok hw') (ht w hw')
  refine va_calli (xh_runS (As := As) (rest := rest) (bytes := bytes) (maxL := maxL) (ret := ret0) (hh := hh) ⟨hx, hb, hml, hown, hts⟩ hc lh_blind rfl rfl hfr hlo hws List.mem_cons_self (ht _ hlk) (ht _ hstc) (ht _ hini) hy hlen (fun U hU hW => ⟨rfl, by rw [hU]; exact hP, va_K.moved hW.alike hK, hN.warm hW, by rw [hU]; exact (hG.go hW (fun a ha hna => hS.2.1 a ha hna)).narrow hA1, fun q hq => va_Nc.moved hW.alike (hC q hq)⟩) rfl hn hsz hst (lv_room hW) hdg ⟨hcl, hsl⟩) hS (fun q _ h => hlA q h) hlA (fun r u t H1 locs1 ht_ hvm hu hB hz hk hS => ?_)
  obtain ⟨rfl, h1, h2⟩ := hu
  obtain ⟨g', e0, hP1⟩ := hB
  refine kk H1 locs1 u.1 g' (fun z => ?_) (fun z => ?_) (by rw [← ht_]; exact hP1) (hM.kept (fun k q hq => hk q.1 ((hM k q hq).lt) (fun z => ?_))) hS
  · rw [h1 z] at e0 ⊢; exact ⟨rfl, e0⟩
  · rw [h2 z]
  · have h9 := (sm_D hμ ν τ).2 k q hq
    rcases z with z | z
    · exact hd _ z h9
    · exact ho2 (z ▸ h9)
theorem lw_back (F : lw_F p l s m c b L xs D α κ μ ν oa ko) (hl : lv_has ls 7 (lw_ls b α μ oa i)) (kk : ∀ ls : Array Slot, lv_has ls 7 (lw_ls b α μ oa (i + 7)) → W p l e room_1 s m #[Value.ref b] below meth c H locs cells slots Q (F0 m 23 ls [])) : W p l e room_1 s m #[Value.ref b] below meth c H locs cells slots Q (F0 m 1196 ls []) := by
  obtain ⟨⟨hx, hb, -⟩, -⟩ := F
  refine lv_iinc (v := nI (i + 7)) (k := 4) (lv' := [(4, .int (nI (i + 7))), (0, .ref b), (1, .ref (α 0)), (2, .ref (μ 0)), (3, .ref oa)]) hx hb d_lw_1196 hl rfl (nI_add i 7) (by decide) rfl (fun ls hl => ?_)
  refine lv_goto (tgt := 23) hx hb d_lw_1199 (by decide) ?_
  exact kk ls (lv_sub hl [1, 2, 3, 4, 0] rfl)
end LW
