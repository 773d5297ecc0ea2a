def sp_nest : List (String × Nat × MethodName × String) := [("SecurePair", 9, ⟨"SecurePair$Line", "<init>", "()V"⟩, "SecurePair"), ("SecurePair$Endpoint", 11, ⟨"SecurePair$Packet", "<init>", "()V"⟩, "SecurePair"), ("SecurePair$Endpoint", 23, ⟨"SecurePair$Keys", "<init>", "()V"⟩, "SecurePair"), ("SecurePair$Endpoint", 33, ⟨"SecurePair$Exchange", "<init>", "()V"⟩, "SecurePair"), ("SecurePair$Exchange", 11, ⟨"SecurePair$Init", "<init>", "()V"⟩, "SecurePair"), ("SecurePair$Keys", 13, ⟨"SecurePair", "mix", "(JJ)J"⟩, "SecurePair"), ("SecurePair$Exchange", 25, ⟨"SecurePair", "firstShared", "(JJ)I"⟩, "SecurePair"), ("SecurePair$Exchange", 44, ⟨"SecurePair", "power", "(JJ)J"⟩, "SecurePair"), ("SecurePair$Server", 24, ⟨"SecurePair", "isShare", "(J)Z"⟩, "SecurePair"), ("SecurePair$Server", 30, ⟨"SecurePair", "power", "(JJ)J"⟩, "SecurePair"), ("SecurePair$Init", 19, ⟨"SecurePair", "mix", "(JJ)J"⟩, "SecurePair"), ("SecurePair$Exchange", 55, ⟨"SecurePair", "mix", "(JJ)J"⟩, "SecurePair"), ("SecurePair$Server", 53, ⟨"SecurePair", "challenge", "(JJ)J"⟩, "SecurePair"), ("SecurePair$Client", 35, ⟨"SecurePair", "isShare", "(J)Z"⟩, "SecurePair"), ("SecurePair$Client", 58, ⟨"SecurePair", "verifies", "(JJJJ)Z"⟩, "SecurePair")]
def sp_decl : List MethodName := [⟨"SecurePair$Endpoint", "answerInit", "()V"⟩, ⟨"SecurePair$Endpoint", "send", "(IJJJJ)V"⟩, ⟨"SecurePair$Endpoint", "takeShare", "(LSecurePair$Packet;)I"⟩, ⟨"SecurePair$Endpoint", "turn", "()V"⟩, ⟨"SecurePair$Endpoint", "takeReply", "(LSecurePair$Packet;)I"⟩]
/-- the words across the nest, and of the methods that are abstract -/
def sp_N (U : State) : Prop := (∀ q ∈ sp_nest, va_Nw (.methodLinkNest q.1 q.2.1 q.2.2.1 q.2.2.2) U) ∧ ∀ x ∈ sp_decl, va_Nw (.declares x) U
theorem sp_N.warm {s U : State} (hW : s.WarmedH U.vm) (h : sp_N s) : sp_N U := ⟨fun q hq => va_Nw.warmM hW (h.1 q hq), fun x hx => va_Nw.warmD hW (h.2 x hx)⟩
theorem sp_N.same {u U : State} (hv : u.vm = U.vm) (h : sp_N u) : sp_N U := ⟨fun q hq => va_Nw.same rfl hv (h.1 q hq), fun x hx => va_Nw.same rfl hv (h.2 x hx)⟩
theorem sp_N.at {U : State} (h : sp_N U) (k : Nat) {a : String} {i : Nat} {x : MethodName} {b : String} (hk : sp_nest[k]? = some (a, i, x, b)) : va_Nw (.methodLinkNest a i x b) U := h.1 (a, i, x, b) (List.mem_of_getElem? hk)
theorem sp_N.dat {U : State} (h : sp_N U) (k : Nat) {x : MethodName} (hk : sp_decl[k]? = some x) : va_Nw (.declares x) U := h.2 x (List.mem_of_getElem? hk)
def sp_Pre (D : va_G) (α : Nat → Nat) (κ : Nat → ClassId) (σ : xb_St) (U : State) : Prop := va_P D xC (sp_w α κ σ) U.heap ∧ va_K D xC (sp_t κ) U ∧ sp_N U
def sp_B (D : va_G) (α : Nat → Nat) (κ : Nat → ClassId) (u : xb_St) (t : State) : Prop := va_P D xC (sp_w α κ u) t.heap
theorem sp_blind {D : va_G} {α : Nat → Nat} {κ : Nat → ClassId} {σ : xb_St} {av : List Value} : FrameBlind (va_Pc av (sp_Pre D α κ σ)) := fun a U g mk h => ⟨h.1, h.2.1, va_K.moved (u := U) (U := U.calling g mk a) (Vm.Alike.refl U.vm) h.2.2.1, h.2.2.2.same rfl⟩
theorem sp_pre {D : va_G} {α : Nat → Nat} {κ : Nat → ClassId} {σ : xb_St} {s : State} {H : Heap} (hP : va_P D xC (sp_w α κ σ) H) (hK : va_K D xC (sp_t κ) s) (hN : sp_N s) (av : List Value) : ∀ U : State, U.heap = H → s.WarmedH U.vm → va_Pc av (sp_Pre D α κ σ) av.toArray U := fun U hU hW => ⟨rfl, by rw [hU]; exact hP, va_K.moved hW.alike hK, hN.warm hW⟩
def xb_om {β : Type} (o : Option Nat) (n : β) (f : Nat → β) : β := match o with | none => n | some K => f K
theorem xb_om_none {β : Type} {o : Option Nat} {n : β} {f : Nat → β} (h : o = none) : xb_om o n f = n := by subst h; rfl
theorem xb_om_some {β : Type} {o : Option Nat} {n : β} {f : Nat → β} {K : Nat} (h : o = some K) : xb_om o n f = f K := by subst h; rfl
section SPC
variable {p : Program} {l : Launch} {e : Env} {R : Room} {s : State} {m : MethodId} {args : Array Value} {below : List Frame} {meth : Method} {c : Code} {H : Heap} {locs : List Loc} {cells slots : Nat} {Q : State → Prop}
variable {cc : ByteArray} {pc : Nat} {ls : Array Slot} {rest : List Value} {D : va_G} {α : Nat → Nat} {κ : Nat → ClassId} {σ : xb_St} {A : Nat → Prop} {H0 : Heap} {own ref : String} {index : Nat} {K : Nat}
variable {a : Array Value} {st0 : List Value} {fu : xb_St}
theorem sp_cv (hr : va_Run p l e R s m args below meth c H locs cells slots 0 0 (F0 m pc ls st0) rest (va_Qv (fun u : xb_St => u = fu) (sp_B D α κ) (xb_A α 35) a) (xb_A α 35)) (hS : va_S A H0 H locs) (hA : ∀ q, xb_A α 35 q → A q)
    (kk : ∀ (H1 : Heap) (locs1 : List Loc), va_P D xC (sp_w α κ fu) H1 → va_S A H0 H1 locs1 → W p l e R s m args below meth c H1 locs1 cells slots Q (F0 m (pc + 3) ls (rest))) : W p l e R s m args below meth c H locs cells slots Q (F0 m pc ls st0) :=
  va_callv hr hS (fun q _ h => hA q h) hA (fun u t H1 locs1 ht hvm hu hB _ _ hS1 => by
    subst hu
    exact kk H1 locs1 (by rw [← ht]; exact hB) hS1)
theorem sp_ci {fr : Int32} (hr : va_Run p l e R s m args below meth c H locs cells slots 0 0 (F0 m pc ls st0) rest (va_Qi (fun r (u : xb_St) => r = fr ∧ u = fu) (sp_B D α κ) (xb_A α 35) a) (xb_A α 35)) (hS : va_S A H0 H locs) (hA : ∀ q, xb_A α 35 q → A q)
    (kk : ∀ (H1 : Heap) (locs1 : List Loc), va_P D xC (sp_w α κ fu) H1 → va_S A H0 H1 locs1 → W p l e R s m args below meth c H1 locs1 cells slots Q (F0 m (pc + 3) ls (.int fr :: rest))) : W p l e R s m args below meth c H locs cells slots Q (F0 m pc ls st0) :=
  va_calli hr hS (fun q _ h => hA q h) hA (fun r u t H1 locs1 ht hvm hu hB _ _ hS1 => by
    obtain ⟨rfl, rfl⟩ := hu
    exact kk H1 locs1 (by rw [← ht]; exact hB) hS1)
theorem sp_cl {fr : Int64} (hr : va_Run p l e R s m args below meth c H locs cells slots 0 0 (F0 m pc ls st0) rest (va_Ql (fun r (u : xb_St) => r = fr ∧ u = fu) (sp_B D α κ) (xb_A α 35) a) (xb_A α 35)) (hS : va_S A H0 H locs) (hA : ∀ q, xb_A α 35 q → A q)
    (kk : ∀ (H1 : Heap) (locs1 : List Loc), va_P D xC (sp_w α κ fu) H1 → va_S A H0 H1 locs1 → W p l e R s m args below meth c H1 locs1 cells slots Q (F0 m (pc + 3) ls (.long fr :: rest))) : W p l e R s m args below meth c H locs cells slots Q (F0 m pc ls st0) :=
  va_calll hr hS (fun q _ h => hA q h) hA (fun r u t H1 locs1 ht hvm hu hB _ _ hS1 => by
    obtain ⟨rfl, rfl⟩ := hu
    exact kk H1 locs1 (by rw [← ht]; exact hB) hS1)
theorem sp_cq {fr : Option Nat} (hr : va_Run p l e R s m args below meth c H locs cells slots 0 0 (F0 m pc ls st0) rest (va_Qq (fun r (u : xb_St) => r = fr ∧ u = fu) (sp_B D α κ) (xb_A α 35) a) (xb_A α 35)) (hS : va_S A H0 H locs) (hA : ∀ q, xb_A α 35 q → A q)
    (kk : ∀ (H1 : Heap) (locs1 : List Loc), va_P D xC (sp_w α κ fu) H1 → va_S A H0 H1 locs1 → W p l e R s m args below meth c H1 locs1 cells slots Q (F0 m (pc + 3) ls (va_rf fr :: rest))) : W p l e R s m args below meth c H locs cells slots Q (F0 m pc ls st0) :=
  va_callq hr hS (fun q _ h => hA q h) hA (fun r u t H1 locs1 ht hvm hu hB _ _ hS1 => by
    obtain ⟨rfl, rfl⟩ := hu
    exact kk H1 locs1 (by rw [← ht]; exact hB) hS1)
theorem sp_runE {a0 : Cond} {y : MethodName} {bytes : ByteArray} {maxL nL n : Nat} {ret : Option FieldType} {rm : Room} {Qc : Array Value → State → Outcome → State → Prop} {free : Addr → Prop} {As : List Value} {g : JFrame} (S : CallFix p m c cc nL s args (a0 :: xa) own) (hM : Met l y (.code y bytes maxL ret :: xa) rm (va_Pc (.ref (α K) :: As) (sp_Pre D α κ σ)) Qc 0 0 free) (hB : sp_isEndpoint K) (w1 : Cond.methodLink own index y ∈ xa) (w2 : Cond.sameMethod y.cls "SecurePair$Endpoint" y.name y.desc ∈ xa) (w3 : Cond.selects "SecurePair$Client" y y ∈ xa) (w4 : Cond.selects "SecurePair$Server" y y ∈ xa) (w5 : Cond.instanceMethod y ∈ xa) (w6 : Cond.initialized y.cls ∈ xa) (w7 : Cond.code y bytes maxL ret ∈ xa) (hrc : rm.cells = 0) (hrs : rm.slots = 0) (hyx : y = ⟨"SecurePair$Endpoint", y.name, y.desc⟩) (hd : (parseMethodDescriptor y.desc).map (fun d => d.parameters.length) = some n) (hR : rm.frames + 1 ≤ R.frames ∧ 8 + (maxL + 11) + rm.locals ≤ R.locals) (hP : va_P D xC (sp_w α κ σ) H) (hK : va_K D xC (sp_t κ) s) (hN : sp_N s)
    (hg : g.method = m) (hn : As.length = n) (hsize : g.locals.size = nL) (hstack : g.stack = As.reverse ++ .ref (α K) :: rest) (hW : 2 * g.monitorRoom + (rest.map fun v => v.category).sum ≤ 8) (hdg : decode cc g.pc = .ok (.invokevirtual index, 3)) (hf : cells + 0 ≤ R.cells ∧ slots + 0 ≤ R.slots) : va_Run p l e R s m args below meth c H locs cells slots 0 0 g rest (Qc (Value.ref (α K) :: As).toArray) free := by
  have hts := S.2.2.2.2
  rcases hB with rfl | rfl
  · exact va_runU S hM (va_cwU (C := "SecurePair$Client") (owner := "SecurePair$Endpoint") n hts (xa_U w1 w2 w3 w5 w6 w7) rfl hrc hrs hyx ⟨by decide, by decide, hd⟩ hR) ⟨sp_blind, va_recv hK hP rfl (sp_at_Client rfl), sp_pre hP hK hN _⟩ hg hn hsize hstack hW hdg hf
  · exact va_runU S hM (va_cwU (C := "SecurePair$Server") (owner := "SecurePair$Endpoint") n hts (xa_U w1 w2 w4 w5 w6 w7) rfl hrc hrs hyx ⟨by decide, by decide, hd⟩ hR) ⟨sp_blind, va_recv hK hP rfl (sp_at_Server rfl), sp_pre hP hK hN _⟩ hg hn hsize hstack hW hdg hf
end SPC
