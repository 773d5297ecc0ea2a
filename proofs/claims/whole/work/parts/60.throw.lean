/-! Calls that end in an exception. -/
def xt_E (E : String) (mc ms : Nat) (st : State) (o : Outcome) (t : State) : Prop := ∃ (q : Addr) (ce : Cell), o = .threw q ∧ t.heap[q]? = some ce ∧ ce.vm = .none ∧ st.vm.findClass E = some ce.cls ∧ st.WarmedH t.vm ∧ st.sameButNew ({ t with vm := st.vm } : State) [] mc ms
def xt_Met (l : Launch) (y : MethodName) (ws : List Cond) (rm : Room) (Pc : Array Value → State → Prop) (E : String) (mc ms : Nat) : Prop := MetFree l y (headSpec ws rm) Pc (fun _ _ _ _ _ => True) (fun _ st o t => xt_E E mc ms st o t)
def xt_MQ (below : List Frame) (E : String) (s : State) (mc ms : Nat) : State → Prop := fun t => ∃ o, t.status = .running ∧ Ended t below o ∧ xt_E E mc ms s o t
theorem xt_old {s t : State} {k n : Nat} (h : s.sameButNew t [] k n) : s.heap.size ≤ t.heap.size ∧ ∀ q : Nat, q < s.heap.size → t.heap[q]? = s.heap[q]? := by
  have hk := kept_of_same (keep := fun _ => True) h (fun _ hq => nomatch hq)
  refine ⟨?_, fun q hq => ?_⟩
  · by_cases h0 : s.heap.size = 0
    · omega
    · have h1 := hk (s.heap.size - 1) (s.heap[s.heap.size - 1]'(by omega)) trivial (Array.getElem?_eq_getElem (by omega))
      have := (Array.getElem?_eq_some_iff.mp h1).1
      omega
  · rw [Array.getElem?_eq_getElem hq]
    exact hk q _ trivial (Array.getElem?_eq_getElem hq)
theorem xt_ofW {l : Launch} {y : MethodName} {ws ws' : List Cond} {rm : Room} {Pc : Array Value → State → Prop} {E : String} {mc ms : Nat} {cc : ByteArray} {maxL : Nat} {ret : Option FieldType} (hy : plainName y.cls = true) (hw : ws = Cond.code y cc maxL ret :: ws')
    (body : ∀ p e s m args below meth c s₁, BodyLoose p l y (headSpec ws rm) cc maxL ret e s m args below meth c s₁ → c.maxLocals = maxL → c.exceptionTable.isEmpty = true → Pc args s → W p l e (headSpec ws rm).room s m args below meth c s.heap [] 0 0 (xt_MQ below E s mc ms) (entryFrame m args maxL)) : xt_Met l y ws rm Pc E mc ms := by
  refine MetFree.of_bodyS (code := cc) (maxLocals := maxL) (ret := ret) hy ?_ ?_
  · intro args s m h hn
    obtain ⟨meth, c, h1, h2, h3, h4, h5, h6, -, -⟩ := Cond.code_spec hn (atoms_spec (ws := ws) h _ (by rw [hw]; exact List.mem_cons_self))
    exact ⟨meth, c, h1, h2, h3, h4, h5, h6⟩
  · intro p e s m args below meth c s₁ B hml hP _
    have hh0 : s₁.heap = s.heap := by rw [B.state]; rfl
    have ht : c.exceptionTable.isEmpty = true := B.noHandlers (atoms_spec (ws := ws) B.pre _ (by rw [hw]; exact List.mem_cons_self))
    obtain ⟨t, a1, o, b1, b2, b3⟩ := body p e s m args below meth c s₁ B hml ht hP s₁ hh0 (Stand.of_body B)
    exact ⟨t, o, a1, b1, b2, b3⟩
section XT
variable {p : Program} {l : Launch} {e : Env} {R : Room} {s : State} {m : MethodId} {args : Array Value} {below : List Frame} {meth : Method} {c : Code} {H : Heap} {cells slots : Nat} {Q : State → Prop} {cc : ByteArray} {pc : Nat} {ls : Array Slot} {rest : List Value}
theorem xt_none (h : c.exceptionTable.isEmpty = true) {k : Nat} : ∀ x ∈ c.exceptionTable.toList, covers x k = false := by
  intro x hx
  rw [Array.isEmpty_iff.mp h] at hx
  cases hx
/-- throw new E("text"), nothing written before it -/
theorem xt_throw (hx : p.tables.exec = Jvm.exec) (hb : c.code = cc) (hl : l.stackTraces = false) {own cls text : String} {names : List String} {ik is ic sa mc ms : Nat} (hown : s.vm.findClass own = some m.cls) (hcls : Bundle.fit cls = true) (hnames : ∀ n ∈ names, Bundle.fit n = true)
    (hk : (Cond.classLink own ik cls).before args s = true) (hini : (Cond.initialized cls).before args s = true) (hs1 : (Cond.stringRef own is text).before args s = true) (hs2 : (Term.string own is).eval args s none [] s = some (.ref sa)) (h : ∀ a ∈ Bundle.ownAtoms own ic cls names, a.before args s = true) (hsize : ls.size = c.maxLocals) (hout : c.exceptionTable.isEmpty = true)
    (d0 : decode cc pc = .ok (.new ik, 3)) (d3 : decode cc (pc + 3) = .ok (.dup, 1)) (d4 : decode cc (pc + 4) = .ok (.ldc is, 2)) (d6 : decode cc (pc + 6) = .ok (.invokespecial ic, 3)) (d9 : decode cc (pc + 9) = .ok (.athrow, 1))
    (hRf : names.length + 3 < R.frames) (hRl : (rest.map fun v => v.category).sum + (13 * (names.length + 1) + 43) ≤ R.locals) (hRc : cells + 1 ≤ R.cells) (hRs : slots + 6 ≤ R.slots) (hlocks : meth.locks = false) (hc : cells + 1 ≤ mc) (hs : slots + 6 ≤ ms) (hH : s.heap.size ≤ H.size) :
    W p l e R s m args below meth c H [] cells slots (xt_MQ below cls s mc ms) (F0 m pc ls rest) := by
  intro T hT X
  have htr : e.platform.stackTraces = false := (show e.platform.stackTraces = l.stackTraces by rw [X.admits.platform]).trans hl
  have hins : (Cond.instantiable cls 6).before args s = true := h _ (by simp [Bundle.ownAtoms])
  obtain ⟨vm₁, cX, kX, hfX, hkX, -, -, X₁, st1⟩ := X.newCold hx (own := own) (C := cls) (index := ik) (n := 6) hown hk hins hini (g := F0 m pc ls rest) rfl (by rw [hb]; exact d0) hRc hRs
  generalize hT1 : (T.setVm vm₁).pushCell { cls := cX, slots := kX.instanceTypes.map defaultValue, vm := .none } = T1 at X₁ st1
  have hcat : (Value.ref T.heap.size).category = 1 := rfl
  have hcellA : T1.heap[T.heap.size]? = some (freshCell cX kX) := by rw [← hT1]; exact State.heap_pushCell_size _ _
  have d3' : decode c.code (pc + 3) = .ok (.dup, 1) := by rw [hb]; exact d3
  have d4' : decode c.code (pc + 4) = .ok (.ldc is, 2) := by rw [hb]; exact d4
  obtain ⟨U, hsteps, hrun, hend, hW, hsame, ce, hce, hO⟩ := X₁.ctorThrowS hx htr (own := own) (cls := cls) (names := names) (ic := ic) hown hcls hnames h (fun x hx => nomatch hx) hfX hkX hcellA (by rw [hT]; exact hH) (msg := .ref sa) rfl
    (g := { method := m, pc := pc + 6, locals := ls, stack := .ref sa :: .ref T.heap.size :: .ref T.heap.size :: rest, locked := none }) rfl hsize rfl rfl (rest := rest) rfl (by rw [hb]; exact d6) (by rw [hb]; exact d9) (xt_none hout) hRf (by simp only [List.map_cons, List.sum_cons, hcat]; omega) hlocks
  refine ⟨U, ?_, .threw T.heap.size, hrun, hend, T.heap.size, ce, rfl, hce, hO.vm, hO.cls, hW, hsame.mono hc hs⟩
  refine st1 _ ?_
  show Steps p.tables e below (T1.setTop { method := m, pc := pc + 3, locals := ls, stack := .ref T.heap.size :: rest, locked := none }) _
  jvm_step X₁.here [X₁.here.top, hx, d3', Value.category]
  exact X₁.ldcString hx (own := own) (text := text) (index := is) (a := sa) hown hs1 hs2 (g := { method := m, pc := pc + 4, locals := ls, stack := .ref T.heap.size :: .ref T.heap.size :: rest, locked := none }) rfl d4' _ hsteps
/-- the callee throws: the caller's frame with the note over it -/
def xt_Run (p : Program) (l : Launch) (e : Env) (R : Room) (s : State) (m : MethodId) (args : Array Value) (below : List Frame) (meth : Method) (c : Code) (H : Heap) (locs : List Loc) (cells slots mc ms : Nat) (g : JFrame) (rest : List Value) (E : String) : Prop :=
  ∀ T : State, T.heap = H → Stand p l e R s m args below meth c T locs cells slots → ∃ (q : Addr) (ce : Cell) (T' : State), Stand p l e R s m args below meth c T' locs (cells + mc) (slots + ms) ∧ H.size ≤ T'.heap.size ∧ (∀ k : Nat, k < H.size → T'.heap[k]? = H[k]?) ∧ T'.heap[q]? = some ce ∧ ce.vm = .none ∧ s.vm.findClass E = some ce.cls ∧ Steps p.tables e below (T.setTop g) ((T'.setTop { g with stack := rest }).pushFrame (.throwing q))
theorem xt_back {y : MethodName} {ws : List Cond} {rm : Room} {Pc : Array Value → State → Prop} {E : String} {mc ms len W9 maxL : Nat} {bytes : ByteArray} {ret : Option FieldType} (hM : xt_Met l y ws rm Pc E mc ms) (hblind : FrameBlind Pc) (hrc : rm.cells = mc) (hrs : rm.slots = ms) (hframes : rm.frames + 1 ≤ R.frames) (hlocals : W9 + (maxL + 11) + rm.locals ≤ R.locals)
    (hws : ∀ w ∈ ws, ∀ a' U, s.WarmedH U.vm → w.before a' U = true) (hcode : Cond.code y bytes maxL ret ∈ ws) (hinit : ∀ a' U, s.WarmedH U.vm → (Cond.initialized y.cls).before a' U = true)
    {U : State} {locs : List Loc} {g : JFrame} {ig : Instr} {mk : MethodId} {a : Array Value} (X : Stand p l e R s m args below meth c U locs cells slots) (hg : g.method = m) (hsize : g.locals.size = c.maxLocals) (hdg : decode c.code g.pc = .ok (ig, len)) (hW9 : 2 * g.monitorRoom + (g.stack.map fun v => v.category).sum ≤ W9) (hn : U.methodNamed? y = some mk) (hcl : cells + mc ≤ R.cells) (hsl : slots + ms ≤ R.slots) (hPc : Pc a U) :
    ∃ (q : Addr) (ce : Cell) (T' : State), Stand p l e R s m args below meth c T' locs (cells + mc) (slots + ms) ∧ U.heap.size ≤ T'.heap.size ∧ (∀ k : Nat, k < U.heap.size → T'.heap[k]? = U.heap[k]?) ∧ T'.heap[q]? = some ce ∧ ce.vm = .none ∧ s.vm.findClass E = some ce.cls ∧ Steps p.tables e below (doInvoke e (U.setTop g) [] mk a).1 ((T'.setTop g).pushFrame (.throwing q)) := by
  have h1 : (headSpec ws rm).pre.before a U = true := atoms_intro fun w hw => hws w hw _ _ X.warmed
  have h2 : (Cond.code y bytes maxL ret).before a U = true := hws _ hcode _ _ X.warmed
  have h3 : (Cond.initialized y.cls).before a U = true := hinit _ _ X.warmed
  have h4 : cells + (headSpec ws rm).room.cells ≤ R.cells := by rw [show (headSpec ws rm).room.cells = mc from hrc]; exact hcl
  have h5 : slots + (headSpec ws rm).room.slots ≤ R.slots := by rw [show (headSpec ws rm).room.slots = ms from hrs]; exact hsl
  have hPc' : Pc a (U.calling g mk a) := hblind _ _ _ _ hPc
  obtain ⟨methY, cY, hmY, hcY, -, hlY, -, -, -, -⟩ := Cond.code_spec hn h2
  obtain ⟨kY, hkY, -⟩ := className_of_methodNamed hn
  have hinitY : kY.init = .initialized := Cond.initialized_spec (findClass_of_methodNamed hn) hkY h3
  have h : At U g.method c below := by rw [hg]; exact X.here
  have hlocals' : W9 + (maxL + 11) + (headSpec ws rm).room.locals ≤ R.locals := hlocals
  have happ : (headSpec ws rm).appliesLoose y e.platform (U.calling g mk a) = true := Spec.appliesLoose_calling (g := g) h hdg hn hkY hinitY (X.room_calling (g := g) (R' := (headSpec ws rm).room) hsize hmY hcY hframes (by rw [hlY]; omega) h4 h5) h1
  obtain ⟨mid, hmid⟩ := h.above
  have hfr : (U.setTop g).frames = (.java g :: mid) ++ below := by rw [State.frames_setTop' g h.top, hmid]; rfl
  obtain ⟨o, s₂, hsteps, -, hend, hq⟩ := Steps.callFree hM p X.admits X.cas X.clock (acts := []) hfr happ hPc' trivial
  have hq' : xt_E E mc ms (U.calling g mk a) o s₂ := hq
  obtain ⟨q, ce, rfl, hce, hcv, hcls, hW, hsame⟩ := hq'
  obtain ⟨g₀, hr⟩ := X.frames_eq
  rw [State.frames_setTop' g h.top, hr] at hend
  obtain ⟨T', X', hW', hsm, ht⟩ := X.outOfThrown hg (mk := mk) (a := a) (t := s₂) (x := q) hend hW hsame
  rw [List.append_nil] at X'
  have hheap : T'.heap = s₂.heap := by rw [ht]; exact (throwing_heap T' g q).symm
  obtain ⟨z1, z2⟩ := xt_old hsm
  refine ⟨q, ce, T', X', z1, z2, by rw [hheap]; exact hce, hcv, ?_, by rw [← ht]; exact hsteps⟩
  have e1 : U.vm.findClass E = some ce.cls := hcls
  rw [← X.warmed.alike.findClass]
  exact e1
variable {y : MethodName} {bytes : ByteArray} {maxL nL mc ms n index : Nat} {ret : Option FieldType} {ws : List Cond} {rm : Room} {Pc : Array Value → State → Prop} {Ts : List Cond} {own C E : String} {b : Addr} {As : List Value} {g : JFrame} {locs : List Loc}
theorem xt_runV (S : CallFix p m c cc nL s args Ts own) (hM : xt_Met l y ws rm Pc E mc ms) (cw : CallW R s args own C index y bytes maxL ret ws rm mc ms n) (hp : PreV s H C b Pc As) (hg : g.method = m) (hn : As.length = n) (hsize : g.locals.size = nL) (hstack : g.stack = As.reverse ++ .ref b :: rest) (hW : 2 * g.monitorRoom + (rest.map fun v => v.category).sum ≤ 8) (hdg : decode cc g.pc = .ok (.invokevirtual index, 3)) (hf : cells + mc ≤ R.cells ∧ slots + ms ≤ R.slots) : xt_Run p l e R s m args below meth c H locs cells slots mc ms g rest E := by
  obtain ⟨⟨hrc, hrs, hfr, hlo, hws, hcw, hcode, hini, hy, hlen, hl⟩, hinst, hsel⟩ := cw
  obtain ⟨hx, hb, hml, hown, -⟩ := S
  obtain ⟨hblind, ⟨cellB, hcB, hoB, hclB⟩, hPc⟩ := hp
  intro T hT X
  obtain ⟨mk, methM, hnamed, hmethM, hstM, habM⟩ := Cond.instanceMethod_spec hinst
  obtain ⟨methM', cM, hmethM', -, -, -, -, -, -, hsigM⟩ := Cond.code_spec hnamed hcode
  cases hmethM.symm.trans hmethM'
  obtain ⟨c2, r2, m2, q1, q2, q3, q4, kP, hkP, hkPi⟩ := Cond.selects_spec hsel
  cases hclB.symm.trans q1
  cases (State.methodFound?_of_named hnamed hy).symm.trans q2
  cases hnamed.symm.trans q3
  have hselP : selectMethod e.platform s.vm cellB.cls mk = .method mk := by rw [Launch.admits_selectMethod X.admits]; exact q4
  obtain ⟨vm₁, X₁, hstep₁⟩ := X.invokevirtual hx hown hl hnamed hmethM hstM hkP hkPi hy (a := b) (cell := cellB) (by rw [hT]; exact hcB) (fun z h => by rw [h] at hoB; cases hoB) hselP hmethM habM hkP hkPi (g := g) hg (argsL := As) (rest := rest) (hn.trans (hlen _ hsigM)) hstack (by rw [hb]; exact hdg)
  obtain ⟨q, ce, T', X', z1, z2, h1, h2, h3, st⟩ := xt_back (bytes := bytes) (maxL := maxL) (ret := ret) (len := 3) hM hblind hrc hrs hfr hlo hws hcw (fun a' U hW => word_at hW (Or.inl (by first | rfl | simp [Cond.onTables, Cond.keeps, Cond.steady])) hini) (g := { g with stack := rest }) (a := (Value.ref b :: As).toArray) X₁ hg (hsize.trans hml.symm) (by rw [hb]; exact hdg) hW (X₁.named hnamed) hf.1 hf.2 (hPc (T.setVm vm₁) hT X₁.warmed)
  have hh : (T.setVm vm₁).heap = H := hT
  rw [hh] at z1 z2
  exact ⟨q, ce, T', X', z1, z2, h1, h2, h3, hstep₁ _ fun acts => by rw [doInvoke_state]; exact st⟩
theorem xt_runS (S : CallFix p m c cc nL s args Ts own) (hM : xt_Met l y ws rm Pc E mc ms) (cw : CallB R s args own index y bytes maxL ret ws rm mc ms n ∧ (Cond.static y).before args s = true) (hp : PreS s H Pc As) (hg : g.method = m) (hn : As.length = n) (hsize : g.locals.size = nL) (hstack : g.stack = As.reverse ++ rest) (hW : 2 * g.monitorRoom + (rest.map fun v => v.category).sum ≤ 8) (hdg : decode cc g.pc = .ok (.invokestatic index, 3)) (hf : cells + mc ≤ R.cells ∧ slots + ms ≤ R.slots) : xt_Run p l e R s m args below meth c H locs cells slots mc ms g rest E := by
  obtain ⟨⟨hrc, hrs, hfr, hlo, hws, hcw, hcode, hini, hy, hlen, hl⟩, hstt⟩ := cw
  obtain ⟨hx, hb, hml, hown, -⟩ := S
  obtain ⟨hblind, hPc⟩ := hp
  intro T hT X
  obtain ⟨mk, hnamed⟩ := Cond.code_named hcode
  obtain ⟨methM, cM, hmethM, -, -, -, -, -, -, hsigM⟩ := Cond.code_spec hnamed hcode
  have hstatic : methM.isStatic = true := Cond.static_spec hnamed hmethM hstt
  obtain ⟨kP, hkP, -⟩ := className_of_methodNamed hnamed
  have hinitP : kP.init = .initialized := Cond.initialized_spec (findClass_of_methodNamed hnamed) hkP hini
  obtain ⟨vm₁, X₁, hstep₁⟩ := X.invokestatic hx hown hl hnamed hmethM hstatic hkP hinitP hy (g := g) hg (argsL := As) (rest := rest) (hn.trans (hlen _ hsigM)) hstack (by rw [hb]; exact hdg)
  obtain ⟨q, ce, T', X', z1, z2, h1, h2, h3, st⟩ := xt_back (bytes := bytes) (maxL := maxL) (ret := ret) (len := 3) hM hblind hrc hrs hfr hlo hws hcw (fun a' U hW => word_at hW (Or.inl (by first | rfl | simp [Cond.onTables, Cond.keeps, Cond.steady])) hini) (g := { g with stack := rest }) (a := As.toArray) X₁ hg (hsize.trans hml.symm) (by rw [hb]; exact hdg) hW (X₁.named hnamed) hf.1 hf.2 (hPc (T.setVm vm₁) hT X₁.warmed)
  have hh : (T.setVm vm₁).heap = H := hT
  rw [hh] at z1 z2
  exact ⟨q, ce, T', X', z1, z2, h1, h2, h3, hstep₁ _ fun acts => by rw [doInvoke_state]; exact st⟩
/-- no handler here: the caller ends with it too -/
theorem xt_leave {st0 : List Value} {mc' ms' : Nat} (hr : xt_Run p l e R s m args below meth c H [] cells slots mc ms (F0 m pc ls st0) rest E) (hout : c.exceptionTable.isEmpty = true) (hlocks : meth.locks = false) (hc : cells + mc ≤ mc') (hs : slots + ms ≤ ms') : W p l e R s m args below meth c H [] cells slots (xt_MQ below E s mc' ms') (F0 m pc ls st0) := by
  intro T hT X
  obtain ⟨q, ce, T', X', -, -, h1, h2, h3, st⟩ := hr T hT X
  obtain ⟨st1, hrun, hend, hW, hsm⟩ := X'.leaveThrown q (g := F0 m pc ls rest) rfl rfl rfl (xt_none hout) hlocks
  exact ⟨_, st.trans st1, .threw q, hrun, hend, q, ce, rfl, h1, h2, h3, hW, hsm.mono hc hs⟩
/-- caught here by the entry x of the table, behind entries that it passes -/
theorem xt_catch {st0 : List Value} {name : String} (hr : xt_Run p l e R s m args below meth c H locs cells slots mc ms (F0 m pc ls st0) rest E) (hown : s.vm.findClass own = some m.cls) (pre : List ExceptionTableEntry) (x : ExceptionTableEntry) (suf : List ExceptionTableEntry) (hsplit : c.exceptionTable.toList = pre ++ x :: suf)
    (hpass : ∀ z ∈ pre, covers z pc = false ∨ (z.catchType ≠ 0 ∧ ∃ nm : String, (Cond.classLink own z.catchType nm).before args s = true ∧ va_Nc E nm s)) (hx : covers x pc = true) (h0 : x.catchType ≠ 0) (hlink : (Cond.classLink own x.catchType name).before args s = true) (hcast : (Cond.castable E name).before args s = true)
    (kk : ∀ (q : Addr) (H1 : Heap), H.size ≤ H1.size → (∀ k : Nat, k < H.size → H1[k]? = H[k]?) → W p l e R s m args below meth c H1 locs (cells + mc) (slots + ms) Q (F0 m x.handlerPc ls [.ref q])) : W p l e R s m args below meth c H locs cells slots Q (F0 m pc ls st0) := by
  intro T hT X
  obtain ⟨q, ce, T', X', z1, z2, h1, h2, h3, st⟩ := hr T hT X
  have hpl : e.platform.magicAccessors = ({} : Platform).magicAccessors := by rw [X.admits.platform]
  obtain ⟨c3, c4, hc3, hc4, hasg⟩ := Cond.castable_spec hcast
  cases Option.some.inj (hc3.symm.trans h3)
  obtain ⟨c5, hc5, hcl5⟩ := Cond.classLink_spec hown hlink e.platform hpl
  cases Option.some.inj (hc4.symm.trans hc5)
  obtain ⟨vm', X2, st2⟩ := X'.thenCaughtThrough q (g := F0 m pc ls rest) rfl (Steps.refl _) h1 (by rw [h2]; rfl) (by obtain ⟨k9, h9, -⟩ := Vm.findClass_spec h3; exact ⟨k9, h9⟩) pre x suf hsplit
    (fun z hz => by
      rcases hpass z hz with h | ⟨hz0, nm, hl1, hn1⟩
      · exact Or.inl h
      · obtain ⟨c6, hc6, hcl6⟩ := Cond.classLink_spec hown hl1 e.platform hpl
        obtain ⟨a8, b8, h1, h2, h3'⟩ := hn1
        cases Option.some.inj (h1.symm.trans h3)
        cases Option.some.inj (h2.symm.trans hc6)
        exact Or.inr ⟨hz0, _, hcl6, h3'⟩) hx (Or.inr ⟨h0, c4, hcl5, hasg⟩)
  obtain ⟨t, a1, b1⟩ := kk q T'.heap z1 z2 (T'.setVm vm') rfl X2
  exact ⟨t, (st.trans st2).trans a1, b1⟩
end XT
section XH
variable {p : Program} {l : Launch} {e : Env} {R : Room} {s : State} {m : MethodId} {args : Array Value} {below : List Frame} {meth : Method} {c : Code} {H : Heap} {cells slots : Nat} {cc : ByteArray} {rest : List Value}
variable {y : MethodName} {bytes : ByteArray} {maxL nL mc ms n index : Nat} {ret : Option FieldType} {ws ws' : List Cond} {rm : Room} {Pc : Array Value → State → Prop} {Qc : Array Value → State → Outcome → State → Prop} {free : Addr → Prop} {Ts : List Cond} {own : String} {As : List Value} {g : JFrame} {locs : List Loc} {hh : List (Nat × Nat × Nat × Nat)}
/-- a method with handlers, its contract out of one walk -/
theorem xh_ofW (hy : plainName y.cls = true) (hw : ws = Cond.codeWith y cc maxL ret hh :: ws')
    (body : ∀ p e s m args below meth c s₁, BodyLoose p l y (headSpec ws rm) cc maxL ret e s m args below meth c s₁ → c.maxLocals = maxL → c.exceptionTable.toList = tableOf hh → Pc args s → W p l e (headSpec ws rm).room s m args below meth c s.heap [] 0 0 (MQ below Qc args s mc ms free) (entryFrame m args maxL)) : Met l y ws rm Pc Qc mc ms free := by
  refine MetFree.of_bodyS (code := cc) (maxLocals := maxL) (ret := ret) hy ?_ ?_
  · intro args s m h hn
    obtain ⟨m9, meth, c, hn9, h1, h2, h3, h4, -, h5, h6, -⟩ := Cond.codeWith_spec (atoms_spec (ws := ws) h _ (by rw [hw]; exact List.mem_cons_self))
    cases hn.symm.trans hn9
    exact ⟨meth, c, h1, h2, h3, h4, h5, h6⟩
  · intro p e s m args below meth c s₁ B hml hP _
    have hh0 : s₁.heap = s.heap := by rw [B.state]; rfl
    have ht : c.exceptionTable.toList = tableOf hh := by
      obtain ⟨m9, meth9, c9, hn9, h1, h2, -, -, h6, -⟩ := Cond.codeWith_spec (atoms_spec (ws := ws) B.pre _ (by rw [hw]; exact List.mem_cons_self))
      cases Option.some.inj (hn9.symm.trans B.named)
      cases Option.some.inj (h1.symm.trans B.method)
      cases Option.some.inj (h2.symm.trans (Stand.of_body B).code)
      rw [← h6, table_eq]
    obtain ⟨t, a1, o, b1, b2, b3⟩ := body p e s m args below meth c s₁ B hml ht hP s₁ hh0 (Stand.of_body B)
    exact ⟨t, o, a1, b1, b2, ⟨b3.1, b3.2⟩⟩
/-- a static call of it -/
theorem xh_runS (S : CallFix p m c cc nL s args Ts own) (hM : Met l y ws rm Pc Qc mc ms free) (hblind : FrameBlind Pc) (hrc : rm.cells = mc) (hrs : rm.slots = ms) (hfr : rm.frames + 1 ≤ R.frames) (hlo : 8 + (maxL + 11) + rm.locals ≤ R.locals)
    (hws : ∀ w ∈ ws, ∀ (a' : Array Value) (U : State), s.WarmedH U.vm → w.before a' U = true) (hcw : Cond.codeWith y bytes maxL ret hh ∈ ws) (hlink : (Cond.methodLink own index y).before args s = true) (hstat : (Cond.static y).before args s = true) (hinit : (Cond.initialized y.cls).before args s = true) (hy : y.cls ≠ "java/lang/invoke/MethodHandle" ∧ y.cls ≠ "java/lang/invoke/VarHandle")
    (hlen : (parseMethodDescriptor y.desc).map (fun d => d.parameters.length) = some n) (hPc : ∀ U : State, U.heap = H → s.WarmedH U.vm → Pc As.toArray U) (hg : g.method = m) (hn : As.length = n) (hsize : g.locals.size = nL) (hstack : g.stack = As.reverse ++ rest) (hW : 2 * g.monitorRoom + (rest.map fun v => v.category).sum ≤ 8) (hdg : decode cc g.pc = .ok (.invokestatic index, 3)) (hf : cells + mc ≤ R.cells ∧ slots + ms ≤ R.slots) :
    va_Run p l e R s m args below meth c H locs cells slots mc ms g rest (Qc As.toArray) free := by
  obtain ⟨hx, hb, hml, hown, -⟩ := S
  intro T hT X
  have hcode : (Cond.codeWith y bytes maxL ret hh).before args s = true := hws _ hcw _ _ (State.WarmedH.refl s)
  obtain ⟨mk, methM, cM, hnamed, hmethM, hcM, -, hlM, -, -, -, hsig⟩ := Cond.codeWith_spec hcode
  have hstatic : methM.isStatic = true := Cond.static_spec hnamed hmethM hstat
  obtain ⟨kP, hkP, -⟩ := className_of_methodNamed hnamed
  have hinitP : kP.init = .initialized := Cond.initialized_spec (findClass_of_methodNamed hnamed) hkP hinit
  have hlen' : As.length = methM.sig.parameters.length := by
    rw [hsig] at hlen
    exact hn.trans (Option.some.inj hlen).symm
  obtain ⟨vm₁, X₁, hstep₁⟩ := X.invokestatic hx hown hlink hnamed hmethM hstatic hkP hinitP hy (g := g) hg (argsL := As) (rest := rest) hlen' hstack (by rw [hb]; exact hdg)
  obtain ⟨U, hU⟩ : ∃ z, z = T.setVm vm₁ := ⟨_, rfl⟩
  have hUh : U.heap = H := by rw [hU]; exact hT
  rw [← hU] at X₁
  have g9m : ({ g with stack := rest } : JFrame).method = m := hg
  have h : At U g.method c below := by rw [hg]; exact X₁.here
  have hnU : U.methodNamed? y = some mk := X₁.named hnamed
  have hW₁ : s.WarmedH U.vm := X₁.warmed
  obtain ⟨mk', methY, cY, hn', hmY, hcY, -, hlY, -, -, -, -⟩ := Cond.codeWith_spec (hws _ hcw As.toArray U hW₁)
  cases Option.some.inj (hnU.symm.trans hn')
  obtain ⟨kY, hkY, -⟩ := className_of_methodNamed hnU
  have hinitU : (Cond.initialized y.cls).before As.toArray U = true := word_at hW₁ (Or.inl (by first | rfl | simp [Cond.onTables, Cond.keeps, Cond.steady])) hinit
  have hinitY : kY.init = .initialized := Cond.initialized_spec (findClass_of_methodNamed hnU) hkY hinitU
  have h1 : (headSpec ws rm).pre.before As.toArray U = true := atoms_intro fun w hw => hws w hw _ _ hW₁
  have h4 : cells + (headSpec ws rm).room.cells ≤ R.cells := by rw [show (headSpec ws rm).room.cells = mc from hrc]; exact hf.1
  have h5 : slots + (headSpec ws rm).room.slots ≤ R.slots := by rw [show (headSpec ws rm).room.slots = ms from hrs]; exact hf.2
  have hlo' : 8 + (maxL + 11) + (headSpec ws rm).room.locals ≤ R.locals := hlo
  have happ : (headSpec ws rm).appliesLoose y e.platform (U.calling { g with stack := rest } mk As.toArray) = true := Spec.appliesLoose_calling (g := { g with stack := rest }) h (by rw [hb]; exact hdg) hnU hkY hinitY (X₁.room_calling (g := { g with stack := rest }) (R' := (headSpec ws rm).room) (hsize.trans hml.symm) hmY hcY hfr (by rw [hlY]; show 2 * g.monitorRoom + (rest.map fun v => v.category).sum + (maxL + 11) + (headSpec ws rm).room.locals ≤ R.locals; omega) h4 h5) h1
  obtain ⟨mid, hmid⟩ := h.above
  have hfr9 : (U.setTop { g with stack := rest }).frames = (.java { g with stack := rest } :: mid) ++ below := by rw [State.frames_setTop' _ h.top, hmid]; rfl
  obtain ⟨o, s₂, hsteps, -, hend, hq⟩ := Steps.callFree hM p X₁.admits X₁.cas X₁.clock (acts := []) hfr9 happ (hblind _ _ _ _ (hPc U hUh hW₁)) trivial
  obtain ⟨hq', L, hfe, hL⟩ := hq
  obtain ⟨⟨v, rfl⟩, hW₂, hsame⟩ := id hfe
  obtain ⟨g₀, hr⟩ := X₁.frames_eq
  rw [State.frames_setTop' _ h.top, hr] at hend
  obtain ⟨T', X', hW', hsm, ht⟩ := X₁.outOf (g := { g with stack := rest }) g9m (by rw [hb]; exact hdg) hend hW₂ hsame
  have hheap : T'.heap = s₂.heap := by rw [ht]; simp [State.setFrames, State.setTop, State.modifyTopJava]
  have hvm : T'.vm = s₂.vm := by rw [ht]; simp [State.setFrames, State.setTop, State.modifyTopJava]
  refine ⟨v, U.calling { g with stack := rest } mk As.toArray, s₂, T', L, hUh, X', hL, hheap, hvm, hq', fun target h9 => hstep₁ _ fun acts => ?_⟩
  rw [doInvoke_state, ← hU]
  refine Steps.trans hsteps ?_
  rw [ht]
  exact h9
theorem xn_nil {H0 H1 : Heap} (h : va_S (fun _ => False) H0 H1 locs) : locs = [] := List.eq_nil_iff_forall_not_mem.mpr (fun z hz => h.2.2 z hz)
end XH
/-! What the roads that throw need of a state. -/
def xt_L (n d : String) (A : Nat → Prop) (U : State) (H : Heap) : Prop := ∃ (c : ClassId) (k : Class) (i : Nat) (f : Field) (a : Nat) (cell : Cell), U.vm.findClass "java/lang/Throwable" = some c ∧ U.fieldFound? "java/lang/Throwable" n d = some (c, k, i, f) ∧ f.isStatic = true ∧ k.statics = some a ∧ H[a]? = some cell ∧ cell.vm.isStatics = true ∧ cell.cls = c ∧ f.slot < cell.slots.size ∧ k.staticTypes[f.slot]? = some f.type ∧ ¬ A a
theorem xt_L.of {args : Array Value} {s : State} {n d : String} {A : Nat → Prop} (hl : (Cond.laysStatic "java/lang/Throwable" n d).before args s = true) (hA : ∀ a : Nat, a < s.heap.size → ¬ A a) : xt_L n d A s s.heap := by
  obtain ⟨c, k, i, f, a, cell, h1, h2, h3, h4, h5, h6, h7, h8, h9⟩ := Cond.laysStatic_spec hl
  exact ⟨c, k, i, f, a, cell, h1, h2, h3, h4, h5, h6, h7, h8, h9, hA a (Array.getElem?_eq_some_iff.mp h5).1⟩
theorem xt_L.kept {n d : String} {A : Nat → Prop} {U : State} {H H1 : Heap} (h : xt_L n d A U H) (hq : ∀ a : Nat, a < H.size → ¬ A a → H1[a]? = H[a]?) : xt_L n d A U H1 := by
  obtain ⟨c, k, i, f, a, cell, h1, h2, h3, h4, h5, h6⟩ := h
  exact ⟨c, k, i, f, a, cell, h1, h2, h3, h4, by rw [hq a (Array.getElem?_eq_some_iff.mp h5).1 h6.2.2.2.2]; exact h5, h6⟩
theorem xt_L.narrow {n d : String} {A B : Nat → Prop} {U : State} {H : Heap} (h : xt_L n d A U H) (hAB : ∀ q, B q → A q) : xt_L n d B U H := by
  obtain ⟨c, k, i, f, a, cell, h1, h2, h3, h4, h5, h6, h7, h8, h9, h10⟩ := h
  exact ⟨c, k, i, f, a, cell, h1, h2, h3, h4, h5, h6, h7, h8, h9, fun q => h10 (hAB a q)⟩
theorem xt_L.word {n d : String} {A : Nat → Prop} {s : State} {args : Array Value} (h : xt_L n d A s s.heap) : (Cond.laysStatic "java/lang/Throwable" n d).before args s = true := by
  obtain ⟨c, k, i, f, a, cell, h1, h2, h3, h4, h5, h6, h7, h8, h9, -⟩ := h
  simp [Cond.before, Cond.holds, Cond.value, h1, h2, h3, h4, h5, h6, h7, h8, h9]
theorem xt_L.moved {n d : String} {A : Nat → Prop} {u U : State} {H : Heap} (hW : u.WarmedH U.vm) (h : xt_L n d A u H) : xt_L n d A U H := by
  obtain ⟨c, k, i, f, a, cell, h1, h2, h3, h4, h5, h6, h7, h8, h9, h10⟩ := h
  obtain ⟨k', hi', he⟩ := State.fieldFound?_setVm hW.alike h2
  exact ⟨c, k', i, f, a, cell, by rw [hW.alike.findClass]; exact h1, hi', h3, by rw [he]; exact h4, h5, h6, h7, h8, by rw [he]; exact h9, h10⟩
theorem xt_isRef {n d : String} {A : Nat → Prop} {s : State} {args : Array Value} (h : va_Zq "java/lang/Throwable" n d A s s.heap) : (Cond.isRef (.static "java/lang/Throwable" n d)).before args s = true := by
  have one : ∀ v : Value, v.isRef = true → va_Z "java/lang/Throwable" n d v A s s.heap → (Cond.isRef (.static "java/lang/Throwable" n d)).before args s = true := by
    intro v hv h
    obtain ⟨cf, kf, fi, f, a, cell, h1, h2, h3, h4, h5, h6, h7, -⟩ := h
    have he : (Term.static "java/lang/Throwable" n d).eval args s none [] s = some v := by simp [Term.eval, State.fieldNamed?, h1, h2, h4, h5, h6, h7]
    simp only [Cond.before, Cond.holds, Cond.value, he]
    cases v <;> simp_all [Value.isRef]
  rcases h with h | ⟨t, h⟩
  · exact one _ rfl h
  · exact one _ rfl h
def xt_dc : List MethodName := [⟨"java/lang/RuntimeException", "<init>", "(Ljava/lang/String;)V"⟩, ⟨"java/lang/Exception", "<init>", "(Ljava/lang/String;)V"⟩, ⟨"java/lang/Throwable", "<init>", "(Ljava/lang/String;)V"⟩]
def xt_cs : List String := ["java/lang/IndexOutOfBoundsException", "java/lang/IllegalStateException", "java/lang/UnsupportedOperationException", "java/lang/IllegalArgumentException"]
def xt_st : List (Nat × String) := [(211, "no such endpoint"), (73, "neither new nor ready"), (101, "not ready"), (109, "no channel is free"), (214, "no such channel"), (220, "not ready, or the channel is not open"), (127, "not 1 to 8 bytes")]
def xt_G (A : Nat → Prop) (U : State) (H : Heap) : Prop := (∀ x ∈ xt_dc, va_Nw (.declares x) U) ∧ (∀ c ∈ xt_cs, va_Nw (.castable c c) U) ∧ (∀ q ∈ xt_st, ∃ a, vk_R "SecurePair" q.1 q.2 a U) ∧ (va_Zq "java/lang/Throwable" "UNASSIGNED_STACK" "[Ljava/lang/StackTraceElement;" A U H ∧ xt_L "UNASSIGNED_STACK" "[Ljava/lang/StackTraceElement;" A U H) ∧ va_Zq "java/lang/Throwable" "SUPPRESSED_SENTINEL" "Ljava/util/List;" A U H ∧ xt_L "SUPPRESSED_SENTINEL" "Ljava/util/List;" A U H
theorem xt_G.go {A : Nat → Prop} {s U : State} {H H1 : Heap} (hW : s.WarmedH U.vm) (hq : ∀ a : Nat, a < H.size → ¬ A a → H1[a]? = H[a]?) (h : xt_G A s H) : xt_G A U H1 := by
  obtain ⟨h1, h2, h3, ⟨h4, h5⟩, h6, h7⟩ := h
  exact ⟨fun x hx => va_Nw.warmD hW (h1 x hx), fun c hc => va_Nw.warmC hW (h2 c hc), fun q hq => (h3 q hq).imp fun a ha => vk_R.warm hW ha, ⟨va_Zq.moved hW.alike (h4.kept hq), xt_L.moved hW (h5.kept hq)⟩, va_Zq.moved hW.alike (h6.kept hq), xt_L.moved hW (h7.kept hq)⟩
theorem xt_G.same {A : Nat → Prop} {u U : State} {H : Heap} (hv : u.vm = U.vm) (h : xt_G A u H) : xt_G A U H := by
  have hW : u.WarmedH U.vm := by rw [← hv]; exact State.WarmedH.refl u
  exact h.go hW (fun _ _ _ => rfl)
def xt_n : List String := ["java/lang/RuntimeException", "java/lang/Exception"]
def xt_bad (c : String) : List Cond := [.laysStatic "java/lang/Throwable" "UNASSIGNED_STACK" "[Ljava/lang/StackTraceElement;", .laysStatic "java/lang/Throwable" "SUPPRESSED_SENTINEL" "Ljava/util/List;", .declares ⟨"java/lang/RuntimeException", "<init>", "(Ljava/lang/String;)V"⟩, .declares ⟨"java/lang/Exception", "<init>", "(Ljava/lang/String;)V"⟩, .declares ⟨"java/lang/Throwable", "<init>", "(Ljava/lang/String;)V"⟩, .castable c c, .isRef (.static "java/lang/Throwable" "UNASSIGNED_STACK" "[Ljava/lang/StackTraceElement;"), .isRef (.static "java/lang/Throwable" "SUPPRESSED_SENTINEL" "Ljava/util/List;")]
theorem xt_atoms {A : Nat → Prop} {s : State} {args : Array Value} {c : String} {ic : Nat} (is : List Nat) (hg : (Bundle.ownAtoms "SecurePair" ic c xt_n).filter goodWord = is.filterMap (fun i => tables_1[i]?)) (hb : (Bundle.ownAtoms "SecurePair" ic c xt_n).filter (fun w => !goodWord w) = xt_bad c) (hc : c ∈ xt_cs) (ht : ∀ w ∈ xa, w.before args s = true) (h : xt_G A s s.heap) : ∀ a ∈ Bundle.ownAtoms "SecurePair" ic c xt_n, a.before args s = true := by
  intro w hw
  by_cases g : goodWord w = true
  · have h1 : w ∈ (Bundle.ownAtoms "SecurePair" ic c xt_n).filter goodWord := List.mem_filter.mpr ⟨hw, g⟩
    rw [hg] at h1
    obtain ⟨i, -, hi⟩ := List.mem_filterMap.mp h1
    exact ht w (xa_t i hi g)
  · have h1 : w ∈ (Bundle.ownAtoms "SecurePair" ic c xt_n).filter (fun w => !goodWord w) := List.mem_filter.mpr ⟨hw, by simp [g]⟩
    rw [hb] at h1
    obtain ⟨d1, d2, -, ⟨d4, d5⟩, d6, d7⟩ := h
    simp only [xt_bad, List.mem_cons, List.not_mem_nil, or_false] at h1
    rcases h1 with rfl | rfl | rfl | rfl | rfl | rfl | rfl | rfl
    · exact d5.word
    · exact d7.word
    · exact va_Nw.use rfl (d1 _ (by decide))
    · exact va_Nw.use rfl (d1 _ (by decide))
    · exact va_Nw.use rfl (d1 _ (by decide))
    · exact va_Nw.use rfl (d2 _ hc)
    · exact xt_isRef d4
    · exact xt_isRef d6
/-- over the world of the program -/
def st_Pre (D : va_G) (α : Nat → Nat) (κ : Nat → ClassId) (σ : xb_St) (U : State) : Prop := sp_Pre D α κ σ U ∧ xt_G (xb_A α 35) U U.heap
theorem st_blind {D : va_G} {α : Nat → Nat} {κ : Nat → ClassId} {σ : xb_St} {av : List Value} : FrameBlind (va_Pc av (st_Pre D α κ σ)) := fun a U g mk h => ⟨h.1, (sp_blind a U g mk ⟨h.1, h.2.1⟩).2, xt_G.same (u := U) rfl h.2.2⟩
theorem st_pre {D : va_G} {α : Nat → Nat} {κ : Nat → ClassId} {σ : xb_St} {s : State} {H : Heap} {locs : List Loc} (hP : va_P D xC (sp_w α κ σ) H) (hK : va_K D xC (sp_t κ) s) (hN : sp_N s) (hG : xt_G (xb_A α 35) s s.heap) (hS : va_S (fun _ => False) s.heap H locs) (av : List Value) : ∀ U : State, U.heap = H → s.WarmedH U.vm → va_Pc av (st_Pre D α κ σ) av.toArray U := fun U hU hW => ⟨rfl, (sp_pre hP hK hN av U hU hW).2, by rw [hU]; exact hG.go hW (fun a ha _ => hS.2.1 a ha (fun f => f))⟩
theorem xb_th0 {a r : Nat} (h : (if a = 0 then r else a) = 0) : a = 0 := by
  by_cases e : a = 0
  · exact e
  · rw [if_neg e] at h; exact h
theorem xt_g213 : (Bundle.ownAtoms "SecurePair" 213 "java/lang/IndexOutOfBoundsException" xt_n).filter goodWord = ([12, 535, 544, 549, 552, 554, 536, 537, 27, 28, 538, 543, 550, 570, 525, 571, 527, 572, 529, 539, 541, 531, 566, 567, 569, 531, 557, 558, 559, 560, 560, 561, 562, 563, 563, 564, 565, 566, 556, 514, 522, 523, 524, 526, 528, 530, 534, 533, 532] : List Nat).filterMap (fun i => tables_1[i]?) := by decide +kernel
theorem xt_b213 : (Bundle.ownAtoms "SecurePair" 213 "java/lang/IndexOutOfBoundsException" xt_n).filter (fun w => !goodWord w) = xt_bad "java/lang/IndexOutOfBoundsException" := by decide +kernel
theorem xt_g75 : (Bundle.ownAtoms "SecurePair" 75 "java/lang/IllegalStateException" xt_n).filter goodWord = ([12, 535, 544, 549, 552, 554, 536, 537, 27, 28, 538, 543, 550, 570, 525, 571, 527, 572, 529, 539, 541, 531, 566, 567, 569, 531, 599, 600, 601, 560, 560, 561, 562, 563, 563, 564, 565, 566, 598, 589, 591, 547, 592, 593, 594, 595, 534, 533, 596] : List Nat).filterMap (fun i => tables_1[i]?) := by decide +kernel
theorem xt_b75 : (Bundle.ownAtoms "SecurePair" 75 "java/lang/IllegalStateException" xt_n).filter (fun w => !goodWord w) = xt_bad "java/lang/IllegalStateException" := by decide +kernel
theorem xt_g111 : (Bundle.ownAtoms "SecurePair" 111 "java/lang/UnsupportedOperationException" xt_n).filter goodWord = ([12, 535, 544, 549, 552, 554, 536, 537, 27, 28, 538, 543, 550, 570, 525, 571, 527, 572, 529, 539, 541, 531, 566, 567, 569, 531, 855, 856, 857, 560, 560, 561, 562, 563, 563, 564, 565, 566, 854, 845, 847, 548, 848, 849, 850, 851, 534, 533, 852] : List Nat).filterMap (fun i => tables_1[i]?) := by decide +kernel
theorem xt_b111 : (Bundle.ownAtoms "SecurePair" 111 "java/lang/UnsupportedOperationException" xt_n).filter (fun w => !goodWord w) = xt_bad "java/lang/UnsupportedOperationException" := by decide +kernel
theorem xt_g129 : (Bundle.ownAtoms "SecurePair" 129 "java/lang/IllegalArgumentException" xt_n).filter goodWord = ([12, 535, 544, 549, 552, 554, 536, 537, 27, 28, 538, 543, 550, 570, 525, 571, 527, 572, 529, 539, 541, 531, 566, 567, 569, 531, 899, 900, 901, 560, 560, 561, 562, 563, 563, 564, 565, 566, 898, 889, 891, 546, 892, 893, 894, 895, 534, 533, 896] : List Nat).filterMap (fun i => tables_1[i]?) := by decide +kernel
theorem xt_b129 : (Bundle.ownAtoms "SecurePair" 129 "java/lang/IllegalArgumentException" xt_n).filter (fun w => !goodWord w) = xt_bad "java/lang/IllegalArgumentException" := by decide +kernel
section XN
variable {p : Program} {l : Launch} {e : Env} {R : Room} {s : State} {m : MethodId} {args : Array Value} {below : List Frame} {meth : Method} {c : Code} {H : Heap} {locs : List Loc} {cells slots : Nat} {Q : State → Prop}
variable {cc : ByteArray} {pc : Nat} {ls : Array Slot} {rest : List Value} {D : va_G} {α : Nat → Nat} {κ : Nat → ClassId} {σ : xb_St} {A : Nat → Prop} {H0 : Heap} {own ref : String} {index : Nat} {K : Nat}
variable {a : Array Value} {st0 : List Value} {fu : xb_St}
theorem xn_cv (hr : va_Run p l e R s m args below meth c H locs cells slots 0 0 (F0 m pc ls st0) rest (va_Qv (fun u : xb_St => u = fu) (sp_B D α κ) (fun _ => False) a) (fun _ => False)) (hS : va_S A H0 H locs)
    (kk : ∀ (H1 : Heap) (locs1 : List Loc), va_P D xC (sp_w α κ fu) H1 → va_S A H0 H1 locs1 → W p l e R s m args below meth c H1 locs1 cells slots Q (F0 m (pc + 3) ls (rest))) : W p l e R s m args below meth c H locs cells slots Q (F0 m pc ls st0) :=
  va_callv hr hS (fun q _ h => h.elim) (fun q h => h.elim) (fun u t H1 locs1 ht hvm hu hB _ _ hS1 => by
    subst hu
    exact kk H1 locs1 (by rw [← ht]; exact hB) hS1)
theorem xn_ci {fr : Int32} (hr : va_Run p l e R s m args below meth c H locs cells slots 0 0 (F0 m pc ls st0) rest (va_Qi (fun r (u : xb_St) => r = fr ∧ u = fu) (sp_B D α κ) (fun _ => False) a) (fun _ => False)) (hS : va_S A H0 H locs)
    (kk : ∀ (H1 : Heap) (locs1 : List Loc), va_P D xC (sp_w α κ fu) H1 → va_S A H0 H1 locs1 → W p l e R s m args below meth c H1 locs1 cells slots Q (F0 m (pc + 3) ls (.int fr :: rest))) : W p l e R s m args below meth c H locs cells slots Q (F0 m pc ls st0) :=
  va_calli hr hS (fun q _ h => h.elim) (fun q h => h.elim) (fun r u t H1 locs1 ht hvm hu hB _ _ hS1 => by
    obtain ⟨rfl, rfl⟩ := hu
    exact kk H1 locs1 (by rw [← ht]; exact hB) hS1)
theorem xn_cl {fr : Int64} (hr : va_Run p l e R s m args below meth c H locs cells slots 0 0 (F0 m pc ls st0) rest (va_Ql (fun r (u : xb_St) => r = fr ∧ u = fu) (sp_B D α κ) (fun _ => False) a) (fun _ => False)) (hS : va_S A H0 H locs)
    (kk : ∀ (H1 : Heap) (locs1 : List Loc), va_P D xC (sp_w α κ fu) H1 → va_S A H0 H1 locs1 → W p l e R s m args below meth c H1 locs1 cells slots Q (F0 m (pc + 3) ls (.long fr :: rest))) : W p l e R s m args below meth c H locs cells slots Q (F0 m pc ls st0) :=
  va_calll hr hS (fun q _ h => h.elim) (fun q h => h.elim) (fun r u t H1 locs1 ht hvm hu hB _ _ hS1 => by
    obtain ⟨rfl, rfl⟩ := hu
    exact kk H1 locs1 (by rw [← ht]; exact hB) hS1)
theorem xn_cq {fr : Option Nat} (hr : va_Run p l e R s m args below meth c H locs cells slots 0 0 (F0 m pc ls st0) rest (va_Qq (fun r (u : xb_St) => r = fr ∧ u = fu) (sp_B D α κ) (fun _ => False) a) (fun _ => False)) (hS : va_S A H0 H locs)
    (kk : ∀ (H1 : Heap) (locs1 : List Loc), va_P D xC (sp_w α κ fu) H1 → va_S A H0 H1 locs1 → W p l e R s m args below meth c H1 locs1 cells slots Q (F0 m (pc + 3) ls (va_rf fr :: rest))) : W p l e R s m args below meth c H locs cells slots Q (F0 m pc ls st0) :=
  va_callq hr hS (fun q _ h => h.elim) (fun q h => h.elim) (fun r u t H1 locs1 ht hvm hu hB _ _ hS1 => by
    obtain ⟨rfl, rfl⟩ := hu
    exact kk H1 locs1 (by rw [← ht]; exact hB) hS1)
end XN
