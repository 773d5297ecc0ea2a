/-! A state in two numbers, place and field: ints and longs. Rows that the walks share. -/
abbrev xb_St : Type := (Nat → Nat → Int32) × (Nat → Nat → Int64)
def xb_u2 {τ : Type} (f : Nat → Nat → τ) (K j : Nat) (v : τ) : Nat → Nat → τ := fun k => if k = K then va_up (f K) j v else f k
theorem xb_u2_hit {τ : Type} {f : Nat → Nat → τ} {K j : Nat} {v : τ} : xb_u2 f K j v K j = v := by simp [xb_u2, va_up]
theorem xb_u2_nj {τ : Type} {f : Nat → Nat → τ} {K j j' : Nat} {v : τ} (h : j' ≠ j) : xb_u2 f K j v K j' = f K j' := by simp [xb_u2, va_up, h]
theorem xb_u2_nk {τ : Type} {f : Nat → Nat → τ} {K K' j j' : Nat} {v : τ} (h : K' ≠ K) : xb_u2 f K j v K' j' = f K' j' := by simp [xb_u2, h]
def xb_si (σ : xb_St) (K j : Nat) (v : Int32) : xb_St := (xb_u2 σ.1 K j v, σ.2)
def xb_sl (σ : xb_St) (K j : Nat) (v : Int64) : xb_St := (σ.1, xb_u2 σ.2 K j v)
theorem xb_i_l {σ : xb_St} {K j K' j' : Nat} {v : Int64} : (xb_sl σ K j v).1 K' j' = σ.1 K' j' := rfl
theorem xb_l_i {σ : xb_St} {K j K' j' : Nat} {v : Int32} : (xb_si σ K j v).2 K' j' = σ.2 K' j' := rfl
theorem xb_i_hit {σ : xb_St} {K j : Nat} {v : Int32} : (xb_si σ K j v).1 K j = v := xb_u2_hit
theorem xb_i_nj {σ : xb_St} {K j j' : Nat} {v : Int32} (h : j' ≠ j) : (xb_si σ K j v).1 K j' = σ.1 K j' := xb_u2_nj h
theorem xb_i_nk {σ : xb_St} {K K' j j' : Nat} {v : Int32} (h : K' ≠ K) : (xb_si σ K j v).1 K' j' = σ.1 K' j' := xb_u2_nk h
theorem xb_l_hit {σ : xb_St} {K j : Nat} {v : Int64} : (xb_sl σ K j v).2 K j = v := xb_u2_hit
theorem xb_l_nj {σ : xb_St} {K j j' : Nat} {v : Int64} (h : j' ≠ j) : (xb_sl σ K j v).2 K j' = σ.2 K j' := xb_u2_nj h
theorem xb_l_nk {σ : xb_St} {K K' j j' : Nat} {v : Int64} (h : K' ≠ K) : (xb_sl σ K j v).2 K' j' = σ.2 K' j' := xb_u2_nk h
/-- the n cells at α, and that no two of them are one -/
def xb_A (α : Nat → Nat) (n : Nat) : Nat → Prop := fun q => ∃ k, k < n ∧ q = α k
def xb_inj (α : Nat → Nat) (n : Nat) : Prop := ∀ i j, i < n → j < n → α i = α j → i = j
theorem xb_D {α : Nat → Nat} {n : Nat} (hα : xb_inj α n) {ws : va_W} (hw : ws.map (fun q => q.1) = (List.range n).map α) : va_D (xb_A α n) ws := by
  have hlen : ws.length = n := by
    have := congrArg List.length hw
    simpa using this
  have hk : ∀ (k : Nat) (q : Nat × va_E), ws[k]? = some q → k < n ∧ q.1 = α k := by
    intro k q h
    have hlt : k < ws.length := (List.getElem?_eq_some_iff.mp h).1
    refine ⟨by omega, ?_⟩
    have h1 : (ws.map (fun q => q.1))[k]? = some q.1 := by rw [List.getElem?_map, h]; rfl
    rw [hw, List.getElem?_map, List.getElem?_range (by omega)] at h1
    exact (Option.some.inj h1).symm
  refine ⟨fun i j p q hi hj h => ?_, fun k q h => ⟨k, (hk k q h).1, (hk k q h).2⟩⟩
  have h1 := hk i p hi
  have h2 := hk j q hj
  exact hα i j h1.1 h2.1 (by rw [← h1.2, ← h2.2]; exact h)
theorem xb_lc_iff (x y : Int64) : (lg_cmp x y < 0 ↔ x < y) ∧ (lg_cmp x y = 0 ↔ x = y) ∧ (0 < lg_cmp x y ↔ y < x) ∧ (0 ≤ lg_cmp x y ↔ y ≤ x) ∧ (lg_cmp x y ≤ 0 ↔ x ≤ y) := by
  have e : x = y ↔ x.toInt = y.toInt := Int64.toInt_inj.symm
  have hv : lg_cmp x y = if y.toInt < x.toInt then 1 else if x.toInt = y.toInt then 0 else -1 := by
    unfold lg_cmp
    simp only [GT.gt, Int64.lt_iff_toInt_lt, e]
  simp only [Int64.lt_iff_toInt_lt, Int64.le_iff_toInt_le, e]
  rcases Int.lt_trichotomy x.toInt y.toInt with h | h | h
  · rw [hv, if_neg (by omega), if_neg (by omega)]
    exact ⟨iff_of_true (by decide) h, iff_of_false (by decide) (by omega), iff_of_false (by decide) (by omega), iff_of_false (by decide) (by omega), iff_of_true (by decide) (by omega)⟩
  · rw [hv, if_neg (by omega), if_pos h]
    exact ⟨iff_of_false (by decide) (by omega), iff_of_true (by decide) h, iff_of_false (by decide) (by omega), iff_of_true (by decide) (by omega), iff_of_true (by decide) (by omega)⟩
  · rw [hv, if_pos h]
    exact ⟨iff_of_false (by decide) (by omega), iff_of_false (by decide) (by omega), iff_of_true (by decide) h, iff_of_true (by decide) (by omega), iff_of_false (by decide) (by omega)⟩
section XB
variable {p : Program} {l : Launch} {e : Env} {R : Room} {s : State} {m : MethodId} {args : Array Value} {below : List Frame} {meth : Method} {c : Code} {H : Heap} {locs : List Loc} {cells slots : Nat} {Q : State → Prop}
variable {cc : ByteArray} {pc : Nat} {ls : Array Slot} {rest : List Value}
theorem xb_ti {x y : Int32} (h : x = y) (k : W p l e R s m args below meth c H locs cells slots Q (F0 m pc ls (.int y :: rest))) : W p l e R s m args below meth c H locs cells slots Q (F0 m pc ls (.int x :: rest)) := by
  subst h; exact k
theorem xb_tl {x y : Int64} (h : x = y) (k : W p l e R s m args below meth c H locs cells slots Q (F0 m pc ls (.long y :: rest))) : W p l e R s m args below meth c H locs cells slots Q (F0 m pc ls (.long x :: rest)) := by
  subst h; exact k
theorem xb_llt (hexec : p.tables.exec = Jvm.exec) (hb : c.code = cc) {x y : Int64} {off : Int} {tgt : Nat} (hd1 : decode cc pc = .ok (.lcmp, 1)) (hd : decode cc (pc + 1) = .ok (.ifCond .lt off, 3)) (ht : ((pc + 1 : Nat) : Int) + off = (tgt : Int))
    (kt : x < y → W p l e R s m args below meth c H locs cells slots Q (F0 m tgt ls rest)) (kf : ¬ x < y → W p l e R s m args below meth c H locs cells slots Q (F0 m (pc + 1 + 3) ls rest)) : W p l e R s m args below meth c H locs cells slots Q (F0 m pc ls (.long y :: .long x :: rest)) :=
  W.lcmp hexec hb hd1 (lv_if_lt hexec hb hd ht (fun h => kt ((xb_lc_iff x y).1.mp h)) (fun h => kf (fun q => h ((xb_lc_iff x y).1.mpr q))))
theorem xb_lge (hexec : p.tables.exec = Jvm.exec) (hb : c.code = cc) {x y : Int64} {off : Int} {tgt : Nat} (hd1 : decode cc pc = .ok (.lcmp, 1)) (hd : decode cc (pc + 1) = .ok (.ifCond .ge off, 3)) (ht : ((pc + 1 : Nat) : Int) + off = (tgt : Int))
    (kt : y ≤ x → W p l e R s m args below meth c H locs cells slots Q (F0 m tgt ls rest)) (kf : ¬ y ≤ x → W p l e R s m args below meth c H locs cells slots Q (F0 m (pc + 1 + 3) ls rest)) : W p l e R s m args below meth c H locs cells slots Q (F0 m pc ls (.long y :: .long x :: rest)) :=
  W.lcmp hexec hb hd1 (lv_if_ge hexec hb hd ht (fun h => kt ((xb_lc_iff x y).2.2.2.1.mp h)) (fun h => kf (fun q => h ((xb_lc_iff x y).2.2.2.1.mpr q))))
theorem xb_lgt (hexec : p.tables.exec = Jvm.exec) (hb : c.code = cc) {x y : Int64} {off : Int} {tgt : Nat} (hd1 : decode cc pc = .ok (.lcmp, 1)) (hd : decode cc (pc + 1) = .ok (.ifCond .gt off, 3)) (ht : ((pc + 1 : Nat) : Int) + off = (tgt : Int))
    (kt : y < x → W p l e R s m args below meth c H locs cells slots Q (F0 m tgt ls rest)) (kf : ¬ y < x → W p l e R s m args below meth c H locs cells slots Q (F0 m (pc + 1 + 3) ls rest)) : W p l e R s m args below meth c H locs cells slots Q (F0 m pc ls (.long y :: .long x :: rest)) :=
  W.lcmp hexec hb hd1 (lv_if_gt hexec hb hd ht (fun h => kt ((xb_lc_iff x y).2.2.1.mp h)) (fun h => kf (fun q => h ((xb_lc_iff x y).2.2.1.mpr q))))
theorem xb_lle (hexec : p.tables.exec = Jvm.exec) (hb : c.code = cc) {x y : Int64} {off : Int} {tgt : Nat} (hd1 : decode cc pc = .ok (.lcmp, 1)) (hd : decode cc (pc + 1) = .ok (.ifCond .le off, 3)) (ht : ((pc + 1 : Nat) : Int) + off = (tgt : Int))
    (kt : x ≤ y → W p l e R s m args below meth c H locs cells slots Q (F0 m tgt ls rest)) (kf : ¬ x ≤ y → W p l e R s m args below meth c H locs cells slots Q (F0 m (pc + 1 + 3) ls rest)) : W p l e R s m args below meth c H locs cells slots Q (F0 m pc ls (.long y :: .long x :: rest)) :=
  W.lcmp hexec hb hd1 (lv_if_le hexec hb hd ht (fun h => kt ((xb_lc_iff x y).2.2.2.2.mp h)) (fun h => kf (fun q => h ((xb_lc_iff x y).2.2.2.2.mpr q))))
theorem xb_leq (hexec : p.tables.exec = Jvm.exec) (hb : c.code = cc) {x y : Int64} {off : Int} {tgt : Nat} (hd1 : decode cc pc = .ok (.lcmp, 1)) (hd : decode cc (pc + 1) = .ok (.ifCond .eq off, 3)) (ht : ((pc + 1 : Nat) : Int) + off = (tgt : Int))
    (kt : x = y → W p l e R s m args below meth c H locs cells slots Q (F0 m tgt ls rest)) (kf : ¬ x = y → W p l e R s m args below meth c H locs cells slots Q (F0 m (pc + 1 + 3) ls rest)) : W p l e R s m args below meth c H locs cells slots Q (F0 m pc ls (.long y :: .long x :: rest)) :=
  W.lcmp hexec hb hd1 (lv_if_eq hexec hb hd ht (fun h => kt ((xb_lc_iff x y).2.1.mp h)) (fun h => kf (fun q => h ((xb_lc_iff x y).2.1.mpr q))))
theorem xb_lne (hexec : p.tables.exec = Jvm.exec) (hb : c.code = cc) {x y : Int64} {off : Int} {tgt : Nat} (hd1 : decode cc pc = .ok (.lcmp, 1)) (hd : decode cc (pc + 1) = .ok (.ifCond .ne off, 3)) (ht : ((pc + 1 : Nat) : Int) + off = (tgt : Int))
    (kt : ¬ x = y → W p l e R s m args below meth c H locs cells slots Q (F0 m tgt ls rest)) (kf : x = y → W p l e R s m args below meth c H locs cells slots Q (F0 m (pc + 1 + 3) ls rest)) : W p l e R s m args below meth c H locs cells slots Q (F0 m pc ls (.long y :: .long x :: rest)) :=
  W.lcmp hexec hb hd1 (lv_if_ne hexec hb hd ht (fun h => kt (fun q => h ((xb_lc_iff x y).2.1.mpr q))) (fun h => kf ((xb_lc_iff x y).2.1.mp h)))
end XB
/-! The words that every method may use: those of the tables that keep. -/
def xa : List Cond := lw_tbl.filter goodWord
theorem xa_t (i : Nat) {w : Cond} (h : tables_1[i]? = some w) (hg : goodWord w = true) : w ∈ xa := List.mem_filter.mpr ⟨List.mem_append_right _ (List.mem_of_getElem? h), hg⟩
theorem xa_s (i : Nat) {w : Cond} (h : (k2_sels lw_privs)[i]? = some w) (hg : goodWord w = true) : w ∈ xa := List.mem_filter.mpr ⟨List.mem_append_left _ (List.mem_of_getElem? h), hg⟩
theorem xa_ok {w : Cond} (h : w ∈ xa) : (w.onTables && w.keeps) = true ∨ ∃ ty, w = .arrayClass ty := good_of_word (List.mem_filter.mp h).2
theorem xa_g {a b : Cond} (hb : b ∈ xa) : GoodIn (a :: xa) (b :: xa) := fun w hw => by
  rcases List.mem_cons.mp hw with rfl | h
  · exact ⟨List.mem_cons_of_mem _ hb, xa_ok hb⟩
  · exact ⟨List.mem_cons_of_mem _ h, xa_ok h⟩
theorem xa_c {big ws : List Cond} {a : Cond} (ha : a ∈ big) (hg : (a.onTables && a.keeps) = true ∨ ∃ ty, a = .arrayClass ty) (h : GoodIn big ws) : GoodIn big (a :: ws) := fun w hw => by
  rcases List.mem_cons.mp hw with rfl | h'
  · exact ⟨ha, hg⟩
  · exact h w h'
theorem xa_c' {ws : List Cond} {a b : Cond} (ha : a ∈ xa) (h : GoodIn (b :: xa) ws) : GoodIn (b :: xa) (a :: ws) := xa_c (List.mem_cons_of_mem _ ha) (xa_ok ha) h
theorem xa_S {a b : Cond} {own : String} {idx : Nat} {y : MethodName} (h1 : Cond.methodLink own idx y ∈ xa) (h2 : Cond.static y ∈ xa) (h3 : Cond.initialized own ∈ xa) (hb : b ∈ xa) : GoodIn (a :: xa) (wsS own idx y (b :: xa)) := xa_c' h1 (xa_c' h2 (xa_c' h3 (xa_g hb)))
theorem xa_V {a b : Cond} {own C : String} {idx : Nat} {y : MethodName} (h1 : Cond.methodLink own idx y ∈ xa) (h2 : Cond.instanceMethod y ∈ xa) (h3 : Cond.selects C y y ∈ xa) (h4 : Cond.initialized C ∈ xa) (hb : b ∈ xa) : GoodIn (a :: xa) (wsV own idx C y (b :: xa)) := xa_c' h1 (xa_c' h2 (xa_c' h3 (xa_c' h4 (xa_g hb))))
def xb_lushr (x : Int64) (y : Int32) : Int64 := (x.toUInt64 >>> (y.toInt64.toUInt64 &&& Int64.toUInt64 63)).toInt64
def xb_lshl (x : Int64) (y : Int32) : Int64 := x <<< (y.toInt64 &&& 63)
def xb_lshr (x : Int64) (y : Int32) : Int64 := x >>> (y.toInt64 &&& 63)
def xb_lrem (x y : Int64) : Int64 := x - x / y * y
def xb_irem (x y : Int32) : Int32 := x - x / y * y
/-- square and multiply, n rounds at most -/
def f_pw : Nat → Int64 → Int64 → Int64 → Int64
  | 0, r, _, _ => r
  | n + 1, r, q, e => if e ≤ 0 then r else if (e &&& (1 : Int64)) = (1 : Int64) then f_pw n (xb_lrem (r * q) 2147483647) (xb_lrem (q * q) 2147483647) (xb_lshr e 1) else f_pw n r (xb_lrem (q * q) 2147483647) (xb_lshr e 1)
theorem f_pw_s {n : Nat} {r q e : Int64} : f_pw (n + 1) r q e = if e ≤ 0 then r else if (e &&& (1 : Int64)) = (1 : Int64) then f_pw n (xb_lrem (r * q) 2147483647) (xb_lrem (q * q) 2147483647) (xb_lshr e 1) else f_pw n r (xb_lrem (q * q) 2147483647) (xb_lshr e 1) := rfl
theorem xb_lt63 (x : Int64) : x.toInt < 2 ^ 63 := Int64.toInt_lt x
theorem xb_half {e : Int64} {n : Nat} (h : ¬ e ≤ 0) (hlt : e.toInt < 2 ^ (n + 1)) : (xb_lshr e 1).toInt < 2 ^ n := by
  have hp : 0 < e.toInt := by
    rw [Int64.le_iff_toInt_le] at h
    have : (0 : Int64).toInt = 0 := rfl
    omega
  have h1 : (xb_lshr e 1).toInt = e.toInt >>> 1 := by
    unfold xb_lshr
    rw [← Int64.toInt_toBitVec, Int64.toBitVec_shiftRight, BitVec.sshiftRight', BitVec.toInt_sshiftRight, Int64.toInt_toBitVec]
    rfl
  rw [h1, Int.shiftRight_eq_div_pow]
  have : (2 : Int) ^ (n + 1) = 2 ^ n * 2 := Int.pow_succ 2 n
  omega
theorem xa_u {C : String} {T : u_T} {N : Nat} (ps : List Nat) (h : u_ws C T N = ps.filterMap (fun i => tables_1[i]?)) (hg : (u_ws C T N).all goodWord = true) : ∀ w ∈ u_ws C T N, w ∈ xa := fun w hw => by
  have h1 := List.all_eq_true.mp hg w hw
  rw [h] at hw
  obtain ⟨i, -, hi⟩ := List.mem_filterMap.mp hw
  exact xa_t i hi h1
theorem xa_U {a b : Cond} {own C owner : String} {idx : Nat} {x y : MethodName} (h1 : Cond.methodLink own idx x ∈ xa) (h2 : Cond.sameMethod x.cls owner x.name x.desc ∈ xa) (h3 : Cond.selects C x y ∈ xa) (h4 : Cond.instanceMethod y ∈ xa) (h5 : Cond.initialized y.cls ∈ xa) (hb : b ∈ xa) : GoodIn (a :: xa) (va_wsU own idx C owner x y (b :: xa)) := xa_c' h1 (xa_c' h2 (xa_c' h3 (xa_c' h4 (xa_c' h5 (xa_g hb)))))
/-- a copy within the longs of one place -/
def xb_cp (σ : xb_St) (K a b k : Nat) : xb_St := (σ.1, fun q => if q = K then va_cpy (σ.2 K) (σ.2 K) a b k else σ.2 q)
theorem xb_i_c {σ : xb_St} {K a b k K' j' : Nat} : (xb_cp σ K a b k).1 K' j' = σ.1 K' j' := rfl
theorem xb_l_ck {σ : xb_St} {K a b k K' j' : Nat} (h : K' ≠ K) : (xb_cp σ K a b k).2 K' j' = σ.2 K' j' := by simp [xb_cp, h]
/-! small numbers -/
theorem xb_nb {x : Int32} {n : Nat} (h : x = nI n) (hn : n < 2 ^ 31) : x = nI x.toNatClampNeg ∧ x.toNatClampNeg = n := by
  subst h; rw [nI_clamp hn]; exact ⟨rfl, rfl⟩
theorem xb_nm {x y : Int32} {a b : Nat} (hx : x = nI a) (hy : y = nI b) : x * y = nI (a * b) := by rw [hx, hy]; exact pk_mul a b
theorem xb_na {x y : Int32} {a b : Nat} (hx : x = nI a) (hy : y = nI b) : x + y = nI (a + b) := by rw [hx, hy]; exact nI_add a b
theorem xb_ns {x y : Int32} {a b : Nat} (hx : x = nI a) (hy : y = nI b) (h : b ≤ a) : x - y = nI (a - b) := by rw [hx, hy]; exact pk_sub h
theorem xb_nr {x y : Int32} {a b : Nat} (hx : x = nI a) (hy : y = nI b) (ha : a < 2 ^ 31) (h0 : 0 < b) (hb : b < 2 ^ 31) : xb_irem x y = nI (a % b) := by rw [hx, hy]; exact pk_rem ha h0 hb
theorem xb_in {x : Int32} {n N : Nat} (h : x = nI n) (hn : n < N) (hN : N < 2 ^ 31) : vp_in x N := by rw [h]; exact vp_in_nI hn hN
theorem xb_cl {x : Int32} {n : Nat} (h : x = nI n) (hn : n < 2 ^ 31) : x.toNatClampNeg = n := by rw [h]; exact nI_clamp hn
theorem xb_leN {x y : Int32} {a b : Nat} (hx : x = nI a) (hy : y = nI b) (ha : a < 2 ^ 31) (hb : b < 2 ^ 31) : x ≤ y ↔ a ≤ b := by rw [hx, hy]; exact nI_leI ha hb
theorem xb_ltN {x y : Int32} {a b : Nat} (hx : x = nI a) (hy : y = nI b) (ha : a < 2 ^ 31) (hb : b < 2 ^ 31) : x < y ↔ a < b := by rw [hx, hy]; exact nI_ltI ha hb
theorem xb_eqN {x y : Int32} {a b : Nat} (hx : x = nI a) (hy : y = nI b) (ha : a < 2 ^ 31) (hb : b < 2 ^ 31) : x = y ↔ a = b := by rw [hx, hy]; exact nI_eq ha hb
theorem xb_nneg {x : Int32} {a : Nat} (hx : x = nI a) (ha : a < 2 ^ 31) : ¬ x < 0 := by rw [hx]; exact nI_pos ha
theorem xb_lit (n : Nat) {x : Int32} (h : x = nI n) : x = nI n := h
