/-! The first states. -/
def lw_z0 : xb_St := (fun K => if K = 5 then (fun j => if j = 2 then 1 else if j = 11 then 1 else if j = 12 then 1 else if j = 13 then 2 else 0) else if K = 20 then (fun j => if j = 2 then 2 else if j = 11 then 1 else if j = 12 then 1 else if j = 13 then 3 else if j = 17 then 5 else 0) else if K = 15 then (fun j => if j = 0 then 1 else 0) else if K = 16 then (fun j => if j = 0 then 2 else 0) else if K = 30 then (fun j => if j = 0 then 1 else 0) else if K = 31 then (fun j => if j = 0 then 2 else 0) else fun _ => 0, fun _ _ => 0)
def lw_y0 : xb_St := (fun K => if K = 1 then upd (upd (fun _ => 0) 0 (1 : Int32)) 1 (1 : Int32) else if K = 2 then upd (upd (fun _ => 0) 0 (1 : Int32)) 1 (1 : Int32) else if K = 3 then upd (upd (fun _ => 0) 0 (2 : Int32)) 1 (3 : Int32) else fun _ => 0, fun K => if K = 0 then (fun j => if j = 4 then 5 else 0) else fun _ => 0)
theorem lw_c0 : ∀ C q c, rQ C q c → rC C q c lw_z0 lw_y0 := by
  intro C q c h
  rcases h with ⟨rfl, rfl, rfl⟩ | ⟨rfl, rfl, rfl⟩ | ⟨rfl, rfl, rfl⟩ | ⟨rfl, rfl, rfl⟩ | ⟨rfl, rfl, rfl⟩ | ⟨rfl, rfl, rfl⟩
  all_goals exact ⟨by decide +kernel, by decide +kernel, by decide +kernel, by decide +kernel, by decide +kernel, by decide +kernel, by decide +kernel, ⟨0, 0, 0, 0, by decide, by decide, by decide +kernel, by decide +kernel, by decide +kernel, by decide +kernel, fun i hi => absurd hi (Nat.not_lt_zero i)⟩, by decide +kernel⟩
theorem lw_rel0 : Rel lw_z0 lw_y0 := ⟨⟨0, by decide, by decide +kernel, by decide +kernel, fun k hk => absurd hk (Nat.not_lt_zero k)⟩, ⟨0, by decide, by decide +kernel, by decide +kernel, fun k hk => absurd hk (Nat.not_lt_zero k)⟩, by decide +kernel, by decide +kernel, lw_c0 _ _ _ (by decide), lw_c0 _ _ _ (by decide), lw_c0 _ _ _ (by decide), lw_c0 _ _ _ (by decide), lw_c0 _ _ _ (by decide), lw_c0 _ _ _ (by decide), by decide +kernel, by decide +kernel⟩
/-- an array of references, named otherwise within its length -/
theorem lw_arr {D : va_G} {cl : List vw_C} {ws : va_W} {H : Heap} (h : va_P D cl ws H) (k : Nat) {a n : Nat} {cA : ClassId} {f f' : Nat → Option Nat} (hk : ws[k]? = some (a, .inl (cA, n, .inr (.inr (.inr (.inr f)))))) (he : ∀ j, j < n → f j = f' j) : va_P D cl (ws.set k (a, .inl (cA, n, .inr (.inr (.inr (.inr f')))))) H := by
  intro k' q hq
  by_cases hkk : k = k'
  · subst hkk
    have hlt : k < ws.length := (List.getElem?_eq_some_iff.mp hk).1
    rw [List.getElem?_set_self hlt] at hq
    cases hq
    have h1 : H[a]? = some (vp_cell cA (n, .inr (.inr (.inr (.inr f))))) := h k _ hk
    show H[a]? = some (vp_cell cA (n, .inr (.inr (.inr (.inr f')))))
    rw [h1, vp_cell_q, vp_cell_q]
    unfold arrV
    congr 2
    apply Array.ext
    · simp
    · intro j hj1 hj2
      have hjn : j < n := by simpa using hj1
      simp [he j hjn]
  · rw [List.getElem?_set_ne hkk] at hq
    exact h k' q hq
theorem lw_inj {A : Nat → Prop} {ws : va_W} {β : Nat → Nat} {n : Nat} (hD : va_D A ws) (hw : ws.map (fun q => q.1) = (List.range n).map β) : xb_inj β n ∧ ∀ k, k < n → A (β k) := by
  have hk : ∀ k, k < n → ∃ q : Nat × va_E, ws[k]? = some q ∧ q.1 = β k := by
    intro k hkn
    have h1 : (ws.map (fun q => q.1))[k]? = some (β k) := by rw [hw, List.getElem?_map, List.getElem?_range hkn]; rfl
    rw [List.getElem?_map] at h1
    rcases e : ws[k]? with _ | q
    · rw [e] at h1; exact nomatch h1
    · rw [e] at h1; exact ⟨q, rfl, Option.some.inj h1⟩
  refine ⟨fun i j hi hj h => ?_, fun k hkn => ?_⟩
  · obtain ⟨p, h1, h2⟩ := hk i hi
    obtain ⟨q, h3, h4⟩ := hk j hj
    exact hD.1 i j p q h1 h3 (by rw [h2, h4]; exact h)
  · obtain ⟨q, h1, h2⟩ := hk k hkn
    rw [← h2]; exact hD.2 k q h1
def lw_al (L : List Nat) : Nat → Nat := fun k => L.getD k 0
def lw_ak (c0 : ClassId) (L : List ClassId) : Nat → ClassId := fun k => L.getD k c0
def lw_ap (α μ : Nat → Nat) (oa : Nat) : Prop := xb_inj α 35 ∧ xb_inj μ 35 ∧ ¬ xb_A α 35 oa ∧ ¬ xb_A μ 35 oa ∧ ∀ q, xb_A α 35 q → ¬ xb_A μ 35 q
def lw_in (A : Nat → Prop) (α μ : Nat → Nat) (oa : Nat) : Prop := (∀ q, xb_A α 35 q → A q) ∧ (∀ q, xb_A μ 35 q → A q) ∧ A oa
theorem lw_alA {p m : List Nat} {o : Nat} (hp : p.length = 35) (hm : m.length = 35) : (∀ k, k < 35 → lw_al (p ++ m ++ [o]) k = lw_al p k) ∧ (∀ k, k < 35 → lw_al (p ++ m ++ [o]) (35 + k) = lw_al m k) ∧ lw_al (p ++ m ++ [o]) 70 = o := by
  refine ⟨fun k hk => ?_, fun k hk => ?_, ?_⟩
  · unfold lw_al
    rw [List.getD_eq_getElem?_getD, List.getD_eq_getElem?_getD, List.append_assoc, List.getElem?_append_left (by omega)]
  · unfold lw_al
    rw [List.getD_eq_getElem?_getD, List.getD_eq_getElem?_getD, List.append_assoc, List.getElem?_append_right (by omega), List.getElem?_append_left (by omega), hp, Nat.add_sub_cancel_left]
  · unfold lw_al
    rw [List.getD_eq_getElem?_getD, List.append_assoc, List.getElem?_append_right (by omega), List.getElem?_append_right (by omega), hp, hm]
    rfl
/-- apart: the program's cells, the reference's, and the one for an answer -/
theorem lw_apart0 {p m : List Nat} {o : Nat} (hp : p.length = 35) (hm : m.length = 35) (h : xb_inj (lw_al (p ++ m ++ [o])) 71) : lw_ap (lw_al p) (lw_al m) o := by
  obtain ⟨e1, e2, e3⟩ := lw_alA (o := o) hp hm
  refine ⟨fun i j hi hj e => ?_, fun i j hi hj e => ?_, fun z => ?_, fun z => ?_, fun q z1 z2 => ?_⟩
  · exact h i j (by omega) (by omega) (by rw [e1 i hi, e1 j hj]; exact e)
  · have := h (35 + i) (35 + j) (by omega) (by omega) (by rw [e2 i hi, e2 j hj]; exact e); omega
  · obtain ⟨k, hk, e⟩ := z
    have := h 70 k (by omega) (by omega) (by rw [e3, e1 k hk]; exact e); omega
  · obtain ⟨k, hk, e⟩ := z
    have := h 70 (35 + k) (by omega) (by omega) (by rw [e3, e2 k hk]; exact e); omega
  · obtain ⟨k, hk, f1⟩ := z1
    obtain ⟨k2, hk2, f2⟩ := z2
    have := h k (35 + k2) (by omega) (by omega) (by rw [e1 k hk, e2 k2 hk2]; exact f1.symm.trans f2); omega
theorem lw_apA0 {A : Nat → Prop} {p m : List Nat} {o : Nat} (hp : p.length = 35) (hm : m.length = 35) (h : ∀ k, k < 71 → A (lw_al (p ++ m ++ [o]) k)) : lw_in A (lw_al p) (lw_al m) o := by
  obtain ⟨e1, e2, e3⟩ := lw_alA (o := o) hp hm
  refine ⟨fun q z => ?_, fun q z => ?_, ?_⟩
  · obtain ⟨k, hk, rfl⟩ := z
    rw [← e1 k hk]; exact h k (by omega)
  · obtain ⟨k, hk, rfl⟩ := z
    rw [← e2 k hk]; exact h (35 + k) (by omega)
  · have h1 := h 70 (by decide)
    rw [e3] at h1; exact h1
def lw_kP (k3 k4 k13 k17 k18 k19 k28 k32 k33 k34 : ClassId) : Nat → ClassId := fun k => if k = 3 then k3 else if k = 4 then k4 else if k = 13 then k13 else if k = 17 then k17 else if k = 18 then k18 else if k = 19 then k19 else if k = 28 then k28 else if k = 32 then k32 else if k = 33 then k33 else k34
def lw_kM (k1 k2 k3 k4 k5 k6 k7 k8 k9 k10 k11 k12 k13 k14 k15 k16 k17 k18 k19 k20 k21 k22 k23 k24 k25 k26 k27 k28 k29 k30 k31 k32 k33 k34 : ClassId) : Nat → ClassId := fun k => if k = 1 then k1 else if k = 2 then k2 else if k = 3 then k3 else if k = 4 then k4 else if k = 5 then k5 else if k = 6 then k6 else if k = 7 then k7 else if k = 8 then k8 else if k = 9 then k9 else if k = 10 then k10 else if k = 11 then k11 else if k = 12 then k12 else if k = 13 then k13 else if k = 14 then k14 else if k = 15 then k15 else if k = 16 then k16 else if k = 17 then k17 else if k = 18 then k18 else if k = 19 then k19 else if k = 20 then k20 else if k = 21 then k21 else if k = 22 then k22 else if k = 23 then k23 else if k = 24 then k24 else if k = 25 then k25 else if k = 26 then k26 else if k = 27 then k27 else if k = 28 then k28 else if k = 29 then k29 else if k = 30 then k30 else if k = 31 then k31 else if k = 32 then k32 else if k = 33 then k33 else k34
