/-! The first states. -/
def lw_z0 : xb_St := (fun K => if K = 5 then (fun j => if j = 2 then 1 else if j = 11 then 1 else if j = 12 then 1 else if j = 13 then 2 else 0) else if K = 20 then (fun j => if j = 2 then 2 else if j = 11 then 1 else if j = 12 then 1 else if j = 13 then 3 else if j = 17 then 5 else 0) else if K = 15 then (fun j => if j = 0 then 1 else 0) else if K = 16 then (fun j => if j = 0 then 2 else 0) else if K = 30 then (fun j => if j = 0 then 1 else 0) else if K = 31 then (fun j => if j = 0 then 2 else 0) else fun _ => 0, fun _ _ => 0)
def lw_y0 : xb_St := (fun K => if K = 1 then upd (upd (fun _ => 0) 0 (1 : Int32)) 1 (1 : Int32) else if K = 2 then upd (upd (fun _ => 0) 0 (1 : Int32)) 1 (1 : Int32) else if K = 3 then upd (upd (fun _ => 0) 0 (2 : Int32)) 1 (3 : Int32) else fun _ => 0, fun K => if K = 0 then (fun j => if j = 4 then 5 else 0) else fun _ => 0)
theorem lw_c0 : ∀ C q c, rQ C q c → rC C q c lw_z0 lw_y0 := by
  intro C q c h
  rcases h with ⟨rfl, rfl, rfl⟩ | ⟨rfl, rfl, rfl⟩ | ⟨rfl, rfl, rfl⟩ | ⟨rfl, rfl, rfl⟩ | ⟨rfl, rfl, rfl⟩ | ⟨rfl, rfl, rfl⟩
  all_goals exact ⟨by decide +kernel, by decide +kernel, by decide +kernel, by decide +kernel, by decide +kernel, by decide +kernel, by decide +kernel, ⟨0, 0, 0, 0, by decide, by decide, by decide +kernel, by decide +kernel, by decide +kernel, by decide +kernel, fun i hi => absurd hi (Nat.not_lt_zero i)⟩, by decide +kernel⟩
theorem lw_rel0 : Rel lw_z0 lw_y0 := ⟨⟨0, by decide, by decide +kernel, by decide +kernel, fun k hk => absurd hk (Nat.not_lt_zero k)⟩, ⟨0, by decide, by decide +kernel, by decide +kernel, fun k hk => absurd hk (Nat.not_lt_zero k)⟩, by decide +kernel, by decide +kernel, lw_c0 _ _ _ (by decide), lw_c0 _ _ _ (by decide), lw_c0 _ _ _ (by decide), lw_c0 _ _ _ (by decide), lw_c0 _ _ _ (by decide), lw_c0 _ _ _ (by decide), by decide +kernel, by decide +kernel⟩
/-- an array of references, named otherwise within its length -/
theorem lw_arr {D : va_G} {cl : List vw_C} {ws : va_W} {H : Heap} (h : va_P D cl ws H) (k : Nat) {a n : Nat} {cA : ClassId} {f f' : Nat → Option Nat} (hk : ws[k]? = some (a, .inl (cA, n, .inr (.inr (.inr (.inr f)))))) (he : ∀ j, j < n → f j = f' j) : va_P D cl (ws.set k (a, .inl (cA, n, .inr (.inr (.inr (.inr f')))))) H := by
  intro k' q hq
  by_cases hkk : k = k'
  · subst hkk
    have hlt : k < ws.length := (List.getElem?_eq_some_iff.mp hk).1
    rw [List.getElem?_set_self hlt] at hq
    cases hq
    have h1 : H[a]? = some (vp_cell cA (n, .inr (.inr (.inr (.inr f))))) := h k _ hk
    show H[a]? = some (vp_cell cA (n, .inr (.inr (.inr (.inr f')))))
    rw [h1, vp_cell_q, vp_cell_q]
    unfold arrV
    congr 2
    apply Array.ext
    · simp
    · intro j hj1 hj2
      have hjn : j < n := by simpa using hj1
      simp [he j hjn]
  · rw [List.getElem?_set_ne hkk] at hq
    exact h k' q hq
theorem lw_inj {A : Nat → Prop} {ws : va_W} {β : Nat → Nat} {n : Nat} (hD : va_D A ws) (hw : ws.map (fun q => q.1) = (List.range n).map β) : xb_inj β n ∧ ∀ k, k < n → A (β k) := by
  have hk : ∀ k, k < n → ∃ q : Nat × va_E, ws[k]? = some q ∧ q.1 = β k := by
    intro k hkn
    have h1 : (ws.map (fun q => q.1))[k]? = some (β k) := by rw [hw, List.getElem?_map, List.getElem?_range hkn]; rfl
    rw [List.getElem?_map] at h1
    rcases e : ws[k]? with _ | q
    · rw [e] at h1; exact nomatch h1
    · rw [e] at h1; exact ⟨q, rfl, Option.some.inj h1⟩
  refine ⟨fun i j hi hj h => ?_, fun k hkn => ?_⟩
  · obtain ⟨p, h1, h2⟩ := hk i hi
    obtain ⟨q, h3, h4⟩ := hk j hj
    exact hD.1 i j p q h1 h3 (by rw [h2, h4]; exact h)
  · obtain ⟨q, h1, h2⟩ := hk k hkn
    rw [← h2]; exact hD.2 k q h1
def lw_al (L : List Nat) : Nat → Nat := fun k => L.getD k 0
def lw_ak (c0 : ClassId) (L : List ClassId) : Nat → ClassId := fun k => L.getD k c0
def lw_pi : Nat → Nat := lw_al [0, 1, 3, 2, 4, 5, 6, 7, 8, 9, 10, 11, 12, 13, 14, 16, 18, 15, 17, 19, 20, 21, 22, 23, 24, 25, 26, 27, 28, 29, 31, 33, 30, 32, 34]
theorem lw_pi_lt : ∀ k, k < 35 → lw_pi k < 35 := by decide +kernel
theorem lw_pi_inj : ∀ i, i < 35 → ∀ j, j < 35 → lw_pi i = lw_pi j → i = j := by decide +kernel
/-- apart: the program's cells, the reference's, and the one for an answer -/
theorem lw_apart {β : Nat → Nat} (h : xb_inj β 71) : xb_inj (fun k => β (lw_pi k)) 35 ∧ xb_inj (fun k => β (35 + k)) 35 ∧ ¬ xb_A (fun k => β (lw_pi k)) 35 (β 70) ∧ ¬ xb_A (fun k => β (35 + k)) 35 (β 70) ∧ ∀ q, xb_A (fun k => β (lw_pi k)) 35 q → ¬ xb_A (fun k => β (35 + k)) 35 q := by
  refine ⟨fun i j hi hj e => lw_pi_inj i hi j hj (h _ _ (by have := lw_pi_lt i hi; omega) (by have := lw_pi_lt j hj; omega) e), fun i j hi hj e => ?_, fun z => ?_, fun z => ?_, fun q z1 z2 => ?_⟩
  · have := h (35 + i) (35 + j) (by omega) (by omega) e; omega
  · obtain ⟨k, hk, e⟩ := z
    have h1 := lw_pi_lt k hk
    have := h 70 (lw_pi k) (by omega) (by omega) e; omega
  · obtain ⟨k, hk, e⟩ := z
    have := h 70 (35 + k) (by omega) (by omega) e; omega
  · obtain ⟨k, hk, e1⟩ := z1
    obtain ⟨k2, hk2, e2⟩ := z2
    have h1 := lw_pi_lt k hk
    have := h (lw_pi k) (35 + k2) (by omega) (by omega) (e1.symm.trans e2); omega
