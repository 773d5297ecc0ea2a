/-! Program and reference: their functions without cells agree. -/
theorem k_mix : f_mix = g_mix := rfl
theorem k_power : f_power = g_power := rfl
theorem k_isShare : f_isShare = g_isShare := rfl
theorem k_group (x : Int64) : f_isGroup x = g_isPart x := by
  unfold f_isGroup g_isPart
  have e : ((2147483647 : Int64) ≤ x) ↔ ((2147483646 : Int64) < x) := by
    rw [Int64.le_iff_toInt_le, Int64.lt_iff_toInt_lt]
    have h1 : (2147483647 : Int64).toInt = 2147483647 := rfl
    have h2 : (2147483646 : Int64).toInt = 2147483646 := rfl
    omega
  simp only [e]
theorem k_verifies (a b c d : Int64) : f_verifies a b c d = g_verifies a b c d := by
  unfold f_verifies g_verifies
  simp only [k_group]
  rfl
theorem k_range {x : Int64} (h1 : ¬ x < 1) (h2 : x < 512) : ∃ n : Nat, n < 512 ∧ x = Int64.ofNat n := by
  rw [Int64.lt_iff_toInt_lt] at h1 h2
  have e1 : (1 : Int64).toInt = 1 := rfl
  have e2 : (512 : Int64).toInt = 512 := rfl
  refine ⟨x.toInt.toNat, by omega, ?_⟩
  apply Int64.toInt_inj.mp
  rw [Int64.toInt_ofNat_of_lt (by omega)]
  omega
def k_all (P : Int64 → Bool) : Nat → Bool
  | 0 => true
  | n + 1 => P (Int64.ofNat n) && k_all P n
theorem k_all_at {P : Int64 → Bool} : ∀ {N : Nat}, k_all P N = true → ∀ n, n < N → P (Int64.ofNat n) = true := by
  intro N
  induction N with
  | zero => intro _ n hn; omega
  | succ N ih =>
    intro h n hn
    rw [k_all, Bool.and_eq_true] at h
    by_cases e : n = N
    · subst e; exact h.1
    · exact ih h.2 n (by omega)
theorem k_lists_dec : k_all (fun x => f_isList x == g_isList x) 512 = true := by decide +kernel
theorem k_isList (x : Int64) : f_isList x = g_isList x := by
  by_cases h1 : x < 1
  · unfold f_isList g_isList
    rw [if_pos h1, if_pos h1]
  · by_cases h2 : x < 512
    · obtain ⟨n, hn, rfl⟩ := k_range h1 h2
      exact eq_of_beq (k_all_at k_lists_dec n hn)
    · have h3 : ¬ x ≤ 511 := by
        rw [Int64.lt_iff_toInt_lt] at h2
        rw [Int64.le_iff_toInt_le]
        have e1 : (511 : Int64).toInt = 511 := rfl
        have e2 : (512 : Int64).toInt = 512 := rfl
        omega
      unfold f_isList g_isList
      rw [if_neg h1, if_neg h2, if_neg h1, if_neg h3]
def k_L : List Int64 := (List.range 512).filterMap (fun n => if f_isList (Int64.ofNat n) = 0 then none else some (Int64.ofNat n))
theorem k_L_mem {x : Int64} (h : ¬ f_isList x = 0) : x ∈ k_L := by
  have h1 : ¬ x < 1 := fun q => h (by unfold f_isList; rw [if_pos q])
  have h2 : x < 512 := by
    by_cases q : x < 512
    · exact q
    · exact absurd (by unfold f_isList; rw [if_neg h1, if_neg q]) h
  obtain ⟨n, hn, rfl⟩ := k_range h1 h2
  exact List.mem_filterMap.mpr ⟨n, List.mem_range.mpr hn, by rw [if_neg h]⟩
theorem k_first_dec : k_L.all (fun x => k_L.all (fun y => f_first x y == g_common x y)) = true := by decide +kernel
theorem k_first {x y : Int64} (hx : ¬ f_isList x = 0) (hy : ¬ f_isList y = 0) : f_first x y = g_common x y := by
  have h := List.all_eq_true.mp (List.all_eq_true.mp k_first_dec x (k_L_mem hx)) y (k_L_mem hy)
  exact eq_of_beq h
theorem k_first0 {x y : Int64} (h : f_isList x = 0 ∨ f_isList y = 0) : f_first x y = 0 := by
  unfold f_first
  by_cases hx : f_isList x = 0
  · rw [if_pos hx]
  · rw [if_neg hx, if_pos (h.resolve_left hx)]
