section LWL
variable {p : Program} {l : Launch} {e : Env} {s : State} {m : MethodId} {below : List Frame} {meth : Method} {c : Code} {H : Heap} {locs : List Loc} {cells slots : Nat} {Q : State → Prop}
variable {pc : Nat} {ls : Array Slot} {rest st0 : List Value} {b L : Nat} {xs : Nat → Int32} {D : va_G} {α : Nat → Nat} {κ : Nat → ClassId} {μ : Nat → Nat} {ν : Nat → ClassId} {oa : Nat} {ko : ClassId} {σ τ : xb_St} {g : Nat → Int64} {i : Nat}
theorem lw_cmp {i L : Nat} (hi : i < 2 ^ 30) (hL : L < 2 ^ 30) : (nI L - 7 < nI i) ↔ L < i + 7 := by
  have e7 : (7 : Int32) = nI 7 := rfl
  rw [Int32.lt_iff_toInt_lt, e7, pk_sub_toInt hL (by decide), nI_toInt (by omega)]
  omega
set_option maxHeartbeats 4000000 in
set_option maxRecDepth 100000 in
theorem lw_disp (F : lw_F p l s m c b L xs D α κ μ ν oa ko) (I : lw_I D α κ μ ν oa ko s H locs σ τ g) (hl : lv_has ls 7 (lw_ls b α μ oa i)) (hi : i + 7 ≤ L) (hcl : cells + 1 ≤ 601024) (hsl : slots + 6 ≤ 7293034) (kk : ∀ (H : Heap) (locs : List Loc) (σ τ : xb_St) (g : Nat → Int64) (ls : Array Slot), lw_I D α κ μ ν oa ko s H locs σ τ g → lv_has ls 7 (lw_ls b α μ oa i) → W p l e room_1 s m #[Value.ref b] below meth c H locs (cells + 1) (slots + 6) Q (F0 m 1196 ls [])) : W p l e room_1 s m #[Value.ref b] below meth c H locs cells slots Q (F0 m 33 ls []) := by
  obtain ⟨⟨hx, hb, -⟩, ⟨hX, hbl, hL⟩, -⟩ := id F
  have hS := I.2.2.2
  refine lv_aload_n hx hb d_lw_33 rfl (lv_at hl 0 rfl) ?_
  refine lv_iload hx hb d_lw_34 (lv_at hl 4 rfl) ?_
  refine va_sld hx hb hX hbl (Nat.not_le.mpr hbl) hS (xb_in (x := nI i) rfl (by omega) (by omega)) d_lw_36 ?_
  refine lv_bipush (v := 31) hx hb d_lw_37 (by decide) ?_
  refine lv_iand hx hb d_lw_39 ?_
  generalize xs (nI i).toNatClampNeg = x0
  obtain ⟨j, hj, ej⟩ := pk_andE x0 (m := 31) 5 (by decide)
  refine xb_ti ej ?_
  rcases (show j = 0 ∨ j = 1 ∨ j = 2 ∨ j = 3 ∨ j = 4 ∨ j = 5 ∨ j = 6 ∨ j = 7 ∨ j = 8 ∨ j = 9 ∨ j = 10 ∨ j = 11 ∨ j = 12 ∨ j = 13 ∨ j = 14 ∨ j = 15 ∨ j = 16 ∨ j = 17 ∨ j = 18 ∨ j = 19 ∨ j = 20 ∨ j = 21 ∨ 22 ≤ j by omega) with rfl | rfl | rfl | rfl | rfl | rfl | rfl | rfl | rfl | rfl | rfl | rfl | rfl | rfl | rfl | rfl | rfl | rfl | rfl | rfl | rfl | rfl | h
  · exact lv_tableIn (off := 104) (tgt := 144) hx hb d_lw_40 (by decide) (by decide) (by decide) (by decide) (lw_k0 F I hl hi hcl hsl kk)
  · exact lv_tableIn (off := 153) (tgt := 193) hx hb d_lw_40 (by decide) (by decide) (by decide) (by decide) (lw_k1 F I hl hi hcl hsl kk)
  · exact lv_tableIn (off := 190) (tgt := 230) hx hb d_lw_40 (by decide) (by decide) (by decide) (by decide) (lw_k2 F I hl hi hcl hsl kk)
  · exact lv_tableIn (off := 215) (tgt := 255) hx hb d_lw_40 (by decide) (by decide) (by decide) (by decide) (lw_k3 F I hl hi hcl hsl kk)
  · exact lv_tableIn (off := 238) (tgt := 278) hx hb d_lw_40 (by decide) (by decide) (by decide) (by decide) (lw_k4 F I hl hi hcl hsl kk)
  · exact lv_tableIn (off := 294) (tgt := 334) hx hb d_lw_40 (by decide) (by decide) (by decide) (by decide) (lw_k5 F I hl hi hcl hsl kk)
  · exact lv_tableIn (off := 350) (tgt := 390) hx hb d_lw_40 (by decide) (by decide) (by decide) (by decide) (lw_k6 F I hl hi hcl hsl kk)
  · exact lv_tableIn (off := 406) (tgt := 446) hx hb d_lw_40 (by decide) (by decide) (by decide) (by decide) (lw_k7 F I hl hi hcl hsl kk)
  · exact lv_tableIn (off := 530) (tgt := 570) hx hb d_lw_40 (by decide) (by decide) (by decide) (by decide) (lw_k8 F I hl hi hcl hsl kk)
  · exact lv_tableIn (off := 598) (tgt := 638) hx hb d_lw_40 (by decide) (by decide) (by decide) (by decide) (lw_k9 F I hl hi hcl hsl kk)
  · exact lv_tableIn (off := 666) (tgt := 706) hx hb d_lw_40 (by decide) (by decide) (by decide) (by decide) (lw_k10 F I hl hi hcl hsl kk)
  · exact lv_tableIn (off := 703) (tgt := 743) hx hb d_lw_40 (by decide) (by decide) (by decide) (by decide) (lw_k11 F I hl hi hcl hsl kk)
  · exact lv_tableIn (off := 728) (tgt := 768) hx hb d_lw_40 (by decide) (by decide) (by decide) (by decide) (lw_k12 F I hl hi hcl hsl kk)
  · exact lv_tableIn (off := 753) (tgt := 793) hx hb d_lw_40 (by decide) (by decide) (by decide) (by decide) (lw_k13 F I hl hi hcl hsl kk)
  · exact lv_tableIn (off := 778) (tgt := 818) hx hb d_lw_40 (by decide) (by decide) (by decide) (by decide) (lw_k14 F I hl hi hcl hsl kk)
  · exact lv_tableIn (off := 905) (tgt := 945) hx hb d_lw_40 (by decide) (by decide) (by decide) (by decide) (lw_k15 F I hl hi hcl hsl kk)
  · exact lv_tableIn (off := 954) (tgt := 994) hx hb d_lw_40 (by decide) (by decide) (by decide) (by decide) (lw_k16 F I hl hi hcl hsl kk)
  · exact lv_tableIn (off := 980) (tgt := 1020) hx hb d_lw_40 (by decide) (by decide) (by decide) (by decide) (lw_k17 F I hl hi hcl hsl kk)
  · exact lv_tableIn (off := 1006) (tgt := 1046) hx hb d_lw_40 (by decide) (by decide) (by decide) (by decide) (lw_k18 F I hl hi hcl hsl kk)
  · exact lv_tableIn (off := 1043) (tgt := 1083) hx hb d_lw_40 (by decide) (by decide) (by decide) (by decide) (lw_k19 F I hl hi hcl hsl kk)
  · exact lv_tableIn (off := 1081) (tgt := 1121) hx hb d_lw_40 (by decide) (by decide) (by decide) (by decide) (lw_k20 F I hl hi hcl hsl kk)
  · exact lv_tableIn (off := 1131) (tgt := 1171) hx hb d_lw_40 (by decide) (by decide) (by decide) (by decide) (lw_k21 F I hl hi hcl hsl kk)
  · refine lv_tableOut (tgt := 1196) hx hb d_lw_40 (Or.inr (by rw [nI_toInt (by omega)]; omega)) (by decide) ?_
    refine W.widen (k := cells + 1) (n := slots + 6) (by omega) (by omega) ?_
    exact kk _ _ _ _ _ _ I hl
theorem lw_head (F : lw_F p l s m c b L xs D α κ μ ν oa ko) (hS : va_S (lw_A s) s.heap H locs) (hl : lv_has ls 7 (lw_ls b α μ oa i)) (hi : i < 2 ^ 30) (kt : L < i + 7 → W p l e room_1 s m #[Value.ref b] below meth c H locs cells slots Q (F0 m 1202 ls [])) (kf : i + 7 ≤ L → W p l e room_1 s m #[Value.ref b] below meth c H locs cells slots Q (F0 m 33 ls [])) : W p l e room_1 s m #[Value.ref b] below meth c H locs cells slots Q (F0 m 23 ls []) := by
  obtain ⟨⟨hx, hb, -⟩, ⟨hX, hbl, hL⟩, -⟩ := id F
  refine lv_iload hx hb d_lw_23 (lv_at hl 4 rfl) ?_
  refine lv_aload_n hx hb d_lw_25 rfl (lv_at hl 0 rfl) ?_
  refine va_slen hx hb hX hbl (Nat.not_le.mpr hbl) hS d_lw_26 ?_
  refine lv_bipush (v := 7) hx hb d_lw_27 (by decide) ?_
  refine lv_isub hx hb d_lw_29 ?_
  refine lv_icmp_gt (tgt := 1202) hx hb d_lw_30 (by decide) (fun z => kt ?_) (fun z => kf ?_)
  · exact (lw_cmp (i := i) (L := L) hi (by omega)).mp z
  · exact Nat.not_lt.mp (fun q => z ((lw_cmp (i := i) (L := L) hi (by omega)).mpr q))
theorem lw_loop (F : lw_F p l s m c b L xs D α κ μ ν oa ko) (fin : ∀ (H : Heap) (locs : List Loc) (cells slots : Nat) (ls : Array Slot), va_S (lw_A s) s.heap H locs → cells ≤ 601024 → slots ≤ 7293034 → W p l e room_1 s m #[Value.ref b] below meth c H locs cells slots Q (F0 m 1202 ls [])) : ∀ (n i : Nat) (H : Heap) (locs : List Loc) (cells slots : Nat) (σ τ : xb_St) (g : Nat → Int64) (ls : Array Slot), L < i + 7 * n + 7 → i < 2 ^ 29 → n < 2 ^ 20 → i + 7 * n < 2 ^ 29 → cells + n ≤ 601024 → slots + 6 * n ≤ 7293034 → lw_I D α κ μ ν oa ko s H locs σ τ g → lv_has ls 7 (lw_ls b α μ oa i) → W p l e room_1 s m #[Value.ref b] below meth c H locs cells slots Q (F0 m 23 ls []) := by
  intro n
  induction n with
  | zero =>
    intro i H locs cells slots σ τ g ls h1 h2 h3 h4 h5 h6 I hl
    exact lw_head F I.2.2.2 hl (by omega) (fun _ => fin _ _ _ _ _ I.2.2.2 (by omega) (by omega)) (fun z => absurd z (by omega))
  | succ n ih =>
    intro i H locs cells slots σ τ g ls h1 h2 h3 h4 h5 h6 I hl
    refine lw_head F I.2.2.2 hl (by omega) (fun _ => fin _ _ _ _ _ I.2.2.2 (by omega) (by omega)) (fun z => ?_)
    refine lw_disp F I hl z (by omega) (by omega) (fun H locs σ τ g ls I hl => ?_)
    refine lw_back F hl (fun ls hl => ?_)
    exact ih (i + 7) H locs (cells + 1) (slots + 6) σ τ g ls (by omega) (by omega) (by omega) (by omega) (by omega) (by omega) I hl
end LWL
