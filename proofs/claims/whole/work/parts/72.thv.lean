theorem th_P_begin_v (Z : Nat) (x1 : Int32) (σ : xb_St) (h0 : ¬ th_P_begin Z x1 σ = 0) (h1 : ¬ th_P_begin Z x1 σ = 1) : th_P_begin Z x1 σ = 2 := by
  unfold th_P_begin th_P_endpointOrThrow at *
  generalize p_endpointOf Z x1 σ = o1 at *
  generalize p_eot Z x1 σ = o2 at *
  rcases o1 with _ | K <;> rcases o2 with _ | K1 <;> simp_all [xb_om]
theorem th_P_deliver_v (Z : Nat) (x1 : Int32) (σ : xb_St) (h0 : ¬ th_P_deliver Z x1 σ = 0) : th_P_deliver Z x1 σ = 1 := by
  unfold th_P_deliver th_P_endpointOrThrow at *
  generalize p_endpointOf Z x1 σ = o1 at *
  rcases o1 with _ | K <;> simp_all [xb_om]
theorem th_P_open_v (Z : Nat) (x1 : Int32) (σ : xb_St) (h0 : ¬ th_P_open Z x1 σ = 0) (h1 : ¬ th_P_open Z x1 σ = 1) (h2 : ¬ th_P_open Z x1 σ = 2) : th_P_open Z x1 σ = 3 := by
  unfold th_P_open th_P_endpointOrThrow at *
  generalize p_endpointOf Z x1 σ = o1 at *
  generalize p_eot Z x1 σ = o2 at *
  rcases o1 with _ | K <;> rcases o2 with _ | K1 <;> simp_all [xb_om]
  split at * <;> simp_all
theorem th_P_read_v (Z : Nat) (x1 x2 : Int32) (σ : xb_St) (h0 : ¬ th_P_read Z x1 x2 σ = 0) : th_P_read Z x1 x2 σ = 1 := by
  unfold th_P_read th_P_endpointOrThrow th_P_channelOrThrow at *
  generalize p_endpointOf Z x1 σ = o1 at *
  generalize p_eot Z x1 σ = o2 at *
  rcases o1 with _ | K <;> rcases o2 with _ | K1 <;> simp_all [xb_om]
  generalize p_channelAt K1 x2.toInt64 σ = o3 at *
  rcases o3 with _ | K2 <;> simp_all
theorem th_u (B : Nat) (x2 : Int32) (σ : xb_St) : th_P_usableOrThrow B x2 σ = 0 ∨ th_P_usableOrThrow B x2 σ = 1 ∨ th_P_usableOrThrow B x2 σ = 2 := by
  unfold th_P_usableOrThrow th_P_channelOrThrow
  rcases p_channelAt B x2.toInt64 σ with _ | K2
  · simp [xb_om]
  · simp only [xb_om, if_true]
    rcases p_cot B x2 σ with _ | K
    · simp
    · simp only []
      split <;> simp
theorem th_P_close_v (Z : Nat) (x1 x2 : Int32) (σ : xb_St) (h0 : ¬ th_P_close Z x1 x2 σ = 0) (h1 : ¬ th_P_close Z x1 x2 σ = 1) : th_P_close Z x1 x2 σ = 2 := by
  unfold th_P_close th_P_endpointOrThrow at *
  generalize p_endpointOf Z x1 σ = o1 at *
  generalize p_eot Z x1 σ = o2 at *
  rcases o1 with _ | K <;> rcases o2 with _ | K1 <;> simp_all [xb_om]
  rcases th_u K1 x2 σ with u | u | u <;> simp_all
theorem th_P_write_v (Z : Nat) (x1 x2 : Int32) (x3 : Int64) (x4 : Int32) (σ : xb_St) (h0 : ¬ th_P_write Z x1 x2 x3 x4 σ = 0) (h1 : ¬ th_P_write Z x1 x2 x3 x4 σ = 1) (h2 : ¬ th_P_write Z x1 x2 x3 x4 σ = 2) : th_P_write Z x1 x2 x3 x4 σ = 3 := by
  unfold th_P_write th_P_endpointOrThrow at *
  generalize p_endpointOf Z x1 σ = o1 at *
  generalize p_eot Z x1 σ = o2 at *
  rcases o1 with _ | K <;> rcases o2 with _ | K1 <;> simp_all [xb_om]
  rcases th_u K1 x2 σ with u | u | u <;> simp_all
  generalize p_uot K1 x2 σ = o3 at *
  rcases o3 with _ | K2 <;> simp_all
  by_cases a : x4 < 1
  · intro z
    exfalso
    rw [Int32.lt_iff_toInt_lt] at a
    rw [Int32.le_iff_toInt_le] at z
    omega
  · simp_all
