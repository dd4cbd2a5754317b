theorem xk_m1 (x : Int32) : x + Int32.ofInt (-1) = x - 1 := by
  rw [Int32.sub_eq_add_neg]; rfl
theorem xk_nm1 {n : Nat} (h : n < 2147483648) : ¬ nI n = -1 := by
  intro e
  have h1 := congrArg Int32.toInt e
  rw [nI_toInt h] at h1
  have h2 : (-1 : Int32).toInt = -1 := by decide
  omega
theorem xk_10 : ¬ (1 : Int32) = 0 := by decide
theorem xk_nlt {a b : Nat} (ha : a < 2147483648) (hb : b < 2147483648) (h : a < b) (c : nI b ≤ nI a) : False := absurd ((nI_leI hb ha).mp c) (Nat.not_le.mpr h)
theorem xk_ge {a b : Nat} (hb : b < 2147483648) (h : a ≤ b) (c : ¬ nI a ≤ nI b) : False := c (nI_le h hb)
theorem c_nextL_cases (K : CK) (V : CD) (k : Nat) (sb : Int32) (N : Nat) : ∀ (m b : Nat) (f : Int32), m + b = N → (f = -1 ∨ ∃ q, q < N ∧ f = nI q) → (c_nextL K V k sb m b f = -1 ∨ ∃ q, q < N ∧ c_nextL K V k sb m b f = nI q) := by
  intro m
  induction m with
  | zero => intro b f h hf; exact hf
  | succ m ih =>
    intro b f h hf
    have hb : ∃ q, q < N ∧ nI b = nI q := ⟨b, by omega, rfl⟩
    simp only [c_nextL]
    split
    · exact ih _ _ (by omega) hf
    · split
      · exact ih _ _ (by omega) hf
      · split
        · split
          · exact ih _ _ (by omega) (Or.inr hb)
          · exact ih _ _ (by omega) hf
        · exact Or.inr hb
theorem c_next_some {K : CK} {V : CD} {k : Nat} {sb : Int32} (h : ¬ c_next K V k sb = -1) : ∃ q, q < kNb K ∧ c_next K V k sb = nI q := by
  rcases c_nextL_cases K V k sb (kNb K) (kNb K) 0 (-1) (by omega) (Or.inl rfl) with h1 | h1
  · exact absurd h1 h
  · exact h1
-- what an hour leaves of the hour itself
theorem dHour_pour (V : CD) (n : Nat) (x : Int32) : dHour (c_pour V n x) = dHour V := rfl
theorem dHour_turn (V : CD) (k : Nat) : dHour (c_turn V k) = dHour V := by unfold c_turn; split <;> rfl
theorem dHour_mill (K : CK) (V : CD) : dHour (c_mill K V) = dHour V := by
  unfold c_mill
  split
  · rfl
  · split <;> rfl
theorem dHour_serve2 (K : CK) (V : CD) (k b : Nat) : dHour (c_serve2 K V k b) = dHour V := rfl
theorem dHour_serve (K : CK) (V : CD) (k b : Nat) : dHour (c_serve K V k b) = dHour V := by
  unfold c_serve
  rw [dHour_serve2, dHour_turn]
  split
  · exact dHour_turn V k
  · rfl
theorem dHour_hourL (K : CK) : ∀ (n : Nat) (V : CD) (sb sv : Int32), dHour (c_hourL K n V sb sv).1 = dHour V := by
  intro n
  induction n with
  | zero => intro V sb sv; rfl
  | succ n ih =>
    intro V sb sv
    simp only [c_hourL]
    split
    · exact ih _ _ _
    · rw [ih, dHour_serve]
theorem dHour_tHour (V : CD) (x : Nat) : dHour (tHour V x) = x := rfl
theorem dHour_hour (K : CK) (V : CD) : dHour (c_hour K V).1 = dHour V + 1 := by
  unfold c_hour
  rw [dHour_tHour, dHour_hourL]
  unfold c_hourA
  rw [dHour_mill, dHour_pour]
theorem xk_xor (a b : Nat) : nI a ^^^ nI b = nI (a ^^^ b) := by
  apply Int32.toBitVec_inj.1
  show BitVec.ofNat 32 a ^^^ BitVec.ofNat 32 b = BitVec.ofNat 32 (a ^^^ b)
  apply BitVec.eq_of_getLsbD_eq
  intro i hi
  simp [hi]
theorem xk_fmod {h : Nat} (hh : h < 2147483648) : 0 ≤ nI (h ^^^ 8) := nI_pos' (Nat.xor_lt_two_pow (n := 31) hh (by decide))
