-- ===== what calls answer: the number of the exception (0 for none), shared by both sides =====
def uFee (K : CK) (x : Int32) : CK := (x, kDry K, kMill K, kMark K, kNb K, kSpr K, kGoal K)
def uDry (K : CK) (x : Int32) : CK := (kFee K, x, kMill K, kMark K, kNb K, kSpr K, kGoal K)
def uMill (K : CK) (x : Nat) : CK := (kFee K, kDry K, x, kMark K, kNb K, kSpr K, kGoal K)
def uMark (K : CK) (x : Int32) : CK := (kFee K, kDry K, kMill K, x, kNb K, kSpr K, kGoal K)
def uNb (K : CK) (x : Nat) : CK := (kFee K, kDry K, kMill K, kMark K, x, kSpr K, kGoal K)
def uSpr (K : CK) (x : Nat → Int32) : CK := (kFee K, kDry K, kMill K, kMark K, kNb K, x, kGoal K)
def uGoal (K : CK) (x : Nat → Int32) : CK := (kFee K, kDry K, kMill K, kMark K, kNb K, kSpr K, x)
/-- a place by an int -/
def ix (x : Int32) : Nat := x.toNatClampNeg
def c_isIn (x lo hi : Int32) : Int32 := if x < lo then 0 else if hi < x then 0 else 1
theorem isIn_and {x lo hi : Int32} (h : ¬ c_isIn x lo hi = 0) : ¬ x < lo ∧ ¬ hi < x := by
  unfold c_isIn at h
  by_cases h1 : x < lo
  · exact absurd (if_pos h1) h
  · by_cases h2 : hi < x
    · exact absurd (by rw [if_neg h1, if_pos h2]) h
    · exact ⟨h1, h2⟩
theorem ix_of {x : Int32} (h : ¬ x < 0) : x = nI (ix x) ∧ ix x < 2147483648 := by
  obtain ⟨j, hj, rfl⟩ := nI_of h
  unfold ix
  rw [nI_clamp hj]
  exact ⟨rfl, hj⟩
theorem ix_nI {n : Nat} (h : n < 2147483648) : ix (nI n) = n := nI_clamp h
theorem isIn_ix {x : Int32} (N : Nat) (hN : N < 2147483648) {hi : Int32} (e : hi = nI N) (h : ¬ c_isIn x 0 hi = 0) : x = nI (ix x) ∧ ix x ≤ N := by
  subst e
  obtain ⟨h1, h2⟩ := isIn_and h
  obtain ⟨e1, e2⟩ := ix_of h1
  refine ⟨e1, ?_⟩
  rw [e1] at h2
  exact Nat.not_lt.mp (fun q => h2 (nI_lt q e2))
theorem isIn_ix1 {x : Int32} (N : Nat) (hN : N < 2147483648) {hi : Int32} (e : hi = nI N) (h : ¬ c_isIn x 1 hi = 0) : x = nI (ix x) ∧ 1 ≤ ix x ∧ ix x ≤ N := by
  subst e
  obtain ⟨h1, h2⟩ := isIn_and h
  have h0 : ¬ x < 0 := fun q => h1 (Int32.lt_trans q (by decide))
  obtain ⟨e1, e2⟩ := ix_of h0
  refine ⟨e1, ?_, ?_⟩
  · rw [e1] at h1
    exact Nat.not_lt.mp (fun q => h1 (nI_lt (b := 1) q (by decide)))
  · rw [e1] at h2
    exact Nat.not_lt.mp (fun q => h2 (nI_lt q e2))
theorem isIn_ixm {x : Int32} (h : ¬ c_isIn x (-1) 5 = 0) : x = nI (ix (x + 1)) - 1 ∧ ix (x + 1) ≤ 6 := by
  obtain ⟨h1, h2⟩ := isIn_and h
  have a1 : (-1 : Int32).toInt ≤ x.toInt := Int32.le_iff_toInt_le.mp (Int32.not_lt.mp h1)
  have a2 : x.toInt ≤ (5 : Int32).toInt := Int32.le_iff_toInt_le.mp (Int32.not_lt.mp h2)
  have b1 : (-1 : Int32).toInt = -1 := by decide
  have b2 : (5 : Int32).toInt = 5 := by decide
  rw [b1] at a1
  rw [b2] at a2
  have e : x = -1 ∨ x = 0 ∨ x = 1 ∨ x = 2 ∨ x = 3 ∨ x = 4 ∨ x = 5 := by
    have c : x.toInt = (-1 : Int32).toInt ∨ x.toInt = (0 : Int32).toInt ∨ x.toInt = (1 : Int32).toInt ∨ x.toInt = (2 : Int32).toInt ∨ x.toInt = (3 : Int32).toInt ∨ x.toInt = (4 : Int32).toInt ∨ x.toInt = (5 : Int32).toInt := by
      have d0 : (0 : Int32).toInt = 0 := by decide
      have d1 : (1 : Int32).toInt = 1 := by decide
      have d2 : (2 : Int32).toInt = 2 := by decide
      have d3 : (3 : Int32).toInt = 3 := by decide
      have d4 : (4 : Int32).toInt = 4 := by decide
      rw [b1, b2, d0, d1, d2, d3, d4]
      omega
    rcases c with c | c | c | c | c | c | c
    · exact Or.inl (Int32.toInt_inj.mp c)
    · exact Or.inr (Or.inl (Int32.toInt_inj.mp c))
    · exact Or.inr (Or.inr (Or.inl (Int32.toInt_inj.mp c)))
    · exact Or.inr (Or.inr (Or.inr (Or.inl (Int32.toInt_inj.mp c))))
    · exact Or.inr (Or.inr (Or.inr (Or.inr (Or.inl (Int32.toInt_inj.mp c)))))
    · exact Or.inr (Or.inr (Or.inr (Or.inr (Or.inr (Or.inl (Int32.toInt_inj.mp c))))))
    · exact Or.inr (Or.inr (Or.inr (Or.inr (Or.inr (Or.inr (Int32.toInt_inj.mp c))))))
  rcases e with rfl | rfl | rfl | rfl | rfl | rfl | rfl <;> decide
theorem isIn_nb {x : Int32} {n : Nat} (hn : n < 2147483648) (h : ¬ c_isIn x 0 (nI n - 1) = 0) : x = nI (ix x) ∧ ix x < n := by
  cases n with
  | zero =>
    obtain ⟨h1, h2⟩ := isIn_and h
    exact absurd (Int32.lt_of_lt_of_le (show nI 0 - 1 < 0 by decide) (Int32.not_lt.mp h1)) h2
  | succ n =>
    rw [nI_pred] at h
    obtain ⟨a, b⟩ := isIn_ix n (by omega) rfl h
    exact ⟨a, by omega⟩
theorem nb_lt {n : Nat} (h : n ≤ 10) (c : ¬ nI n = (10 : Int32)) : n < 10 := by
  rcases Nat.lt_or_ge n 10 with q | q
  · exact q
  · exact absurd (by rw [show n = 10 by omega]; rfl) c
theorem xk_01 : ¬ (0 : Int32) = 1 := by decide
theorem xk_20 : ¬ (2 : Int32) = 0 := by decide
theorem xk_30 : ¬ (3 : Int32) = 0 := by decide
def q_setSpring (x y : Int32) : Int32 := if c_isIn x 0 7 = 0 then 1 else if c_isIn y 0 30 = 0 then 2 else 0
def q_setMill (x y : Int32) : Int32 := if c_isIn x (-1) 5 = 0 then 1 else if c_isIn y 0 100 = 0 then 2 else 0
def q_setFee (x : Int32) : Int32 := if c_isIn x 0 20 = 0 then 1 else 0
def q_water (V : CD) (x y : Int32) : Int32 := if c_isIn x 0 5 = 0 then 1 else if c_isIn y 1 60 = 0 then 2 else if (y + 1) / 2 ≤ dBank V then 0 else 3
def q_work (V : CD) (x : Int32) : Int32 := if c_isIn x 0 4 = 0 then 1 else if dFull V (ix x) = 0 then (if c_canFill V (ix x) = 0 then 2 else 0) else 0
def q_barge (K : CK) (x y z : Int32) : Int32 := if c_isIn x 0 5 = 0 then 1 else if c_isIn y 0 5 = 0 then 1 else if c_isIn z 0 99 = 0 then 2 else if nI (kNb K) = 10 then 3 else 0
def q_send (K : CK) (x y : Int32) : Int32 := if c_isIn x 0 (nI (kNb K) - 1) = 0 then 1 else if c_isIn y 0 5 = 0 then 1 else 0
def q_told (K : CK) (x y : Int32) : Int32 := if c_isIn x 0 (nI (kNb K) - 1) = 0 then 1 else if c_isIn y 0 4 = 0 then 1 else 0
def q_in2 (x a y b : Int32) : Int32 := if c_isIn x 0 a = 0 then 1 else if c_isIn y 0 b = 0 then 1 else 0
def q_count (x : Int32) : Int32 := if c_isIn x 0 9 = 0 then 1 else 0
def q_hours (x n : Int32) : Int32 := if c_isIn x 1 n = 0 then 1 else 0
def q_arrives (K : CK) (x : Int32) : Int32 := if c_isIn x 0 (nI (kNb K) - 1) = 0 then 1 else 0
def q_foresee (x y : Int32) : Int32 := if c_isIn x 1 60 = 0 then 1 else if c_isIn y 2 6 = 0 then 2 else 0
def K_spring (K : CK) (x y : Int32) : CK := if q_setSpring x y = 0 then uSpr K (upd (kSpr K) (ix x) y) else K
def K_mill (K : CK) (x y : Int32) : CK := if q_setMill x y = 0 then (kFee K, kDry K, ix (x + 1), y, kNb K, kSpr K, kGoal K) else K
def K_fee (K : CK) (x : Int32) : CK := if q_setFee x = 0 then uFee K x else K
def K_barge (K : CK) (x y z : Int32) : CK := if q_barge K x y z = 0 then (kFee K, kDry K, kMill K, kMark K, kNb K + 1, kSpr K, upd (kGoal K) (kNb K) y) else K
def V_barge (K : CK) (V : CD) (x y z : Int32) : CD := if q_barge K x y z = 0 then tPur (tAt V (upd (dAt V) (kNb K) x)) (upd (dPur V) (kNb K) z) else V
def K_send (K : CK) (x y : Int32) : CK := if q_send K x y = 0 then uGoal K (upd (kGoal K) (ix x) y) else K
def V_paid (V : CD) (y : Int32) : CD := tBank V (dBank V - (y + 1) / 2)
def r_or0 (q r : Int32) : Int32 := if q = 0 then r else 0
/-- digests -/
def dgL (f : Nat → Int32) : Nat → Nat → Int64 → Int64
  | 0, _, d => d
  | m + 1, i, d => dgL f m (i + 1) (d * 31 + (f i).toInt64)
def dgN (f : Nat → Nat → Int32) (w : Nat) : Nat → Nat → Int64 → Int64
  | 0, _, d => d
  | m + 1, p, d => dgN f w m (p + 1) (dgL (f p) w 0 d)
def dgA (W : Nat → Int32) (K : CK) (P L B : Nat → Nat → Int32) : Int64 := dgN B 5 (kNb K) 0 (dgN L 5 5 0 (dgN P 4 6 0 (dgL (kSpr K) 8 0 (dgL W 10 0 1453 * 31 + (if kDry K = 0 then (0 : Int32) else 1).toInt64))))
theorem nz01 {x : Int32} (h : x = 0 ∨ x = 1) : narrow .boolean (.int x) = .int x := by rcases h with rfl | rfl <;> rfl
theorem fz01 {x : Int32} (h : x = 0 ∨ x = 1) : fits .boolean (.int x) = true := by rcases h with rfl | rfl <;> rfl
theorem isIn_ixl {x lo hi : Int32} (a N : Nat) (hN : N < 2147483648) (ha : a < 2147483648) (e0 : lo = nI a) (e : hi = nI N) (h : ¬ c_isIn x lo hi = 0) : x = nI (ix x) ∧ a ≤ ix x ∧ ix x ≤ N := by
  subst e
  subst e0
  obtain ⟨h1, h2⟩ := isIn_and h
  have h0 : ¬ x < 0 := fun q => h1 (by
    have q1 := Int32.lt_iff_toInt_lt.mp q
    have z : (0 : Int32).toInt = 0 := by decide
    rw [z] at q1
    apply Int32.lt_iff_toInt_lt.mpr
    rw [nI_toInt ha]
    omega)
  obtain ⟨e1, e2⟩ := ix_of h0
  refine ⟨e1, ?_, ?_⟩
  · rw [e1] at h1
    exact Nat.not_lt.mp (fun q => h1 (nI_lt q ha))
  · rw [e1] at h2
    exact Nat.not_lt.mp (fun q => h2 (nI_lt q e2))
theorem xk_10k (k : Nat) : nI (k * 10) + Int32.ofInt 10 = nI ((k + 1) * 10) := by rw [Nat.succ_mul]; exact nI_add (k * 10) 10
