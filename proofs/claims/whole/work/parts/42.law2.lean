theorem mean_ok : ∀ w, w < 601 → (FP.ddiv (FP.i2d (nI w)) (4618441417868443648) &&& 0x7fffffffffffffff ≤ 0x7ff0000000000000) ∧ Op.cmpValue (FP.dcmp (FP.ddiv (FP.i2d (nI w)) (4618441417868443648)) (FP.ddiv (FP.i2d (nI w)) (4618441417868443648))) .l = 0 := by decide +kernel
theorem mean_n {V : CD} (h : okL (dLev V) 6) : vf_n64 (FP.ddiv (FP.i2d (c_water V)) (4618441417868443648)) ∧ Op.cmpValue (FP.dcmp (FP.ddiv (FP.i2d (c_water V)) (4618441417868443648)) (FP.ddiv (FP.i2d (c_water V)) (4618441417868443648))) .l = 0 := by
  obtain ⟨w, hw, e⟩ := okL_sum h
  unfold c_water
  rw [e]
  exact mean_ok w (by omega)
theorem and31 (x : Int32) : ∃ k, k < 32 ∧ x &&& 31 = nI k := by
  refine ⟨(x &&& 31).toBitVec.toNat, ?_, ?_⟩
  · rw [Int32.toBitVec_and, BitVec.toNat_and]
    exact Nat.lt_of_le_of_lt Nat.and_le_right (by decide)
  · apply Int32.toBitVec_inj.mp
    unfold nI
    show _ = BitVec.ofNat 32 _
    rw [BitVec.ofNat_toNat]; simp
theorem kMark_spring (K : CK) (x y : Int32) : kMark (K_spring K x y) = kMark K := by unfold K_spring; split <;> rfl
theorem kMark_fee (K : CK) (x : Int32) : kMark (K_fee K x) = kMark K := by unfold K_fee; split <;> rfl
theorem kMark_barge (K : CK) (x y z : Int32) : kMark (K_barge K x y z) = kMark K := by unfold K_barge; split <;> rfl
theorem kMark_send (K : CK) (x y : Int32) : kMark (K_send K x y) = kMark K := by unfold K_send; split <;> rfl
theorem kMark_dry (K : CK) (x : Int32) : kMark (uDry K x) = kMark K := rfl
theorem q_lock {x y a b : Int32} (c : q_in2 x a y b = 0) : ¬ c_isIn x 0 a = 0 := by
  intro z; unfold q_in2 at c; rw [if_pos z] at c; exact absurd c (by decide)
theorem q_hrs {x n : Int32} (c : q_hours x n = 0) : ¬ c_isIn x 1 n = 0 := by
  intro z; unfold q_hours at c; rw [if_pos z] at c; exact absurd c (by decide)
theorem q_for {x y : Int32} (c : q_foresee x y = 0) : ¬ c_isIn x 1 60 = 0 := by
  intro z; unfold q_foresee at c; rw [if_pos z] at c; exact absurd c (by decide)
theorem q_wrk {V : CD} {x : Int32} (c : q_work V x = 0) : ¬ c_isIn x 0 4 = 0 := by
  intro z; unfold q_work at c; rw [if_pos z] at c; exact absurd c (by decide)
theorem lock_e {K : CK} {V : CD} {aw : Int32} {wh : Nat → Int32} {x y : Int32} (hK : okK K) (hh : dHour V < 1000000) (hV : okV V aw wh) (c : q_in2 x 4 y 4 = 0) : m_tellL K V wh (ix x) (ix y) = c_tellL K V (ix x) (ix y) :=
  tellL_eq hK hh hV (ix x) (by have := (isIn_ix 4 (by decide) rfl (q_lock c)).2; omega) (ix y)
theorem foresee_e {K : CK} {V : CD} {aw : Int32} {wh : Nat → Int32} {x y : Int32} (hK : okK K) (hh : dHour V + 60 ≤ 1000000) (hV : okV V aw wh) (c : q_foresee x y = 0) : m_tellW K (m_hours K (ix x) V aw wh 0).1 (m_hours K (ix x) V aw wh 0).2.1 (ix y) = c_tellW K (c_hours K (ix x) V 0).1 (ix y) := by
  obtain ⟨-, -, hx⟩ := isIn_ixl 1 60 (by decide) (by decide) rfl rfl (q_for c)
  obtain ⟨a1, -, a3, -⟩ := hours_eq hK (ix x) V aw wh 0 (by omega) hV
  rw [a1]
  exact tellW_eq a3 (ix y)
theorem advise_e {K : CK} {V : CD} {aw : Int32} {wh : Nat → Int32} {x : Int32} (hK : okK K) (hh : dHour V + 40 ≤ 100000) (hV : okV V aw wh) (c : q_hours x 40 = 0) : m_advL K V aw wh (ix x) 11 0 0 (-1) = c_advL K V (ix x) 11 0 0 0 := by
  obtain ⟨-, -, hx⟩ := isIn_ixl 1 40 (by decide) (by decide) rfl rfl (q_hrs c)
  exact adv_eq hK (ix x) (by omega) hV
theorem work_e {V : CD} {aw : Int32} {wh : Nat → Int32} {x : Int32} {v : Int64} (hV : okV V aw wh) (c : q_work V x = 0) (hf : q_work V x = 0 → v = if dFull (C_work V x) (ix x) = 0 then (0 : Int64) else 1) :
    (∀ z : r_or0 (q_work V x) (if dFull (m_work V aw x).1 (ix x) = 1 then 1 else 0) = 0, lg_cmp v 0 = 0) ∧ (∀ z : ¬ r_or0 (q_work V x) (if dFull (m_work V aw x).1 (ix x) = 1 then 1 else 0) = 0, lg_cmp v 1 = 0) := by
  obtain ⟨e1, e2, -⟩ := work_eq (wh := wh) x hV
  have h5 := (isIn_ix 4 (by decide) rfl (q_wrk c)).2
  rw [hf c, r_or0, if_pos c, e1]
  rcases e2.2.1 (ix x) (by omega) with z | z <;> rw [z] <;> simp [lg_same]
