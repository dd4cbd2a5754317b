-- ===== what both sides tell =====
theorem come01 (K : CK) (V : CD) (b : Nat) : c_come K V b = 0 ∨ c_come K V b = 1 := by unfold c_come; split <;> simp
theorem comeL_sum {f : Nat → Int32} : ∀ (m b : Nat) (r : Int32), (∀ j, b ≤ j → j < b + m → f j = 0 ∨ f j = 1) → c_sumL f m b r = c_comeL f m b r := by
  intro m
  induction m with
  | zero => intro b r _; rfl
  | succ m ih =>
    intro b r h
    rw [c_sumL, c_comeL, ih _ _ (fun j h1 h2 => h j (by omega) (by omega))]
    rcases h b (Nat.le_refl _) (by omega) with z | z <;> rw [z] <;> simp
theorem tellW_eq {K : CK} {V : CD} (hF : okF (dFull V)) : ∀ w, w < 10 → c_tellW K V w = z_counts K V (zA V) w
  | 0, _ => rfl
  | 1, _ => rfl
  | 2, _ => (comeL_sum _ _ _ (fun j _ _ => come01 K V j)).symm
  | 3, _ => rfl
  | 4, _ => rfl
  | 5, _ => (comeL_sum _ _ _ (fun j _ h => hF j (by omega))).symm
  | 6, _ => rfl
  | 7, _ => rfl
  | 8, _ => rfl
  | 9, _ => rfl
theorem tellB_eq (K : CK) (V : CD) (b : Nat) : ∀ w, w < 4 → c_tellB K V b w = r4 (dAt V b) (kGoal K b) (dPur V b) (dSer V b) w
  | 0, _ => rfl
  | 1, _ => rfl
  | 2, _ => rfl
  | 3, _ => rfl
theorem tellL0 {K : CK} {V : CD} (hF : okF (dFull V)) {k : Nat} (hk : k < 5) : c_tellL K V k 0 = dFull V k := by
  rw [c_tellL]
  rcases hF k hk with z | z
  · rw [if_pos z, z]
  · rw [if_neg (by rw [z]; decide), z]
theorem waitN_eq (K : CK) (V : CD) (x : Int32) : c_cntL (z_lock K V) x (kNb K) 0 0 = c_waitN K V x := by
  unfold c_waitN
  rw [show z_lock K V = c_waits K V from funext (lock_eq K V)]
theorem okS_0 : okS 0 (fun _ => 0) := by
  intro b hb
  rw [bit_get b hb]
  simp
theorem next_0 {K : CK} {V : CD} {N k : Nat} (hK : okK K) (hV : okV K V N) (hk : k < 5) : z_next K V k (fun _ => 0) = c_next K V k 0 := next_eq hK.1 hk hV.1 hV.2.1 hK.2.2.1 okS_0
theorem okL_sum {f : Nat → Int32} (hf : okL f 6) : ∃ w, w ≤ 600 ∧ c_sumL f 6 0 0 = nI w := by
  obtain ⟨a0, h0, e0⟩ := hf 0 (by decide)
  obtain ⟨a1, h1, e1⟩ := hf 1 (by decide)
  obtain ⟨a2, h2, e2⟩ := hf 2 (by decide)
  obtain ⟨a3, h3, e3⟩ := hf 3 (by decide)
  obtain ⟨a4, h4, e4⟩ := hf 4 (by decide)
  obtain ⟨a5, h5, e5⟩ := hf 5 (by decide)
  refine ⟨0 + a0 + a1 + a2 + a3 + a4 + a5, by omega, ?_⟩
  simp only [c_sumL, e0, e1, e2, e3, e4, e5, show (0 : Int32) = nI 0 by decide, nI_add, Nat.zero_add]
theorem mean_ok : ∀ w, w < 601 → (FP.ddiv (FP.i2d (nI w)) (4618441417868443648) &&& 0x7fffffffffffffff ≤ 0x7ff0000000000000) ∧ Op.cmpValue (FP.dcmp (FP.ddiv (FP.i2d (nI w)) (4618441417868443648)) (FP.ddiv (FP.i2d (nI w)) (4618441417868443648))) .l = 0 := by decide +kernel
theorem mean_n {V : CD} (h : okL (dLev V) 6) : vf_n64 (FP.ddiv (FP.i2d (c_water V)) (4618441417868443648)) ∧ Op.cmpValue (FP.dcmp (FP.ddiv (FP.i2d (c_water V)) (4618441417868443648)) (FP.ddiv (FP.i2d (c_water V)) (4618441417868443648))) .l = 0 := by
  obtain ⟨w, hw, e⟩ := okL_sum h
  unfold c_water
  rw [e]
  exact mean_ok w (by omega)
theorem q_count_v {j : Nat} (h : j < 10) : q_count (nI j) = 0 := by unfold q_count; rw [if_neg (isIn_v0 (hi := 9) 9 rfl (by omega) (by decide))]
theorem q_pound_v {j w : Nat} (h : j < 6) (hw : w < 4) : q_in2 (nI j) 5 (nI w) 3 = 0 := by unfold q_in2; rw [if_neg (isIn_v0 (hi := 5) 5 rfl (by omega) (by decide)), if_neg (isIn_v0 (hi := 3) 3 rfl (by omega) (by decide))]
theorem q_lock_v {j w : Nat} (h : j < 5) (hw : w < 5) : q_in2 (nI j) 4 (nI w) 4 = 0 := by unfold q_in2; rw [if_neg (isIn_v0 (hi := 4) 4 rfl (by omega) (by decide)), if_neg (isIn_v0 (hi := 4) 4 rfl (by omega) (by decide))]
theorem q_told_v {K : CK} {j w : Nat} (hn : kNb K ≤ 10) (h : j < kNb K) (hw : w < 5) : q_told K (nI j) (nI w) = 0 := by unfold q_told; rw [if_neg (isIn_vn h (by omega)), if_neg (isIn_v0 (hi := 4) 4 rfl (by omega) (by decide))]
theorem q_arr_v {K : CK} {j : Nat} (hn : kNb K ≤ 10) (h : j < kNb K) : q_arrives K (nI j) = 0 := by unfold q_arrives; rw [if_neg (isIn_vn h (by omega))]
theorem q_fore_v {w : Nat} (h2 : 2 ≤ w) (h : w < 7) : q_foresee 1 (nI w) = 0 := by unfold q_foresee; rw [if_neg (show ¬ c_isIn 1 1 60 = 0 by decide), if_neg (isIn_v1 (lo := 2) (hi := 6) 2 6 rfl rfl h2 (by omega) (by decide))]
theorem q_hrs_v {j n : Nat} (h1 : 1 ≤ j) (h : j ≤ n) (hn : n < 2147483648) : q_hours (nI j) (nI n) = 0 := by unfold q_hours; rw [if_neg (isIn_v1 (lo := 1) (hi := nI n) 1 n rfl rfl h1 h hn)]
