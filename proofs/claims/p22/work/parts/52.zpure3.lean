-- ===== whom a lock serves =====
theorem bit_1 : ∀ q, q < 10 → ∀ b, b < 10 → ((1 : Int32) <<< (nI q &&& 31)).toBitVec.getLsbD b = decide (b = q) := by decide +kernel
theorem bit_sh : ∀ b, b < 10 → ((nI b &&& 31).toBitVec.smod 32#32).toNat = b := by decide +kernel
theorem bit_get (b : Nat) (hb : b < 10) (x : Int32) : ((x >>> (nI b &&& 31)) &&& 1 = 0) = (x.toBitVec.getLsbD b = false) := by
  apply propext
  rw [← Int32.toBitVec_inj, Int32.toBitVec_and, Int32.toBitVec_shiftRight]
  show (x.toBitVec.sshiftRight ((nI b &&& 31).toBitVec.smod 32#32).toNat &&& 1#32 = 0#32) ↔ _
  rw [bit_sh b hb]
  constructor
  · intro h
    have h1 := congrArg (fun v => v.getLsbD 0) h
    simpa [BitVec.getLsbD_sshiftRight, BitVec.getElem_sshiftRight, show b < 32 by omega] using h1
  · intro h
    apply BitVec.eq_of_getLsbD_eq
    intro i hi
    by_cases h0 : i = 0
    · subst h0
      simpa [BitVec.getLsbD_sshiftRight, BitVec.getElem_sshiftRight, show b < 32 by omega] using h
    · simp [h0, BitVec.getLsbD_one]
theorem bit_or (q b : Nat) (hq : q < 10) (hb : b < 10) (s : Int32) : ((s ||| (1 <<< (nI q &&& 31))) >>> (nI b &&& 31)) &&& 1 = 0 ↔ (¬ b = q ∧ (s >>> (nI b &&& 31)) &&& 1 = 0) := by
  rw [bit_get b hb, bit_get b hb, Int32.toBitVec_or, BitVec.getLsbD_or, bit_1 q hq b hb]
  by_cases e : b = q <;> simp [e]
/-- who was served in this hour: the class's bits and the Sim's row say the same -/
def okS (sb : Int32) (wf : Nat → Int32) : Prop := ∀ b, b < 10 → ((sb >>> (nI b &&& 31)) &&& 1 = 0 ↔ wf b = 0)
theorem lock_eq (K : CK) (V : CD) (b : Nat) : z_lock K V b = c_waits K V b := by
  unfold z_lock c_waits c_come c_down
  by_cases h1 : dAt V b = kGoal K b
  · simp [h1]
  · by_cases h2 : kGoal K b ≤ dAt V b
    · have h3 : ¬ dAt V b ≤ kGoal K b := fun q => h1 (Int32.le_antisymm q h2)
      simp [h1, h2, h3]
    · have h3 : dAt V b ≤ kGoal K b := Int32.le_of_lt (Int32.not_le.mp h2)
      simp [h1, h2, h3]
theorem has_eq {V : CD} {k : Nat} (hk : k < 5) (hf : okL (dLev V) 6) : z_has V k = c_canFill V k := by
  obtain ⟨u, hu, eu⟩ := hf (k + 1) (by omega)
  unfold z_has c_canFill
  rw [eu]
  have h : ∀ u, u < 101 → (nI u - 12 < (20 : Int32) ↔ nI u < (32 : Int32)) := by decide +kernel
  have := h u (by omega)
  by_cases q : nI u < (32 : Int32)
  · rw [if_pos q, if_pos (this.mpr q)]
  · rw [if_neg q, if_neg (fun z => q (this.mp z))]
/-- the Sim's rank, as the class asks -/
theorem rank_eq {K : CK} {V : CD} {k b : Nat} (hk : k < 5) (hf : okL (dLev V) 6) (hF : okF (dFull V)) (hd : kDry K = 0 ∨ kDry K = 1) :
    z_rank K V b k = if c_waits K V b = nI k then (if c_can K V k b = 0 then 0 else if c_fits K V k b = 0 then 1 else 2) else 0 := by
  unfold z_rank
  rw [lock_eq]
  by_cases hw : c_waits K V b = nI k
  · rw [if_pos hw, if_pos hw]
    by_cases hp : kFee K ≤ dPur V b
    · rw [if_pos hp]
      unfold c_can c_can2 c_need c_fits z_rank2 z_rankU z_rankD c_down
      rw [if_pos hp, has_eq hk hf]
      rcases hF k hk with z | z <;> rcases hd with y | y <;> by_cases q : dAt V b ≤ kGoal K b <;> by_cases r : c_canFill V k = 0 <;> simp [z, y, q, r]
    · rw [if_neg hp]
      unfold c_can
      rw [if_neg hp, if_pos rfl]
  · rw [if_neg hw, if_neg hw]
/-- the first n by their ranks: the one to be served, its rank -/
def prk (g : Nat → Int32) : Nat → Int32 × Int32
  | 0 => (-1, 0)
  | m + 1 => if (prk g m).2 = 2 then prk g m else if g m = 2 then (nI m, 2) else if (prk g m).2 = 1 then prk g m else if g m = 1 then (nI m, 1) else prk g m
theorem prk_2 (g : Nat → Int32) (m : Nat) : (prk g m).2 = 2 ∨ (prk g m).2 = 1 ∨ prk g m = (-1, 0) := by
  induction m with
  | zero => exact Or.inr (Or.inr rfl)
  | succ m ih =>
    rw [prk]
    by_cases h : (prk g m).2 = 2
    · rw [if_pos h]; exact Or.inl h
    · rw [if_neg h]
      by_cases h2 : g m = 2
      · rw [if_pos h2]; exact Or.inl rfl
      · rw [if_neg h2]
        by_cases h3 : (prk g m).2 = 1
        · rw [if_pos h3]; exact Or.inr (Or.inl h3)
        · rw [if_neg h3]
          by_cases h4 : g m = 1
          · rw [if_pos h4]; exact Or.inr (Or.inl rfl)
          · rw [if_neg h4]; exact ih
theorem prk_1 (g : Nat → Int32) (m : Nat) (h : (prk g m).2 = 1) : ∃ q, q < m ∧ (prk g m).1 = nI q := by
  induction m with
  | zero => exact absurd h (show ¬ (0 : Int32) = 1 by decide)
  | succ m ih =>
    rw [prk] at h ⊢
    by_cases h1 : (prk g m).2 = 2
    · rw [if_pos h1] at h; rw [h1] at h; exact absurd h (by decide)
    · rw [if_neg h1] at h ⊢
      by_cases h2 : g m = 2
      · rw [if_pos h2] at h; exact absurd h (show ¬ (2 : Int32) = 1 by decide)
      · rw [if_neg h2] at h ⊢
        by_cases h3 : (prk g m).2 = 1
        · rw [if_pos h3]
          obtain ⟨q, hq, e⟩ := ih h3
          exact ⟨q, by omega, e⟩
        · rw [if_neg h3] at h ⊢
          by_cases h4 : g m = 1
          · rw [if_pos h4]; exact ⟨m, by omega, rfl⟩
          · rw [if_neg h4] at h; exact absurd h h3
/-- the class's way through the barges -/
theorem cnext_prk {K : CK} {V : CD} {k : Nat} {sb : Int32} {g : Nat → Int32} (N : Nat) (hN : N < 1000) (hg : ∀ b, b < N → g b = if c_wt K V k sb b = 0 then 0 else if c_can K V k b = 0 then 0 else if c_fits K V k b = 0 then 1 else 2) :
    ∀ (m b : Nat), m + b = N → (prk g b).2 ≠ 2 → c_nextL K V k sb m b (prk g b).1 = (prk g N).1 := by
  intro m
  induction m with
  | zero => intro b hb _; rw [Nat.zero_add] at hb; subst hb; rfl
  | succ m ih =>
    intro b hb h2
    have hgb := hg b (by omega)
    have stay : g b = 0 → prk g (b + 1) = prk g b := by
      intro z
      rw [prk, if_neg h2, if_neg (by rw [z]; decide)]
      by_cases h3 : (prk g b).2 = 1
      · rw [if_pos h3]
      · rw [if_neg h3, if_neg (by rw [z]; decide)]
    rw [c_nextL]
    by_cases w : c_wt K V k sb b = 0
    · rw [if_pos w]
      rw [if_pos w] at hgb
      have := stay hgb
      rw [← this]
      exact ih (b + 1) (by omega) (by rw [this]; exact h2)
    · rw [if_neg w]
      rw [if_neg w] at hgb
      by_cases c : c_can K V k b = 0
      · rw [if_pos c]
        rw [if_pos c] at hgb
        have := stay hgb
        rw [← this]
        exact ih (b + 1) (by omega) (by rw [this]; exact h2)
      · rw [if_neg c]
        rw [if_neg c] at hgb
        by_cases t : c_fits K V k b = 0
        · rw [if_pos t]
          rw [if_pos t] at hgb
          by_cases f : (prk g b).1 = -1
          · rw [if_pos f]
            have h3 : ¬ (prk g b).2 = 1 := by
              intro z
              obtain ⟨q, hq, e⟩ := prk_1 g b z
              rw [e] at f; exact xk_nm1 (by omega) f
            have e : prk g (b + 1) = (nI b, 1) := by rw [prk, if_neg h2, if_neg (by rw [hgb]; decide), if_neg h3, if_pos hgb]
            have := ih (b + 1) (by omega) (by rw [e]; exact (show ¬ (1 : Int32) = 2 by decide))
            rw [e] at this
            exact this
          · rw [if_neg f]
            have h3 : (prk g b).2 = 1 := by
              rcases prk_2 g b with z | z | z
              · exact absurd z h2
              · exact z
              · rw [z] at f; exact absurd rfl f
            have e : prk g (b + 1) = prk g b := by rw [prk, if_neg h2, if_neg (by rw [hgb]; decide), if_pos h3]
            rw [← e]
            exact ih (b + 1) (by omega) (by rw [e]; exact h2)
        · rw [if_neg t]
          rw [if_neg t] at hgb
          have e : prk g (b + 1) = (nI b, 2) := by rw [prk, if_neg h2, if_pos hgb]
          have : ∀ n, b + 1 ≤ n → prk g n = (nI b, 2) := by
            intro n hn
            induction n with
            | zero => omega
            | succ n ih2 =>
              by_cases q : n = b
              · subst q; exact e
              · have h9 := ih2 (by omega)
                rw [prk, h9, if_pos rfl]
          rw [this N (by omega)]
/-- the Sim's way -/
theorem znext_prk {K : CK} {V : CD} {k : Nat} {wf g : Nat → Int32} (hg : ∀ b, g b = if wf b = 0 then z_rank K V b k else 0) (h012 : ∀ b, g b = 0 ∨ g b = 1 ∨ g b = 2) :
    ∀ (m : Nat) (best rk : Int32), (rk = 0 ∨ rk = 1 ∨ rk = 2) → z_nextL K V k wf m best rk = if (prk g m).2 = 0 then best else if rk ≤ (prk g m).2 then (prk g m).1 else best := by
  intro m
  induction m with
  | zero => intro best rk _; rw [z_nextL, prk]; exact (if_pos rfl).symm
  | succ m ih =>
    intro best rk hr
    have e : z_nextL K V k wf (m + 1) best rk = if g m = 0 then z_nextL K V k wf m best rk else if rk ≤ g m then z_nextL K V k wf m (nI m) (g m) else z_nextL K V k wf m best rk := by
      rw [z_nextL, hg m]
      by_cases w : wf m = 0
      · rw [if_pos w, if_pos w]
      · rw [if_neg w, if_neg w, if_pos rfl]
    rw [e, ih best rk hr, ih (nI m) (g m) (h012 m), prk]
    have l01 : (0 : Int32) ≤ 1 := by decide
    have l02 : (0 : Int32) ≤ 2 := by decide
    have l12 : (1 : Int32) ≤ 2 := by decide
    have n21 : ¬ (2 : Int32) ≤ 1 := by decide
    rcases prk_2 g m with p | p | p <;> rcases h012 m with y | y | y <;> rcases hr with r | r | r <;> simp [p, y, r, l01, l02, l12, n21]
theorem next_eq {K : CK} {V : CD} {sb : Int32} {wf : Nat → Int32} {k : Nat} (hn : kNb K ≤ 10) (hk : k < 5) (hf : okL (dLev V) 6) (hF : okF (dFull V)) (hd : kDry K = 0 ∨ kDry K = 1) (hs : okS sb wf) : z_next K V k wf = c_next K V k sb := by
  have h012 : ∀ b, (if wf b = 0 then z_rank K V b k else 0) = 0 ∨ (if wf b = 0 then z_rank K V b k else 0) = 1 ∨ (if wf b = 0 then z_rank K V b k else 0) = 2 := by
    intro b
    rw [rank_eq hk hf hF hd]
    by_cases h1 : wf b = 0 <;> by_cases h2 : c_waits K V b = nI k <;> by_cases h3 : c_can K V k b = 0 <;> by_cases h4 : c_fits K V k b = 0 <;> simp [h1, h2, h3, h4]
  have z := znext_prk (K := K) (V := V) (k := k) (wf := wf) (g := fun b => if wf b = 0 then z_rank K V b k else 0) (fun b => rfl) h012 (kNb K) (-1) 0 (Or.inl rfl)
  have c := cnext_prk (K := K) (V := V) (k := k) (sb := sb) (g := fun b => if wf b = 0 then z_rank K V b k else 0) (kNb K) (by omega) (fun b hb => by
    show (if wf b = 0 then z_rank K V b k else 0) = _
    rw [rank_eq hk hf hF hd]
    unfold c_wt
    have hsb := hs b (by omega)
    by_cases h1 : wf b = 0
    · have h1' := hsb.mpr h1
      rw [if_pos h1]
      by_cases h2 : c_waits K V b = nI k
      · rw [if_pos h2, if_pos h2, if_pos h1', if_neg xk_10]
      · rw [if_neg h2, if_neg h2, if_pos rfl]
    · have h1' : ¬ (sb >>> (nI b &&& 31)) &&& 1 = 0 := fun q => h1 (hsb.mp q)
      rw [if_neg h1]
      by_cases h2 : c_waits K V b = nI k
      · rw [if_pos h2, if_neg h1', if_pos rfl]
      · rw [if_neg h2, if_pos rfl]) (kNb K) 0 (by omega) (show ¬ (0 : Int32) = 2 by decide)
  unfold z_next c_next
  rw [z]
  have c' : c_nextL K V k sb (kNb K) 0 (-1) = _ := c
  rw [c']
  rcases prk_2 (fun b => if wf b = 0 then z_rank K V b k else 0) (kNb K) with p | p | p
  · rw [p, if_neg (by decide), if_pos (by decide)]
  · rw [p, if_neg (by decide), if_pos (by decide)]
  · rw [p, if_pos rfl]
theorem nextL_P {K : CK} {V : CD} {sb : Int32} {k : Nat} (N : Nat) : ∀ (m b : Nat) (f : Int32), m + b = N → (f = -1 ∨ ∃ q, q < N ∧ f = nI q ∧ c_waits K V q = nI k ∧ ¬ c_can K V k q = 0 ∧ (sb >>> (nI q &&& 31)) &&& 1 = 0) → (c_nextL K V k sb m b f = -1 ∨ ∃ q, q < N ∧ c_nextL K V k sb m b f = nI q ∧ c_waits K V q = nI k ∧ ¬ c_can K V k q = 0 ∧ (sb >>> (nI q &&& 31)) &&& 1 = 0) := by
  intro m
  induction m with
  | zero => intro b f _ h; exact h
  | succ m ih =>
    intro b f hb h
    rw [c_nextL]
    by_cases w : c_wt K V k sb b = 0
    · rw [if_pos w]; exact ih _ _ (by omega) h
    · have hw : c_waits K V b = nI k ∧ (sb >>> (nI b &&& 31)) &&& 1 = 0 := by
        unfold c_wt at w
        by_cases q : c_waits K V b = nI k
        · refine ⟨q, ?_⟩
          rw [if_pos q] at w
          by_cases y : (sb >>> (nI b &&& 31)) &&& 1 = 0
          · exact y
          · rw [if_neg y] at w; exact absurd rfl w
        · rw [if_neg q] at w; exact absurd rfl w
      rw [if_neg w]
      by_cases c : c_can K V k b = 0
      · rw [if_pos c]; exact ih _ _ (by omega) h
      · rw [if_neg c]
        by_cases t : c_fits K V k b = 0
        · rw [if_pos t]
          by_cases e : f = -1
          · rw [if_pos e]; exact ih _ _ (by omega) (Or.inr ⟨b, by omega, rfl, hw.1, c, hw.2⟩)
          · rw [if_neg e]; exact ih _ _ (by omega) h
        · rw [if_neg t]; exact Or.inr ⟨b, by omega, rfl, hw.1, c, hw.2⟩
theorem next_P {K : CK} {V : CD} {sb : Int32} {k : Nat} (h : ¬ c_next K V k sb = -1) : ∃ q, q < kNb K ∧ c_next K V k sb = nI q ∧ c_waits K V q = nI k ∧ ¬ c_can K V k q = 0 ∧ (sb >>> (nI q &&& 31)) &&& 1 = 0 := by
  rcases nextL_P (sb := sb) (kNb K) (kNb K) 0 (-1) (by omega) (Or.inl rfl) with z | z
  · exact absurd z h
  · exact z
